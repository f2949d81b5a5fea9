def xT (f : Nat → Int32) : Prop := (¬ f 0 < 0 ∧ f 0 ≤ 4) ∧ (¬ f 1 < 0 ∧ f 1 ≤ 4) ∧ (¬ f 2 < 0 ∧ f 2 ≤ 6) ∧ (¬ f 3 < 0 ∧ f 3 ≤ 4) ∧ (¬ f 4 < 0 ∧ f 4 ≤ 6)
theorem xT_z : xT (fun _ => 0) := by unfold xT; decide
def xE (f : Nat → Int32) : Prop := ∀ k, ¬ f k < 0
theorem xE_up {f : Nat → Int32} {k : Nat} {x : Int32} (h : xE f) (hx : ¬ x < 0) : xE (upd f k x) := fun j => by
  unfold upd
  by_cases e : j = k
  · rw [if_pos e]; exact hx
  · rw [if_neg e]; exact h j
theorem xT_up0 {f : Nat → Int32} (h : xT f) (h4 : f ((0 : Int32).toNatClampNeg) < 4) : xT (upd f ((0 : Int32).toNatClampNeg) ((f ((0 : Int32).toNatClampNeg)) + 1)) := by
  have h4 : f 0 < 4 := h4
  exact ⟨(show ¬ (f 0 + 1) < 0 ∧ (f 0 + 1) ≤ 4 from ⟨by have := h.1.1; lia, by lia⟩), h.2.1, h.2.2.1, h.2.2.2.1, h.2.2.2.2⟩
theorem xT_up1 {f : Nat → Int32} (h : xT f) (h4 : f ((1 : Int32).toNatClampNeg) < 4) : xT (upd f ((1 : Int32).toNatClampNeg) ((f ((1 : Int32).toNatClampNeg)) + 1)) := by
  have h4 : f 1 < 4 := h4
  exact ⟨h.1, (show ¬ (f 1 + 1) < 0 ∧ (f 1 + 1) ≤ 4 from ⟨by have := h.2.1.1; lia, by lia⟩), h.2.2.1, h.2.2.2.1, h.2.2.2.2⟩
theorem xT_up2 {f : Nat → Int32} (h : xT f) (h4 : f ((2 : Int32).toNatClampNeg) < 6) : xT (upd f ((2 : Int32).toNatClampNeg) ((f ((2 : Int32).toNatClampNeg)) + 1)) := by
  have h4 : f 2 < 6 := h4
  exact ⟨h.1, h.2.1, (show ¬ (f 2 + 1) < 0 ∧ (f 2 + 1) ≤ 6 from ⟨by have := h.2.2.1.1; lia, by lia⟩), h.2.2.2.1, h.2.2.2.2⟩
theorem xT_up3 {f : Nat → Int32} (h : xT f) (h4 : f ((3 : Int32).toNatClampNeg) < 4) : xT (upd f ((3 : Int32).toNatClampNeg) ((f ((3 : Int32).toNatClampNeg)) + 1)) := by
  have h4 : f 3 < 4 := h4
  exact ⟨h.1, h.2.1, h.2.2.1, (show ¬ (f 3 + 1) < 0 ∧ (f 3 + 1) ≤ 4 from ⟨by have := h.2.2.2.1.1; lia, by lia⟩), h.2.2.2.2⟩
theorem xT_up4 {f : Nat → Int32} (h : xT f) (h4 : f ((4 : Int32).toNatClampNeg) < 6) : xT (upd f ((4 : Int32).toNatClampNeg) ((f ((4 : Int32).toNatClampNeg)) + 1)) := by
  have h4 : f 4 < 6 := h4
  exact ⟨h.1, h.2.1, h.2.2.1, h.2.2.2.1, (show ¬ (f 4 + 1) < 0 ∧ (f 4 + 1) ≤ 6 from ⟨by have := h.2.2.2.2.1; lia, by lia⟩)⟩

def fp_beginNamed0 (pfa : Int32) (pfp : Int32) (lxe : Int32) (lxa : Int32) (lxt : Int32) (lxp : Int32) (lxn : Int32) (lxl : Int32) (fBy : Nat → Int32) (fCo : Nat → Int32) (fTo : Nat → Int32) (fNm : Nat → Nat → Int32) : Int32 × Int32 × (Int32) × (Int32) × (Int32) × (Int32) × (Int32) × (Int32) × (Int32) × (Nat → Nat → Int32) := (if fTo ((0 : Int32).toNatClampNeg) < 4 then (xL ((fe_advance lxe lxa lxn lxl fBy fCo)) (fun u_4 => (if u_4.2.1 = 23 then (xL ((fb_find0 fTo fNm u_4.2.2.2.2)) (fun r_13 => (if r_13 = (-1) then (xL ((fe_advance lxe u_4.1 u_4.2.2.2.1 u_4.2.2.2.2 fBy fCo)) (fun u_18 => ((0 : Int32), fTo ((0 : Int32).toNatClampNeg), pfa, pfp, u_18.1, u_18.2.1, u_18.2.2.1, u_18.2.2.2.1, u_18.2.2.2.2, (va_up fNm 0 (upd (fNm 0) ((fTo ((0 : Int32).toNatClampNeg)).toNatClampNeg) u_4.2.2.2.2))))) else ((1 : Int32), (0 : Int32), (3 : Int32), u_4.2.2.1, u_4.1, u_4.2.1, u_4.2.2.1, u_4.2.2.2.1, u_4.2.2.2.2, fNm)))) else ((1 : Int32), (0 : Int32), (1 : Int32), u_4.2.2.1, u_4.1, u_4.2.1, u_4.2.2.1, u_4.2.2.2.1, u_4.2.2.2.2, fNm)))) else ((1 : Int32), (0 : Int32), (2 : Int32), lxp, lxa, lxt, lxp, lxn, lxl, fNm))
theorem gp_beginNamed0_s0  : (0 : Int32) = 0 := (by decide)
theorem gp_beginNamed0_s1  : (0 : Int32) = 0 := (by decide)
theorem gp_beginNamed0_s2  : (0 : Int32) = 0 := (by decide)
theorem gp_beginNamed0_s3 {y0 : Int32} (h0 : y0 < 4) (h1 : ¬ (y0 < 0)) (h2 : y0 ≤ 4) : ¬ (y0 < 0) ∧ ¬ (12 ≤ y0) := by lia
theorem gp_beginNamed0_s4 {y0 : Int32} (h0 : ¬ (y0 < 0)) : ¬ (y0 < 0) := h0
theorem gp_beginNamed0_s5 {y0 : Int32} (h0 : ¬ (y0 < 0)) : ¬ (y0 < 0) := h0
theorem gp_beginNamed0_s6 {y0 : Int32} (h0 : y0 < 4) (h1 : ¬ (y0 < 0)) (h2 : y0 ≤ 4) : ¬ (y0 < 0) := h1
theorem gp_beginNamed0_s7 {y0 : Int32} (h0 : y0 < 4) (h1 : ¬ (y0 < 0)) (h2 : y0 ≤ 4) : y0 < 4 := h0
theorem gp_beginNamed0_s8 {y0 : Int32} (h0 : y0 < 4) (h1 : ¬ (y0 < 0)) (h2 : y0 ≤ 4) : y0 = y0 := by lia
theorem gp_beginNamed0_s9  : ¬ ((1 : Int32) = 0) := (by decide)
theorem gp_beginNamed0_s10  : ¬ ((1 : Int32) = 0) := (by decide)
theorem gp_beginNamed0_s11  : ¬ ((1 : Int32) = 0) := (by decide)
theorem dX7_beginNamed_0 : decode cX7_beginNamed 0 = .ok (.aload_n 0, 1) := zk_42 (by decide +kernel)
theorem dX7_beginNamed_1 : decode cX7_beginNamed 1 = .ok (.getfield 31, 3) := zk_180 (by decide +kernel)
theorem dX7_beginNamed_4 : decode cX7_beginNamed 4 = .ok (.getfield 127, 3) := zk_180 (by decide +kernel)
theorem dX7_beginNamed_7 : decode cX7_beginNamed 7 = .ok (.iload_n 1, 1) := zk_27 (by decide +kernel)
theorem dX7_beginNamed_8 : decode cX7_beginNamed 8 = .ok (.iaload, 1) := zk_46 (by decide +kernel)
theorem dX7_beginNamed_9 : decode cX7_beginNamed 9 = .ok (.istore_n 2, 1) := zk_61 (by decide +kernel)
theorem dX7_beginNamed_10 : decode cX7_beginNamed 10 = .ok (.aload_n 0, 1) := zk_42 (by decide +kernel)
theorem dX7_beginNamed_11 : decode cX7_beginNamed 11 = .ok (.iload_n 2, 1) := zk_28 (by decide +kernel)
theorem dX7_beginNamed_12 : decode cX7_beginNamed 12 = .ok (.getstatic 291, 3) := zk_178 (by decide +kernel)
theorem dX7_beginNamed_15 : decode cX7_beginNamed 15 = .ok (.iload_n 1, 1) := zk_27 (by decide +kernel)
theorem dX7_beginNamed_16 : decode cX7_beginNamed 16 = .ok (.iaload, 1) := zk_46 (by decide +kernel)
theorem dX7_beginNamed_17 : decode cX7_beginNamed 17 = .ok (.if_icmp .lt 7, 3) := zk_161 (by decide +kernel)
theorem dX7_beginNamed_24 : decode cX7_beginNamed 24 = .ok (.iconst 0, 1) := zk_3 (by decide +kernel)
theorem dX7_beginNamed_25 : decode cX7_beginNamed 25 = .ok (.iconst 2, 1) := zk_5 (by decide +kernel)
theorem dX7_beginNamed_26 : decode cX7_beginNamed 26 = .ok (.aload_n 0, 1) := zk_42 (by decide +kernel)
theorem dX7_beginNamed_27 : decode cX7_beginNamed 27 = .ok (.getfield 12, 3) := zk_180 (by decide +kernel)
theorem dX7_beginNamed_30 : decode cX7_beginNamed 30 = .ok (.getfield 87, 3) := zk_180 (by decide +kernel)
theorem dX7_beginNamed_33 : decode cX7_beginNamed 33 = .ok (.invokevirtual 90, 3) := zk_182 (by decide +kernel)
theorem dX7_beginNamed_36 : decode cX7_beginNamed 36 = .ok (.aload_n 0, 1) := zk_42 (by decide +kernel)
theorem dX7_beginNamed_37 : decode cX7_beginNamed 37 = .ok (.getfield 12, 3) := zk_180 (by decide +kernel)
theorem dX7_beginNamed_40 : decode cX7_beginNamed 40 = .ok (.invokevirtual 123, 3) := zk_182 (by decide +kernel)
theorem dX7_beginNamed_43 : decode cX7_beginNamed 43 = .ok (.aload_n 0, 1) := zk_42 (by decide +kernel)
theorem dX7_beginNamed_44 : decode cX7_beginNamed 44 = .ok (.aload_n 0, 1) := zk_42 (by decide +kernel)
theorem dX7_beginNamed_45 : decode cX7_beginNamed 45 = .ok (.getfield 12, 3) := zk_180 (by decide +kernel)
theorem dX7_beginNamed_48 : decode cX7_beginNamed 48 = .ok (.getfield 50, 3) := zk_180 (by decide +kernel)
theorem dX7_beginNamed_51 : decode cX7_beginNamed 51 = .ok (.bipush 23, 2) := zk_16 (by decide +kernel)
theorem dX7_beginNamed_53 : decode cX7_beginNamed 53 = .ok (.if_icmp .eq 7, 3) := zk_159 (by decide +kernel)
theorem dX7_beginNamed_60 : decode cX7_beginNamed 60 = .ok (.iconst 0, 1) := zk_3 (by decide +kernel)
theorem dX7_beginNamed_61 : decode cX7_beginNamed 61 = .ok (.iconst 1, 1) := zk_4 (by decide +kernel)
theorem dX7_beginNamed_62 : decode cX7_beginNamed 62 = .ok (.aload_n 0, 1) := zk_42 (by decide +kernel)
theorem dX7_beginNamed_63 : decode cX7_beginNamed 63 = .ok (.getfield 12, 3) := zk_180 (by decide +kernel)
theorem dX7_beginNamed_66 : decode cX7_beginNamed 66 = .ok (.getfield 87, 3) := zk_180 (by decide +kernel)
theorem dX7_beginNamed_69 : decode cX7_beginNamed 69 = .ok (.invokevirtual 90, 3) := zk_182 (by decide +kernel)
theorem dX7_beginNamed_72 : decode cX7_beginNamed 72 = .ok (.aload_n 0, 1) := zk_42 (by decide +kernel)
theorem dX7_beginNamed_73 : decode cX7_beginNamed 73 = .ok (.aload_n 0, 1) := zk_42 (by decide +kernel)
theorem dX7_beginNamed_74 : decode cX7_beginNamed 74 = .ok (.getfield 31, 3) := zk_180 (by decide +kernel)
theorem dX7_beginNamed_77 : decode cX7_beginNamed 77 = .ok (.iload_n 1, 1) := zk_27 (by decide +kernel)
theorem dX7_beginNamed_78 : decode cX7_beginNamed 78 = .ok (.aload_n 0, 1) := zk_42 (by decide +kernel)
theorem dX7_beginNamed_79 : decode cX7_beginNamed 79 = .ok (.getfield 12, 3) := zk_180 (by decide +kernel)
theorem dX7_beginNamed_82 : decode cX7_beginNamed 82 = .ok (.getfield 294, 3) := zk_180 (by decide +kernel)
theorem dX7_beginNamed_85 : decode cX7_beginNamed 85 = .ok (.invokevirtual 297, 3) := zk_182 (by decide +kernel)
theorem dX7_beginNamed_88 : decode cX7_beginNamed 88 = .ok (.iconst (-1), 1) := zk_2 (by decide +kernel)
theorem dX7_beginNamed_89 : decode cX7_beginNamed 89 = .ok (.if_icmp .eq 7, 3) := zk_159 (by decide +kernel)
theorem dX7_beginNamed_96 : decode cX7_beginNamed 96 = .ok (.iconst 0, 1) := zk_3 (by decide +kernel)
theorem dX7_beginNamed_97 : decode cX7_beginNamed 97 = .ok (.iconst 3, 1) := zk_6 (by decide +kernel)
theorem dX7_beginNamed_98 : decode cX7_beginNamed 98 = .ok (.aload_n 0, 1) := zk_42 (by decide +kernel)
theorem dX7_beginNamed_99 : decode cX7_beginNamed 99 = .ok (.getfield 12, 3) := zk_180 (by decide +kernel)
theorem dX7_beginNamed_102 : decode cX7_beginNamed 102 = .ok (.getfield 87, 3) := zk_180 (by decide +kernel)
theorem dX7_beginNamed_105 : decode cX7_beginNamed 105 = .ok (.invokevirtual 90, 3) := zk_182 (by decide +kernel)
theorem dX7_beginNamed_108 : decode cX7_beginNamed 108 = .ok (.aload_n 0, 1) := zk_42 (by decide +kernel)
theorem dX7_beginNamed_109 : decode cX7_beginNamed 109 = .ok (.getfield 31, 3) := zk_180 (by decide +kernel)
theorem dX7_beginNamed_112 : decode cX7_beginNamed 112 = .ok (.getfield 300, 3) := zk_180 (by decide +kernel)
theorem dX7_beginNamed_115 : decode cX7_beginNamed 115 = .ok (.iload_n 1, 1) := zk_27 (by decide +kernel)
theorem dX7_beginNamed_116 : decode cX7_beginNamed 116 = .ok (.aaload, 1) := zk_50 (by decide +kernel)
theorem dX7_beginNamed_117 : decode cX7_beginNamed 117 = .ok (.iload_n 2, 1) := zk_28 (by decide +kernel)
theorem dX7_beginNamed_118 : decode cX7_beginNamed 118 = .ok (.aload_n 0, 1) := zk_42 (by decide +kernel)
theorem dX7_beginNamed_119 : decode cX7_beginNamed 119 = .ok (.getfield 12, 3) := zk_180 (by decide +kernel)
theorem dX7_beginNamed_122 : decode cX7_beginNamed 122 = .ok (.getfield 294, 3) := zk_180 (by decide +kernel)
theorem dX7_beginNamed_125 : decode cX7_beginNamed 125 = .ok (.iastore, 1) := zk_79 (by decide +kernel)
theorem dX7_beginNamed_126 : decode cX7_beginNamed 126 = .ok (.aload_n 0, 1) := zk_42 (by decide +kernel)
theorem dX7_beginNamed_127 : decode cX7_beginNamed 127 = .ok (.getfield 12, 3) := zk_180 (by decide +kernel)
theorem dX7_beginNamed_130 : decode cX7_beginNamed 130 = .ok (.invokevirtual 123, 3) := zk_182 (by decide +kernel)
theorem dX7_beginNamed_133 : decode cX7_beginNamed 133 = .ok (.iload_n 2, 1) := zk_28 (by decide +kernel)
theorem dX7_beginNamed_134 : decode cX7_beginNamed 134 = .ok (.ireturn, 1) := zk_172 (by decide +kernel)
theorem dX7_beginNamed_92 : decode cX7_beginNamed 92 = .ok (.iconst 1, 1) := zk_4 (by decide +kernel)
theorem dX7_beginNamed_93 : decode cX7_beginNamed 93 = .ok (.goto 4, 3) := zk_167 (by decide +kernel)
theorem dX7_beginNamed_56 : decode cX7_beginNamed 56 = .ok (.iconst 1, 1) := zk_4 (by decide +kernel)
theorem dX7_beginNamed_57 : decode cX7_beginNamed 57 = .ok (.goto 4, 3) := zk_167 (by decide +kernel)
theorem dX7_beginNamed_20 : decode cX7_beginNamed 20 = .ok (.iconst 1, 1) := zk_4 (by decide +kernel)
theorem dX7_beginNamed_21 : decode cX7_beginNamed 21 = .ok (.goto 4, 3) := zk_167 (by decide +kernel)
set_option maxHeartbeats 4000000 in
set_option maxRecDepth 100000 in
theorem gp_beginNamed0 (l : Launch) (hst : l.stackTraces = false) (dC : Nat → ClassId) (dI : Nat → Nat → Nat) (pa : Nat) (lx : Nat) (bk : Nat) (pfa : Int32) (pfp : Int32) (psk : Int32) (phe : Nat) (phr : Nat) (phs : Int32) (pop : Int32) (lby : Nat) (lfi : Int32) (lco : Nat) (lxe : Int32) (lxa : Int32) (lxt : Int32) (lxp : Int32) (lxn : Int32) (lxl : Int32) (cBy : ClassId) (fBy : Nat → Int32) (cCo : ClassId) (fCo : Nat → Int32) (bto : Nat) (bnm : Nat) (bla : Nat) (bsk : Nat) (bru : Nat) (bbo : Nat) (bdi : Nat) (bda : Nat) (bdk : Nat) (bdt : Nat) (bdp : Nat) (bno : Nat) (cTo : ClassId) (fTo : Nat → Int32) (cNm : ClassId) (Nm : Nat → Nat) (cNr : ClassId) (fNm : Nat → Nat → Int32) (sL : Nat → Nat) (sz : Nat) (h0_lxa : ¬ lxa < 0) (h9_lxe : lxe ≤ 900) (hT : xT fTo) : vx_Met l yX7_beginNamed (Cond.code yX7_beginNamed cX7_beginNamed 3 (some .int) :: wsL_law) ({ frames := 7, cells := 1, slots := 6, locals := 105 }) (va_Pc [.ref pa, .int 0] (fun U => U.heap.size = sz ∧ va_P (dC, dI) vwCl [(eO7a pa lx bk pfa pfp psk phe phr phs pop), (eO3a lx lby lfi lco lxe lxa lxt lxp lxn lxl), (eA0 lby cBy 900 fBy), (eA0 lco cCo 23 fCo), (eO0a bk bto bnm bla bsk bru bbo bdi bda bdk bdt bdp bno), (eA0 bto cTo 5 fTo), (eA4 bnm cNm 5 (fun k => some (Nm k))), (eA0 (Nm 0) cNr 12 (fNm 0))] U.heap ∧ va_K (dC, dI) vwCl [(cBy, .byte), (cCo, .int), (cTo, .int), (cNm, .array .int), (cNr, .int)] U ∧ va_D (fun _ => True) [(eO7a pa lx bk pfa pfp psk phe phr phs pop), (eO3a lx lby lfi lco lxe lxa lxt lxp lxn lxl), (eA0 lby cBy 900 fBy), (eA0 lco cCo 23 fCo), (eO0a bk bto bnm bla bsk bru bbo bdi bda bdk bdt bdp bno), (eA0 bto cTo 5 fTo), (eA4 bnm cNm 5 (fun k => some (Nm k))), (eA0 (Nm 0) cNr 12 (fNm 0))] ∧ xl sL (va_A [(eO7a pa lx bk pfa pfp psk phe phr phs pop), (eO3a lx lby lfi lco lxe lxa lxt lxp lxn lxl), (eA0 lby cBy 900 fBy), (eA0 lco cCo 23 fCo), (eO0a bk bto bnm bla bsk bru bbo bdi bda bdk bdt bdp bno), (eA0 bto cTo 5 fTo), (eA4 bnm cNm 5 (fun k => some (Nm k))), (eA0 (Nm 0) cNr 12 (fNm 0))] sz) U U.heap)) (va_Qi (fun (r : Int32) (u : (Int32) × (Int32) × (Int32) × (Int32) × (Int32) × (Int32) × (Int32) × (Nat → Nat → Int32)) => ((fp_beginNamed0 pfa pfp lxe lxa lxt lxp lxn lxl fBy fCo fTo fNm).1 = 0 ∧ r = (fp_beginNamed0 pfa pfp lxe lxa lxt lxp lxn lxl fBy fCo fTo fNm).2.1 ∧ u = (fp_beginNamed0 pfa pfp lxe lxa lxt lxp lxn lxl fBy fCo fTo fNm).2.2) ∧ (¬ u.2.2.1 < 0) ∧ (¬ r < 0) ∧ (r < 4) ∧ (r = fTo ((0 : Int32).toNatClampNeg))) (fun (u : (Int32) × (Int32) × (Int32) × (Int32) × (Int32) × (Int32) × (Int32) × (Nat → Nat → Int32)) t => (va_P (dC, dI) vwCl [(eO7a pa lx bk u.1 u.2.1 psk phe phr phs pop), (eO3a lx lby lfi lco lxe u.2.2.1 u.2.2.2.1 u.2.2.2.2.1 u.2.2.2.2.2.1 u.2.2.2.2.2.2.1), (eA0 lby cBy 900 fBy), (eA0 lco cCo 23 fCo), (eO0a bk bto bnm bla bsk bru bbo bdi bda bdk bdt bdp bno), (eA0 bto cTo 5 fTo), (eA4 bnm cNm 5 (fun k => some (Nm k))), (eA0 (Nm 0) cNr 12 (u.2.2.2.2.2.2.2 0))] t.heap ∧ va_K (dC, dI) vwCl [] t ∧ va_D (va_A [(eO7a pa lx bk pfa pfp psk phe phr phs pop), (eO3a lx lby lfi lco lxe lxa lxt lxp lxn lxl), (eA0 lby cBy 900 fBy), (eA0 lco cCo 23 fCo), (eO0a bk bto bnm bla bsk bru bbo bdi bda bdk bdt bdp bno), (eA0 bto cTo 5 fTo), (eA4 bnm cNm 5 (fun k => some (Nm k))), (eA0 (Nm 0) cNr 12 (fNm 0))] sz) [(eO7a pa lx bk u.1 u.2.1 psk phe phr phs pop), (eO3a lx lby lfi lco lxe u.2.2.1 u.2.2.2.1 u.2.2.2.2.1 u.2.2.2.2.2.1 u.2.2.2.2.2.2.1), (eA0 lby cBy 900 fBy), (eA0 lco cCo 23 fCo), (eO0a bk bto bnm bla bsk bru bbo bdi bda bdk bdt bdp bno), (eA0 bto cTo 5 fTo), (eA4 bnm cNm 5 (fun k => some (Nm k))), (eA0 (Nm 0) cNr 12 (u.2.2.2.2.2.2.2 0))]) ∧ t.heap.size = sz) (va_A [(eO7a pa lx bk pfa pfp psk phe phr phs pop), (eO3a lx lby lfi lco lxe lxa lxt lxp lxn lxl), (eA0 lby cBy 900 fBy), (eA0 lco cCo 23 fCo), (eO0a bk bto bnm bla bsk bru bbo bdi bda bdk bdt bdp bno), (eA0 bto cTo 5 fTo), (eA4 bnm cNm 5 (fun k => some (Nm k))), (eA0 (Nm 0) cNr 12 (fNm 0))] sz)) (vx_X (fun (u : (Int32) × (Int32) × (Int32) × (Int32) × (Int32) × (Int32) × (Int32) × (Nat → Nat → Int32)) => (fp_beginNamed0 pfa pfp lxe lxa lxt lxp lxn lxl fBy fCo fTo fNm).1 = 1 ∧ u = (fp_beginNamed0 pfa pfp lxe lxa lxt lxp lxn lxl fBy fCo fTo fNm).2.2) (fun (E : String) (u : (Int32) × (Int32) × (Int32) × (Int32) × (Int32) × (Int32) × (Int32) × (Nat → Nat → Int32)) (t : State) => E = "java/lang/IllegalStateException" ∧ va_P (dC, dI) vwCl [(eO7a pa lx bk u.1 u.2.1 psk phe phr phs pop), (eO3a lx lby lfi lco lxe u.2.2.1 u.2.2.2.1 u.2.2.2.2.1 u.2.2.2.2.2.1 u.2.2.2.2.2.2.1), (eA0 lby cBy 900 fBy), (eA0 lco cCo 23 fCo), (eO0a bk bto bnm bla bsk bru bbo bdi bda bdk bdt bdp bno), (eA0 bto cTo 5 fTo), (eA4 bnm cNm 5 (fun k => some (Nm k))), (eA0 (Nm 0) cNr 12 (u.2.2.2.2.2.2.2 0))] t.heap ∧ va_K (dC, dI) vwCl [] t ∧ va_D (va_A [(eO7a pa lx bk pfa pfp psk phe phr phs pop), (eO3a lx lby lfi lco lxe lxa lxt lxp lxn lxl), (eA0 lby cBy 900 fBy), (eA0 lco cCo 23 fCo), (eO0a bk bto bnm bla bsk bru bbo bdi bda bdk bdt bdp bno), (eA0 bto cTo 5 fTo), (eA4 bnm cNm 5 (fun k => some (Nm k))), (eA0 (Nm 0) cNr 12 (fNm 0))] sz) [(eO7a pa lx bk u.1 u.2.1 psk phe phr phs pop), (eO3a lx lby lfi lco lxe u.2.2.1 u.2.2.2.1 u.2.2.2.2.1 u.2.2.2.2.2.1 u.2.2.2.2.2.2.1), (eA0 lby cBy 900 fBy), (eA0 lco cCo 23 fCo), (eO0a bk bto bnm bla bsk bru bbo bdi bda bdk bdt bdp bno), (eA0 bto cTo 5 fTo), (eA4 bnm cNm 5 (fun k => some (Nm k))), (eA0 (Nm 0) cNr 12 (u.2.2.2.2.2.2.2 0))]) (va_A [(eO7a pa lx bk pfa pfp psk phe phr phs pop), (eO3a lx lby lfi lco lxe lxa lxt lxp lxn lxl), (eA0 lby cBy 900 fBy), (eA0 lco cCo 23 fCo), (eO0a bk bto bnm bla bsk bru bbo bdi bda bdk bdt bdp bno), (eA0 bto cTo 5 fTo), (eA4 bnm cNm 5 (fun k => some (Nm k))), (eA0 (Nm 0) cNr 12 (fNm 0))] sz)) 1 6 (va_A [(eO7a pa lx bk pfa pfp psk phe phr phs pop), (eO3a lx lby lfi lco lxe lxa lxt lxp lxn lxl), (eA0 lby cBy 900 fBy), (eA0 lco cCo 23 fCo), (eO0a bk bto bnm bla bsk bru bbo bdi bda bdk bdt bdp bno), (eA0 bto cTo 5 fTo), (eA4 bnm cNm 5 (fun k => some (Nm k))), (eA0 (Nm 0) cNr 12 (fNm 0))] sz) := by
  refine vx_ofW (cc := cX7_beginNamed) (maxL := 3) (ret := (some .int)) (by decide) rfl ?_
  intro p e s m args below meth c s₁ B hml hex hv
  obtain ⟨rfl, hsz, hP, hK, hD0, hXL⟩ := hv
  have hx := B.exec
  have hb := B.bytes
  have hr := B.returns
  have hts := atoms_spec (ws := Cond.code yX7_beginNamed cX7_beginNamed 3 (some .int) :: wsL_law) B.pre
  have htw : ∀ w ∈ wsL_law, w.before _ s = true := fun w h => hts w (List.mem_cons_of_mem _ h)
  have hown : s.vm.findClass RX7 = some m.cls := findClass_of_methodNamed B.named
  have hlocks := B.notSynchronized
  subst hsz
  have hD := hD0.self (sz := s.heap.size)
  generalize hAe : va_A [(eO7a pa lx bk pfa pfp psk phe phr phs pop), (eO3a lx lby lfi lco lxe lxa lxt lxp lxn lxl), (eA0 lby cBy 900 fBy), (eA0 lco cCo 23 fCo), (eO0a bk bto bnm bla bsk bru bbo bdi bda bdk bdt bdp bno), (eA0 bto cTo 5 fTo), (eA4 bnm cNm 5 (fun k => some (Nm k))), (eA0 (Nm 0) cNr 12 (fNm 0))] s.heap.size = A at hD hXL ⊢
  have hA : ∀ q : Nat, s.heap.size ≤ q → A q := fun q h => by rw [← hAe]; exact Or.inr h
  obtain ⟨H, rH⟩ : ∃ z : Heap, z = s.heap := ⟨_, rfl⟩
  have hS : va_S A s.heap H [] := by rw [rH]; exact va_S.rf
  have hP : va_P (dC, dI) vwCl [(eO7a pa lx bk pfa pfp psk phe phr phs pop), (eO3a lx lby lfi lco lxe lxa lxt lxp lxn lxl), (eA0 lby cBy 900 fBy), (eA0 lco cCo 23 fCo), (eO0a bk bto bnm bla bsk bru bbo bdi bda bdk bdt bdp bno), (eA0 bto cTo 5 fTo), (eA4 bnm cNm 5 (fun k => some (Nm k))), (eA0 (Nm 0) cNr 12 (fNm 0))] H := by rw [rH]; exact hP
  rw [← rH]
  have hl := lv_entry ([.ref pa, .int 0]) (n := 3) (Nat.le_of_ble_eq_true rfl)
  rw [lg_entry_eq]
  generalize (lg_sl ([.ref pa, .int 0]) ++ List.replicate (3 - (lg_sl ([.ref pa, .int 0])).length) Slot.unset).toArray = ls at hl ⊢
  have hl : lv_has ls 3 [(0, .ref pa), (1, .int 0)] := hl
  refine lv_aload_n hx hb dX7_beginNamed_0 rfl (lv_at hl 0 rfl) ?_
  refine va_get (D := (dC, dI)) (ci := 7) (v := .ref bk) (C := RX7) (T := TX7) (N := 9) hx hb htw inlX7 hown hK hP 0 rfl rfl 1 (by decide) (htw _ (ck_13 _ (List.mem_of_getElem? (i := 6) rfl))) (fun _ h9 => h9) rfl dX7_beginNamed_1 ?_
  refine va_get (D := (dC, dI)) (ci := 0) (v := .ref bto) (C := RX0) (T := TX0) (N := 12) hx hb htw inlX0 hown hK hP 4 rfl rfl 0 (by decide) (htw _ (ck_15 _ (List.mem_of_getElem? (i := 23) rfl))) (fun _ h9 => h9) rfl dX7_beginNamed_4 ?_
  refine lv_iload_n hx hb dX7_beginNamed_7 rfl (lv_at hl 1 rfl) ?_
  refine va_iald hx hb hK hP 5 2 rfl rfl (by unfold vp_in; decide) dX7_beginNamed_8 ?_
  refine lv_istore_n (lv' := [(2, .int (fTo ((0 : Int32).toNatClampNeg))), (0, .ref pa), (1, .int 0)]) hx hb dX7_beginNamed_9 rfl hl (by decide) rfl (fun ls hl => ?_)
  refine lv_aload_n hx hb dX7_beginNamed_10 rfl (lv_at hl 1 rfl) ?_
  refine lv_iload_n hx hb dX7_beginNamed_11 rfl (lv_at hl 0 rfl) ?_
  refine va_getsN hx hb hXL.2.1 hS hown (va_Nw.use rfl (hXL.2.2.2.2.2.2.2.1)) (fun _ h9 => h9) dX7_beginNamed_12 ?_
  refine lv_iload_n hx hb dX7_beginNamed_15 rfl (lv_at hl 2 rfl) ?_
  refine va_ti hx hb hXL.2.2.1 hS (by unfold vp_in; decide) (v := .int 4) rfl dX7_beginNamed_16 ?_
  refine lv_icmp_lt (tgt := 24) hx hb dX7_beginNamed_17 (by decide) (fun c_1 => ?_) (fun c_1 => ?_)
  · refine lv_iconst (v := 0) hx hb dX7_beginNamed_24 (by decide) ?_
    refine lv_iconst (v := 2) hx hb dX7_beginNamed_25 (by decide) ?_
    refine lv_aload_n hx hb dX7_beginNamed_26 rfl (lv_at hl 1 rfl) ?_
    refine va_get (D := (dC, dI)) (ci := 7) (v := .ref lx) (C := RX7) (T := TX7) (N := 9) hx hb htw inlX7 hown hK hP 0 rfl rfl 0 (by decide) (htw _ (ck_3 _ (List.mem_of_getElem? (i := 5) rfl))) (fun _ h9 => h9) rfl dX7_beginNamed_27 ?_
    refine va_get (D := (dC, dI)) (ci := 3) (v := .int lxp) (C := RX3) (T := TX3) (N := 9) hx hb htw inlX3 hown hK hP 1 rfl rfl 6 (by decide) (htw _ (ck_15 _ (List.mem_of_getElem? (i := 13) rfl))) (fun _ h9 => h9) rfl dX7_beginNamed_30 ?_
    have hPc := hP.sub (ws' := []) [] rfl
    have hKc := hK.sub (tys' := []) [] rfl
    refine va_csv (W.runV (As := [.int 0, .int 2, .int lxp]) (rest := []) ⟨hx, hb, hml, hown, htw⟩ (gp_ref0 l dC dI (0 : Int32) (2 : Int32) lxp pa (gp_beginNamed0_s0 )) (cwV 3 htw (xg_V (ck_16 _ (List.mem_of_getElem? (i := 6) rfl)) (ck_16 _ (List.mem_of_getElem? (i := 7) rfl)) (ck_16 _ (List.mem_of_getElem? (i := 8) rfl)) (ck_1 _ (List.mem_of_getElem? (i := 16) rfl)) (ck_16 _ (List.mem_of_getElem? (i := 9) rfl))) rfl rfl rfl (by exact ⟨rfl, hdc_15.1, hdc_15.2, hdd_48⟩) ⟨Nat.le_of_ble_eq_true rfl, Nat.le_of_ble_eq_true rfl⟩) ⟨fun a U g mk q => by obtain ⟨q0, qP, qK⟩ := q; exact ⟨q0, qP, va_K.moved (u := U) (U := U.calling g mk a) (Vm.Alike.refl U.vm) qK⟩, va_recv hK hP (ci := 7) (q0 := 0) rfl rfl, fun U hU hW => ⟨rfl, by rw [hU]; exact hPc, va_K.moved hW.alike hKc⟩⟩ rfl rfl hl.1 rfl (lv_room (Nat.le_of_ble_eq_true rfl)) dX7_beginNamed_33 ⟨Nat.le_of_ble_eq_true rfl, Nat.le_of_ble_eq_true rfl⟩) (fun hw => ?_)
    try dsimp only at hw
    refine lv_aload_n hx hb dX7_beginNamed_36 rfl (lv_at hl 1 rfl) ?_
    refine va_get (D := (dC, dI)) (ci := 7) (v := .ref lx) (C := RX7) (T := TX7) (N := 9) hx hb htw inlX7 hown hK hP 0 rfl rfl 0 (by decide) (htw _ (ck_3 _ (List.mem_of_getElem? (i := 5) rfl))) (fun _ h9 => h9) rfl dX7_beginNamed_37 ?_
    obtain ⟨hPc, hDc, hFc, hCc⟩ := zsub3 (ws' := [(eO3a lx lby lfi lco lxe lxa lxt lxp lxn lxl), (eA0 lby cBy 900 fBy), (eA0 lco cCo 23 fCo)]) hP hD hS hA [1, 2, 3] (by decide) rfl
    have hKc := hK.sub (tys' := [(cBy, .byte), (cCo, .int)]) [0, 1] rfl
    refine va_callv (va_runV (As := []) (rest := []) ⟨hx, hb, hml, hown, htw⟩ (gz_advance l dC dI lx lby lfi lco lxe lxa lxt lxp lxn lxl cBy fBy cCo fCo H.size h0_lxa h9_lxe) (cwV 0 htw (xg_V (ck_16 _ (List.mem_of_getElem? (i := 11) rfl)) (ck_14 _ (List.mem_of_getElem? (i := 13) rfl)) (ck_14 _ (List.mem_of_getElem? (i := 14) rfl)) (ck_3 _ (List.mem_of_getElem? (i := 4) rfl)) (ck_14 _ (List.mem_of_getElem? (i := 15) rfl))) rfl rfl rfl (by exact ⟨rfl, hdc_4.1, hdc_4.2, hdd_13⟩) ⟨Nat.le_of_ble_eq_true rfl, Nat.le_of_ble_eq_true rfl⟩) ⟨fun a U g mk q => by obtain ⟨q0, q1, qP, qK, qD⟩ := q; exact ⟨q0, q1, qP, va_K.moved (u := U) (U := U.calling g mk a) (Vm.Alike.refl U.vm) qK, qD⟩, va_recv hKc hPc (ci := 3) (q0 := 0) rfl rfl, fun U hU hW => ⟨rfl, by rw [hU], by rw [hU]; exact hPc, va_K.moved hW.alike hKc, hDc.weaken (fun _ _ _ _ => trivial)⟩⟩ rfl rfl hl.1 rfl (lv_room (Nat.le_of_ble_eq_true rfl)) dX7_beginNamed_40 ⟨Nat.le_of_ble_eq_true rfl, Nat.le_of_ble_eq_true rfl⟩) hS (fun q _ h => hFc q h) hFc (fun u_4 t H1 locs ht hvm hw hB hz1 hk1 hS => ?_)
    try dsimp only at hw
    obtain ⟨hP1, hK1, hD1⟩ := hB
    rw [ht] at hP1
    have hK1 := va_K.moved hvm.symm hK1
    have hK1 : va_K (dC, dI) vwCl [] s := hK1
    obtain ⟨hP, hD⟩ := va_join (wr := [(eO7a pa lx bk pfa pfp psk phe phr phs pop), (eO0a bk bto bnm bla bsk bru bbo bdi bda bdk bdt bdp bno), (eA0 bto cTo 5 fTo), (eA4 bnm cNm 5 (fun k => some (Nm k))), (eA0 (Nm 0) cNr 12 (fNm 0))]) (w1 := [(eO3a lx lby lfi lco lxe u_4.1 u_4.2.1 u_4.2.2.1 u_4.2.2.2.1 u_4.2.2.2.2), (eA0 lby cBy 900 fBy), (eA0 lco cCo 23 fCo)]) hP hD [1, 2, 3] [0, 4, 5, 6, 7] hCc rfl (by decide) (by decide) hk1 hFc hP1 hD1
    generalize H1 = H at hP hS ⊢
    obtain ⟨hP, hD⟩ := zre [(eO7a pa lx bk pfa pfp psk phe phr phs pop), (eO0a bk bto bnm bla bsk bru bbo bdi bda bdk bdt bdp bno), (eA0 bto cTo 5 fTo), (eA4 bnm cNm 5 (fun k => some (Nm k))), (eA0 (Nm 0) cNr 12 (fNm 0)), (eO3a lx lby lfi lco lxe u_4.1 u_4.2.1 u_4.2.2.1 u_4.2.2.2.1 u_4.2.2.2.2), (eA0 lby cBy 900 fBy), (eA0 lco cCo 23 fCo)] hP hD rfl
    refine W.widen (k := 0) (n := 0) (by omega) (by omega) ?_
    obtain ⟨hw, hp_10⟩ := hw
    have hq_u_4 : u_4 = (fe_advance lxe lxa lxn lxl fBy fCo) := hw
    refine lv_aload_n hx hb dX7_beginNamed_43 rfl (lv_at hl 1 rfl) ?_
    refine lv_aload_n hx hb dX7_beginNamed_44 rfl (lv_at hl 1 rfl) ?_
    refine va_get (D := (dC, dI)) (ci := 7) (v := .ref lx) (C := RX7) (T := TX7) (N := 9) hx hb htw inlX7 hown hK hP 0 rfl rfl 0 (by decide) (htw _ (ck_3 _ (List.mem_of_getElem? (i := 5) rfl))) (fun _ h9 => h9) rfl dX7_beginNamed_45 ?_
    refine va_get (D := (dC, dI)) (ci := 3) (v := .int u_4.2.1) (C := RX3) (T := TX3) (N := 9) hx hb htw inlX3 hown hK hP 5 rfl rfl 5 (by decide) (htw _ (ck_13 _ (List.mem_of_getElem? (i := 9) rfl))) (fun _ h9 => h9) rfl dX7_beginNamed_48 ?_
    refine lv_bipush (v := 23) hx hb dX7_beginNamed_51 (by decide) ?_
    refine lv_icmp_eq (tgt := 60) hx hb dX7_beginNamed_53 (by decide) (fun c_11 => ?_) (fun c_11 => ?_)
    · refine lv_iconst (v := 0) hx hb dX7_beginNamed_60 (by decide) ?_
      refine lv_iconst (v := 1) hx hb dX7_beginNamed_61 (by decide) ?_
      refine lv_aload_n hx hb dX7_beginNamed_62 rfl (lv_at hl 1 rfl) ?_
      refine va_get (D := (dC, dI)) (ci := 7) (v := .ref lx) (C := RX7) (T := TX7) (N := 9) hx hb htw inlX7 hown hK hP 0 rfl rfl 0 (by decide) (htw _ (ck_3 _ (List.mem_of_getElem? (i := 5) rfl))) (fun _ h9 => h9) rfl dX7_beginNamed_63 ?_
      refine va_get (D := (dC, dI)) (ci := 3) (v := .int u_4.2.2.1) (C := RX3) (T := TX3) (N := 9) hx hb htw inlX3 hown hK hP 5 rfl rfl 6 (by decide) (htw _ (ck_15 _ (List.mem_of_getElem? (i := 13) rfl))) (fun _ h9 => h9) rfl dX7_beginNamed_66 ?_
      have hPc := hP.sub (ws' := []) [] rfl
      have hKc := hK.sub (tys' := []) [] rfl
      refine va_csv (W.runV (As := [.int 0, .int 1, .int u_4.2.2.1]) (rest := []) ⟨hx, hb, hml, hown, htw⟩ (gp_ref0 l dC dI (0 : Int32) (1 : Int32) u_4.2.2.1 pa (gp_beginNamed0_s1 )) (cwV 3 htw (xg_V (ck_16 _ (List.mem_of_getElem? (i := 6) rfl)) (ck_16 _ (List.mem_of_getElem? (i := 7) rfl)) (ck_16 _ (List.mem_of_getElem? (i := 8) rfl)) (ck_1 _ (List.mem_of_getElem? (i := 16) rfl)) (ck_16 _ (List.mem_of_getElem? (i := 9) rfl))) rfl rfl rfl (by exact ⟨rfl, hdc_15.1, hdc_15.2, hdd_48⟩) ⟨Nat.le_of_ble_eq_true rfl, Nat.le_of_ble_eq_true rfl⟩) ⟨fun a U g mk q => by obtain ⟨q0, qP, qK⟩ := q; exact ⟨q0, qP, va_K.moved (u := U) (U := U.calling g mk a) (Vm.Alike.refl U.vm) qK⟩, va_recv hK hP (ci := 7) (q0 := 0) rfl rfl, fun U hU hW => ⟨rfl, by rw [hU]; exact hPc, va_K.moved hW.alike hKc⟩⟩ rfl rfl hl.1 rfl (lv_room (Nat.le_of_ble_eq_true rfl)) dX7_beginNamed_69 ⟨Nat.le_of_ble_eq_true rfl, Nat.le_of_ble_eq_true rfl⟩) (fun hw => ?_)
      try dsimp only at hw
      refine lv_aload_n hx hb dX7_beginNamed_72 rfl (lv_at hl 1 rfl) ?_
      refine lv_aload_n hx hb dX7_beginNamed_73 rfl (lv_at hl 1 rfl) ?_
      refine va_get (D := (dC, dI)) (ci := 7) (v := .ref bk) (C := RX7) (T := TX7) (N := 9) hx hb htw inlX7 hown hK hP 0 rfl rfl 1 (by decide) (htw _ (ck_13 _ (List.mem_of_getElem? (i := 6) rfl))) (fun _ h9 => h9) rfl dX7_beginNamed_74 ?_
      refine lv_iload_n hx hb dX7_beginNamed_77 rfl (lv_at hl 2 rfl) ?_
      refine lv_aload_n hx hb dX7_beginNamed_78 rfl (lv_at hl 1 rfl) ?_
      refine va_get (D := (dC, dI)) (ci := 7) (v := .ref lx) (C := RX7) (T := TX7) (N := 9) hx hb htw inlX7 hown hK hP 0 rfl rfl 0 (by decide) (htw _ (ck_3 _ (List.mem_of_getElem? (i := 5) rfl))) (fun _ h9 => h9) rfl dX7_beginNamed_79 ?_
      refine va_get (D := (dC, dI)) (ci := 3) (v := .int u_4.2.2.2.2) (C := RX3) (T := TX3) (N := 9) hx hb htw inlX3 hown hK hP 5 rfl rfl 8 (by decide) (htw _ (ck_16 _ (List.mem_of_getElem? (i := 4) rfl))) (fun _ h9 => h9) rfl dX7_beginNamed_82 ?_
      have hPc := hP.sub (ws' := [(eO0a bk bto bnm bla bsk bru bbo bdi bda bdk bdt bdp bno), (eA0 bto cTo 5 fTo), (eA4 bnm cNm 5 (fun k => some (Nm k))), (eA0 (Nm 0) cNr 12 (fNm 0))]) [1, 2, 3, 4] rfl
      have hKc := hK.sub (tys' := [(cTo, .int), (cNm, .array .int), (cNr, .int)]) [2, 3, 4] rfl
      refine vp_callSi (W.runV (As := [.int 0, .int u_4.2.2.2.2]) (rest := [.ref pa]) ⟨hx, hb, hml, hown, htw⟩ (gb_find0 l dC dI bk bto bnm bla bsk bru bbo bdi bda bdk bdt bdp bno cTo fTo cNm Nm cNr fNm u_4.2.2.2.2) (cwV 2 htw (xg_V (ck_16 _ (List.mem_of_getElem? (i := 12) rfl)) (ck_16 _ (List.mem_of_getElem? (i := 13) rfl)) (ck_16 _ (List.mem_of_getElem? (i := 14) rfl)) (ck_1 _ (List.mem_of_getElem? (i := 20) rfl)) (ck_16 _ (List.mem_of_getElem? (i := 15) rfl))) rfl rfl rfl (by exact ⟨rfl, hdc_6.1, hdc_6.2, hdd_7⟩) ⟨Nat.le_of_ble_eq_true rfl, Nat.le_of_ble_eq_true rfl⟩) ⟨fun a U g mk q => by obtain ⟨q0, qP, qK⟩ := q; exact ⟨q0, qP, va_K.moved (u := U) (U := U.calling g mk a) (Vm.Alike.refl U.vm) qK⟩, va_recv hKc hPc (ci := 0) (q0 := 0) rfl rfl, fun U hU hW => ⟨rfl, by rw [hU]; exact hPc, va_K.moved hW.alike hKc⟩⟩ rfl rfl hl.1 rfl (lv_room (Nat.le_of_ble_eq_true rfl)) dX7_beginNamed_85 ⟨Nat.le_of_ble_eq_true rfl, Nat.le_of_ble_eq_true rfl⟩) (fun r_13 hw => ?_)
      try dsimp only at hw
      have hq_r_13 : r_13 = (fb_find0 fTo fNm u_4.2.2.2.2) := hw
      refine lv_iconst (v := (-1)) hx hb dX7_beginNamed_88 (by decide) ?_
      refine lv_icmp_eq (tgt := 96) hx hb dX7_beginNamed_89 (by decide) (fun c_14 => ?_) (fun c_14 => ?_)
      · refine lv_iconst (v := 0) hx hb dX7_beginNamed_96 (by decide) ?_
        refine lv_iconst (v := 3) hx hb dX7_beginNamed_97 (by decide) ?_
        refine lv_aload_n hx hb dX7_beginNamed_98 rfl (lv_at hl 1 rfl) ?_
        refine va_get (D := (dC, dI)) (ci := 7) (v := .ref lx) (C := RX7) (T := TX7) (N := 9) hx hb htw inlX7 hown hK hP 0 rfl rfl 0 (by decide) (htw _ (ck_3 _ (List.mem_of_getElem? (i := 5) rfl))) (fun _ h9 => h9) rfl dX7_beginNamed_99 ?_
        refine va_get (D := (dC, dI)) (ci := 3) (v := .int u_4.2.2.1) (C := RX3) (T := TX3) (N := 9) hx hb htw inlX3 hown hK hP 5 rfl rfl 6 (by decide) (htw _ (ck_15 _ (List.mem_of_getElem? (i := 13) rfl))) (fun _ h9 => h9) rfl dX7_beginNamed_102 ?_
        have hPc := hP.sub (ws' := []) [] rfl
        have hKc := hK.sub (tys' := []) [] rfl
        refine va_csv (W.runV (As := [.int 0, .int 3, .int u_4.2.2.1]) (rest := []) ⟨hx, hb, hml, hown, htw⟩ (gp_ref0 l dC dI (0 : Int32) (3 : Int32) u_4.2.2.1 pa (gp_beginNamed0_s2 )) (cwV 3 htw (xg_V (ck_16 _ (List.mem_of_getElem? (i := 6) rfl)) (ck_16 _ (List.mem_of_getElem? (i := 7) rfl)) (ck_16 _ (List.mem_of_getElem? (i := 8) rfl)) (ck_1 _ (List.mem_of_getElem? (i := 16) rfl)) (ck_16 _ (List.mem_of_getElem? (i := 9) rfl))) rfl rfl rfl (by exact ⟨rfl, hdc_15.1, hdc_15.2, hdd_48⟩) ⟨Nat.le_of_ble_eq_true rfl, Nat.le_of_ble_eq_true rfl⟩) ⟨fun a U g mk q => by obtain ⟨q0, qP, qK⟩ := q; exact ⟨q0, qP, va_K.moved (u := U) (U := U.calling g mk a) (Vm.Alike.refl U.vm) qK⟩, va_recv hK hP (ci := 7) (q0 := 0) rfl rfl, fun U hU hW => ⟨rfl, by rw [hU]; exact hPc, va_K.moved hW.alike hKc⟩⟩ rfl rfl hl.1 rfl (lv_room (Nat.le_of_ble_eq_true rfl)) dX7_beginNamed_105 ⟨Nat.le_of_ble_eq_true rfl, Nat.le_of_ble_eq_true rfl⟩) (fun hw => ?_)
        try dsimp only at hw
        refine lv_aload_n hx hb dX7_beginNamed_108 rfl (lv_at hl 1 rfl) ?_
        refine va_get (D := (dC, dI)) (ci := 7) (v := .ref bk) (C := RX7) (T := TX7) (N := 9) hx hb htw inlX7 hown hK hP 0 rfl rfl 1 (by decide) (htw _ (ck_13 _ (List.mem_of_getElem? (i := 6) rfl))) (fun _ h9 => h9) rfl dX7_beginNamed_109 ?_
        refine va_get (D := (dC, dI)) (ci := 0) (v := .ref bnm) (C := RX0) (T := TX0) (N := 12) hx hb htw inlX0 hown hK hP 1 rfl rfl 1 (by decide) (htw _ (ck_16 _ (List.mem_of_getElem? (i := 5) rfl))) (fun _ h9 => h9) rfl dX7_beginNamed_112 ?_
        refine lv_iload_n hx hb dX7_beginNamed_115 rfl (lv_at hl 2 rfl) ?_
        refine xg_aldq hx hb hK hP 3 3 rfl rfl rfl (by unfold vp_in; decide) dX7_beginNamed_116 ?_
        refine W.eq (g2 := F0 m 117 ls [.ref (Nm 0)]) rfl ?_
        refine lv_iload_n hx hb dX7_beginNamed_117 rfl (lv_at hl 0 rfl) ?_
        refine lv_aload_n hx hb dX7_beginNamed_118 rfl (lv_at hl 1 rfl) ?_
        refine va_get (D := (dC, dI)) (ci := 7) (v := .ref lx) (C := RX7) (T := TX7) (N := 9) hx hb htw inlX7 hown hK hP 0 rfl rfl 0 (by decide) (htw _ (ck_3 _ (List.mem_of_getElem? (i := 5) rfl))) (fun _ h9 => h9) rfl dX7_beginNamed_119 ?_
        refine va_get (D := (dC, dI)) (ci := 3) (v := .int u_4.2.2.2.2) (C := RX3) (T := TX3) (N := 9) hx hb htw inlX3 hown hK hP 5 rfl rfl 8 (by decide) (htw _ (ck_16 _ (List.mem_of_getElem? (i := 4) rfl))) (fun _ h9 => h9) rfl dX7_beginNamed_122 ?_
        refine va_iast hx hb hK hP hD hS 4 4 rfl rfl (xg_inr (N := 12) rfl (gp_beginNamed0_s3 (y0 := fTo ((0 : Int32).toNatClampNeg)) c_1 hT.1.1 hT.1.2).1 (gp_beginNamed0_s3 (y0 := fTo ((0 : Int32).toNatClampNeg)) c_1 hT.1.1 hT.1.2).2) dX7_beginNamed_125 (fun H locs hP hD hS => ?_)
        obtain ⟨hP, hD⟩ := zre [(eO7a pa lx bk pfa pfp psk phe phr phs pop), (eO0a bk bto bnm bla bsk bru bbo bdi bda bdk bdt bdp bno), (eA0 bto cTo 5 fTo), (eA4 bnm cNm 5 (fun k => some (Nm k))), (eA0 (Nm 0) cNr 12 (upd (fNm 0) ((fTo ((0 : Int32).toNatClampNeg)).toNatClampNeg) u_4.2.2.2.2)), (eO3a lx lby lfi lco lxe u_4.1 u_4.2.1 u_4.2.2.1 u_4.2.2.2.1 u_4.2.2.2.2), (eA0 lby cBy 900 fBy), (eA0 lco cCo 23 fCo)] hP hD rfl
        refine lv_aload_n hx hb dX7_beginNamed_126 rfl (lv_at hl 1 rfl) ?_
        refine va_get (D := (dC, dI)) (ci := 7) (v := .ref lx) (C := RX7) (T := TX7) (N := 9) hx hb htw inlX7 hown hK hP 0 rfl rfl 0 (by decide) (htw _ (ck_3 _ (List.mem_of_getElem? (i := 5) rfl))) (fun _ h9 => h9) rfl dX7_beginNamed_127 ?_
        obtain ⟨hPc, hDc, hFc, hCc⟩ := zsub3 (ws' := [(eO3a lx lby lfi lco lxe u_4.1 u_4.2.1 u_4.2.2.1 u_4.2.2.2.1 u_4.2.2.2.2), (eA0 lby cBy 900 fBy), (eA0 lco cCo 23 fCo)]) hP hD hS hA [5, 6, 7] (by decide) rfl
        have hKc := hK.sub (tys' := [(cBy, .byte), (cCo, .int)]) [0, 1] rfl
        refine va_callv (va_runV (As := []) (rest := []) ⟨hx, hb, hml, hown, htw⟩ (gz_advance l dC dI lx lby lfi lco lxe u_4.1 u_4.2.1 u_4.2.2.1 u_4.2.2.2.1 u_4.2.2.2.2 cBy fBy cCo fCo H.size (gp_beginNamed0_s4 (y0 := u_4.1) hp_10) h9_lxe) (cwV 0 htw (xg_V (ck_16 _ (List.mem_of_getElem? (i := 11) rfl)) (ck_14 _ (List.mem_of_getElem? (i := 13) rfl)) (ck_14 _ (List.mem_of_getElem? (i := 14) rfl)) (ck_3 _ (List.mem_of_getElem? (i := 4) rfl)) (ck_14 _ (List.mem_of_getElem? (i := 15) rfl))) rfl rfl rfl (by exact ⟨rfl, hdc_4.1, hdc_4.2, hdd_13⟩) ⟨Nat.le_of_ble_eq_true rfl, Nat.le_of_ble_eq_true rfl⟩) ⟨fun a U g mk q => by obtain ⟨q0, q1, qP, qK, qD⟩ := q; exact ⟨q0, q1, qP, va_K.moved (u := U) (U := U.calling g mk a) (Vm.Alike.refl U.vm) qK, qD⟩, va_recv hKc hPc (ci := 3) (q0 := 0) rfl rfl, fun U hU hW => ⟨rfl, by rw [hU], by rw [hU]; exact hPc, va_K.moved hW.alike hKc, hDc.weaken (fun _ _ _ _ => trivial)⟩⟩ rfl rfl hl.1 rfl (lv_room (Nat.le_of_ble_eq_true rfl)) dX7_beginNamed_130 ⟨Nat.le_of_ble_eq_true rfl, Nat.le_of_ble_eq_true rfl⟩) hS (fun q _ h => hFc q h) hFc (fun u_18 t H1 locs ht hvm hw hB hz1 hk1 hS => ?_)
        try dsimp only at hw
        obtain ⟨hP1, hK1, hD1⟩ := hB
        rw [ht] at hP1
        have hK1 := va_K.moved hvm.symm hK1
        have hK1 : va_K (dC, dI) vwCl [] s := hK1
        obtain ⟨hP, hD⟩ := va_join (wr := [(eO7a pa lx bk pfa pfp psk phe phr phs pop), (eO0a bk bto bnm bla bsk bru bbo bdi bda bdk bdt bdp bno), (eA0 bto cTo 5 fTo), (eA4 bnm cNm 5 (fun k => some (Nm k))), (eA0 (Nm 0) cNr 12 (upd (fNm 0) ((fTo ((0 : Int32).toNatClampNeg)).toNatClampNeg) u_4.2.2.2.2))]) (w1 := [(eO3a lx lby lfi lco lxe u_18.1 u_18.2.1 u_18.2.2.1 u_18.2.2.2.1 u_18.2.2.2.2), (eA0 lby cBy 900 fBy), (eA0 lco cCo 23 fCo)]) hP hD [5, 6, 7] [0, 1, 2, 3, 4] hCc rfl (by decide) (by decide) hk1 hFc hP1 hD1
        generalize H1 = H at hP hS ⊢
        obtain ⟨hP, hD⟩ := zre [(eO7a pa lx bk pfa pfp psk phe phr phs pop), (eO0a bk bto bnm bla bsk bru bbo bdi bda bdk bdt bdp bno), (eA0 bto cTo 5 fTo), (eA4 bnm cNm 5 (fun k => some (Nm k))), (eA0 (Nm 0) cNr 12 (upd (fNm 0) ((fTo ((0 : Int32).toNatClampNeg)).toNatClampNeg) u_4.2.2.2.2)), (eO3a lx lby lfi lco lxe u_18.1 u_18.2.1 u_18.2.2.1 u_18.2.2.2.1 u_18.2.2.2.2), (eA0 lby cBy 900 fBy), (eA0 lco cCo 23 fCo)] hP hD rfl
        refine W.widen (k := 0) (n := 0) (by omega) (by omega) ?_
        obtain ⟨hw, hp_24⟩ := hw
        have hq_u_18 : u_18 = (fe_advance lxe u_4.1 u_4.2.2.2.1 u_4.2.2.2.2 fBy fCo) := hw
        refine lv_iload_n hx hb dX7_beginNamed_133 rfl (lv_at hl 0 rfl) ?_
        refine xs_size (fun hHz => ?_)
        refine vx_ret ?_
        refine W.widen (k := 1) (n := 6) (by omega) (by omega) ?_
        obtain ⟨hP9, hD9⟩ := zsub2 (ws' := [(eO7a pa lx bk pfa pfp psk phe phr phs pop), (eO3a lx lby lfi lco lxe u_18.1 u_18.2.1 u_18.2.2.1 u_18.2.2.2.1 u_18.2.2.2.2), (eA0 lby cBy 900 fBy), (eA0 lco cCo 23 fCo), (eO0a bk bto bnm bla bsk bru bbo bdi bda bdk bdt bdp bno), (eA0 bto cTo 5 fTo), (eA4 bnm cNm 5 (fun k => some (Nm k))), (eA0 (Nm 0) cNr 12 (upd (fNm 0) ((fTo ((0 : Int32).toNatClampNeg)).toNatClampNeg) u_4.2.2.2.2))]) hP hD [0, 5, 6, 7, 1, 2, 3, 4] (by decide +kernel) rfl
        have hK9 := hK.sub (tys' := []) [] rfl
        exact W.iret (v := fTo ((0 : Int32).toNatClampNeg)) hx hb hr (fun t ht hW => ⟨⟨fTo ((0 : Int32).toNatClampNeg), (pfa, pfp, u_18.1, u_18.2.1, u_18.2.2.1, u_18.2.2.2.1, u_18.2.2.2.2, (va_up fNm 0 (upd (fNm 0) ((fTo ((0 : Int32).toNatClampNeg)).toNatClampNeg) u_4.2.2.2.2))), rfl, ⟨((fun e9 => ⟨by rw [e9], by rw [e9], by rw [e9]⟩ : fp_beginNamed0 pfa pfp lxe lxa lxt lxp lxn lxl fBy fCo fTo fNm = ((0 : Int32), fTo ((0 : Int32).toNatClampNeg), pfa, pfp, u_18.1, u_18.2.1, u_18.2.2.1, u_18.2.2.2.1, u_18.2.2.2.2, (va_up fNm 0 (upd (fNm 0) ((fTo ((0 : Int32).toNatClampNeg)).toNatClampNeg) u_4.2.2.2.2))) → _) ((by rw [fp_beginNamed0]; (try rw [if_pos c_1]); (try rw [← hq_u_4]); (try rw [xL_eq]); (try rw [if_pos c_11]); (try rw [← hq_r_13]); (try rw [xL_eq]); (try rw [if_pos c_14]); (try rw [← hq_u_18]); (try rw [xL_eq]); try rfl))), (gp_beginNamed0_s5 (y0 := u_18.1) hp_24), (gp_beginNamed0_s6 (y0 := fTo ((0 : Int32).toNatClampNeg)) c_1 hT.1.1 hT.1.2), (gp_beginNamed0_s7 (y0 := fTo ((0 : Int32).toNatClampNeg)) c_1 hT.1.1 hT.1.2), (gp_beginNamed0_s8 (y0 := fTo ((0 : Int32).toNatClampNeg)) c_1 hT.1.1 hT.1.2)⟩, ⟨by rw [ht]; exact hP9, va_K.moved hW.alike hK9, hD9⟩, by rw [ht]; first | exact hHz | exact hHz.trans (by rw [rH])⟩, hS.F ht⟩) hS.2.2 dX7_beginNamed_134
      · refine lv_iconst (v := 1) hx hb dX7_beginNamed_92 (by decide) ?_
        refine lv_goto (tgt := 97) hx hb dX7_beginNamed_93 (by decide) ?_
        refine lv_iconst (v := 3) hx hb dX7_beginNamed_97 (by decide) ?_
        refine lv_aload_n hx hb dX7_beginNamed_98 rfl (lv_at hl 1 rfl) ?_
        refine va_get (D := (dC, dI)) (ci := 7) (v := .ref lx) (C := RX7) (T := TX7) (N := 9) hx hb htw inlX7 hown hK hP 0 rfl rfl 0 (by decide) (htw _ (ck_3 _ (List.mem_of_getElem? (i := 5) rfl))) (fun _ h9 => h9) rfl dX7_beginNamed_99 ?_
        refine va_get (D := (dC, dI)) (ci := 3) (v := .int u_4.2.2.1) (C := RX3) (T := TX3) (N := 9) hx hb htw inlX3 hown hK hP 5 rfl rfl 6 (by decide) (htw _ (ck_15 _ (List.mem_of_getElem? (i := 13) rfl))) (fun _ h9 => h9) rfl dX7_beginNamed_102 ?_
        refine xs_size (fun hHz => ?_)
        obtain ⟨hPc, hDc, hFc, hCc⟩ := zsub3 (ws' := [(eO7a pa lx bk pfa pfp psk phe phr phs pop)]) hP hD hS hA [0] (by decide) rfl
        have hKc := hK.sub (tys' := []) [] rfl
        refine vx_callv (vx_runV (As := [.int 1, .int 3, .int u_4.2.2.1]) (rest := []) ⟨hx, hb, hml, hown, htw⟩ (gp_refT l hst dC dI pa lx bk pfa pfp psk phe phr phs pop (1 : Int32) (3 : Int32) u_4.2.2.1 sL H.size (gp_beginNamed0_s9 )) (cwV 3 htw (xg_V (ck_16 _ (List.mem_of_getElem? (i := 6) rfl)) (ck_16 _ (List.mem_of_getElem? (i := 7) rfl)) (ck_16 _ (List.mem_of_getElem? (i := 8) rfl)) (ck_1 _ (List.mem_of_getElem? (i := 16) rfl)) (ck_16 _ (List.mem_of_getElem? (i := 9) rfl))) rfl rfl rfl (by exact ⟨rfl, hdc_15.1, hdc_15.2, hdd_48⟩) ⟨Nat.le_of_ble_eq_true rfl, Nat.le_of_ble_eq_true rfl⟩) ⟨fun a U g mk q => by obtain ⟨q0, q1, qP, qK, qD, qx0⟩ := q; exact ⟨q0, q1, qP, va_K.moved (u := U) (U := U.calling g mk a) (Vm.Alike.refl U.vm) qK, qD, xl.calling qx0⟩, va_recv hKc hPc (ci := 7) (q0 := 0) rfl rfl, fun U hU hW => ⟨rfl, by rw [hU], by rw [hU]; exact hPc, va_K.moved hW.alike hKc, hDc.weaken (fun _ _ _ _ => trivial), by rw [hU]; exact xl.warm hW ((xl.kept hXL hS.2.1).narrow hFc)⟩⟩ rfl rfl hl.1 rfl (lv_room (Nat.le_of_ble_eq_true rfl)) dX7_beginNamed_105 ⟨Nat.le_of_ble_eq_true rfl, Nat.le_of_ble_eq_true rfl⟩) hS (fun q _ h => hFc q h) hFc (fun q _ h => hFc q h) (fun E ce q9 u_25 t H1 locs ht hvm hw hB hz1 hk1 hS hcell hcv hcl => ?_) (fun u_27 t H1 locs ht hvm hw hB hz1 hk1 hS => hw.elim)
        obtain ⟨hE9, hB⟩ := hB
        subst hE9
        obtain ⟨hP1, hK1, hD1⟩ := hB
        rw [ht] at hP1
        have hK1 := va_K.moved hvm.symm hK1
        have hK1 : va_K (dC, dI) vwCl [] s := hK1
        obtain ⟨hP, hD⟩ := va_join (wr := [(eO0a bk bto bnm bla bsk bru bbo bdi bda bdk bdt bdp bno), (eA0 bto cTo 5 fTo), (eA4 bnm cNm 5 (fun k => some (Nm k))), (eA0 (Nm 0) cNr 12 (fNm 0)), (eO3a lx lby lfi lco lxe u_4.1 u_4.2.1 u_4.2.2.1 u_4.2.2.2.1 u_4.2.2.2.2), (eA0 lby cBy 900 fBy), (eA0 lco cCo 23 fCo)]) (w1 := [(eO7a pa lx bk 3 u_4.2.2.1 psk phe phr phs pop)]) hP hD [0] [1, 2, 3, 4, 5, 6, 7] hCc rfl (by decide) (by decide) hk1 hFc hP1 hD1
        generalize H1 = H at hP hS hcell ⊢
        obtain ⟨hP, hD⟩ := zre [(eO0a bk bto bnm bla bsk bru bbo bdi bda bdk bdt bdp bno), (eA0 bto cTo 5 fTo), (eA4 bnm cNm 5 (fun k => some (Nm k))), (eA0 (Nm 0) cNr 12 (fNm 0)), (eO3a lx lby lfi lco lxe u_4.1 u_4.2.1 u_4.2.2.1 u_4.2.2.2.1 u_4.2.2.2.2), (eA0 lby cBy 900 fBy), (eA0 lco cCo 23 fCo), (eO7a pa lx bk 3 u_4.2.2.1 psk phe phr phs pop)] hP hD rfl
        obtain ⟨hP9, hD9⟩ := zsub2 (ws' := [(eO7a pa lx bk 3 u_4.2.2.1 psk phe phr phs pop), (eO3a lx lby lfi lco lxe u_4.1 u_4.2.1 u_4.2.2.1 u_4.2.2.2.1 u_4.2.2.2.2), (eA0 lby cBy 900 fBy), (eA0 lco cCo 23 fCo), (eO0a bk bto bnm bla bsk bru bbo bdi bda bdk bdt bdp bno), (eA0 bto cTo 5 fTo), (eA4 bnm cNm 5 (fun k => some (Nm k))), (eA0 (Nm 0) cNr 12 (fNm 0))]) hP hD [7, 4, 5, 6, 0, 1, 2, 3] (by decide +kernel) rfl
        have hK9 := hK.sub (tys' := []) [] rfl
        exact vx_widen (k := 1) (n := 6) (Nat.le_of_ble_eq_true rfl) (Nat.le_of_ble_eq_true rfl) (vx_out (fun x h9 => (hex x h9).elim) hlocks hcell hcv hcl (fun t ht hal => ⟨(3, u_4.2.2.1, u_4.1, u_4.2.1, u_4.2.2.1, u_4.2.2.2.1, u_4.2.2.2.2, fNm), ((fun e9 => ⟨by rw [e9], by rw [e9]⟩ : fp_beginNamed0 pfa pfp lxe lxa lxt lxp lxn lxl fBy fCo fTo fNm = ((1 : Int32), (0 : Int32), (3 : Int32), u_4.2.2.1, u_4.1, u_4.2.1, u_4.2.2.1, u_4.2.2.2.1, u_4.2.2.2.2, fNm) → _) ((by rw [fp_beginNamed0]; (try rw [if_pos c_1]); (try rw [← hq_u_4]); (try rw [xL_eq]); (try rw [if_pos c_11]); (try rw [← hq_r_13]); (try rw [xL_eq]); (try rw [if_neg c_14]); try rfl))), ⟨rfl, by rw [ht]; exact hP9, va_K.moved hal hK9, hD9⟩, hS.F ht⟩) hS.2.2 (Nat.le_of_ble_eq_true rfl) (Nat.le_of_ble_eq_true rfl))
    · refine lv_iconst (v := 1) hx hb dX7_beginNamed_56 (by decide) ?_
      refine lv_goto (tgt := 61) hx hb dX7_beginNamed_57 (by decide) ?_
      refine lv_iconst (v := 1) hx hb dX7_beginNamed_61 (by decide) ?_
      refine lv_aload_n hx hb dX7_beginNamed_62 rfl (lv_at hl 1 rfl) ?_
      refine va_get (D := (dC, dI)) (ci := 7) (v := .ref lx) (C := RX7) (T := TX7) (N := 9) hx hb htw inlX7 hown hK hP 0 rfl rfl 0 (by decide) (htw _ (ck_3 _ (List.mem_of_getElem? (i := 5) rfl))) (fun _ h9 => h9) rfl dX7_beginNamed_63 ?_
      refine va_get (D := (dC, dI)) (ci := 3) (v := .int u_4.2.2.1) (C := RX3) (T := TX3) (N := 9) hx hb htw inlX3 hown hK hP 5 rfl rfl 6 (by decide) (htw _ (ck_15 _ (List.mem_of_getElem? (i := 13) rfl))) (fun _ h9 => h9) rfl dX7_beginNamed_66 ?_
      refine xs_size (fun hHz => ?_)
      obtain ⟨hPc, hDc, hFc, hCc⟩ := zsub3 (ws' := [(eO7a pa lx bk pfa pfp psk phe phr phs pop)]) hP hD hS hA [0] (by decide) rfl
      have hKc := hK.sub (tys' := []) [] rfl
      refine vx_callv (vx_runV (As := [.int 1, .int 1, .int u_4.2.2.1]) (rest := []) ⟨hx, hb, hml, hown, htw⟩ (gp_refT l hst dC dI pa lx bk pfa pfp psk phe phr phs pop (1 : Int32) (1 : Int32) u_4.2.2.1 sL H.size (gp_beginNamed0_s10 )) (cwV 3 htw (xg_V (ck_16 _ (List.mem_of_getElem? (i := 6) rfl)) (ck_16 _ (List.mem_of_getElem? (i := 7) rfl)) (ck_16 _ (List.mem_of_getElem? (i := 8) rfl)) (ck_1 _ (List.mem_of_getElem? (i := 16) rfl)) (ck_16 _ (List.mem_of_getElem? (i := 9) rfl))) rfl rfl rfl (by exact ⟨rfl, hdc_15.1, hdc_15.2, hdd_48⟩) ⟨Nat.le_of_ble_eq_true rfl, Nat.le_of_ble_eq_true rfl⟩) ⟨fun a U g mk q => by obtain ⟨q0, q1, qP, qK, qD, qx0⟩ := q; exact ⟨q0, q1, qP, va_K.moved (u := U) (U := U.calling g mk a) (Vm.Alike.refl U.vm) qK, qD, xl.calling qx0⟩, va_recv hKc hPc (ci := 7) (q0 := 0) rfl rfl, fun U hU hW => ⟨rfl, by rw [hU], by rw [hU]; exact hPc, va_K.moved hW.alike hKc, hDc.weaken (fun _ _ _ _ => trivial), by rw [hU]; exact xl.warm hW ((xl.kept hXL hS.2.1).narrow hFc)⟩⟩ rfl rfl hl.1 rfl (lv_room (Nat.le_of_ble_eq_true rfl)) dX7_beginNamed_69 ⟨Nat.le_of_ble_eq_true rfl, Nat.le_of_ble_eq_true rfl⟩) hS (fun q _ h => hFc q h) hFc (fun q _ h => hFc q h) (fun E ce q9 u_28 t H1 locs ht hvm hw hB hz1 hk1 hS hcell hcv hcl => ?_) (fun u_30 t H1 locs ht hvm hw hB hz1 hk1 hS => hw.elim)
      obtain ⟨hE9, hB⟩ := hB
      subst hE9
      obtain ⟨hP1, hK1, hD1⟩ := hB
      rw [ht] at hP1
      have hK1 := va_K.moved hvm.symm hK1
      have hK1 : va_K (dC, dI) vwCl [] s := hK1
      obtain ⟨hP, hD⟩ := va_join (wr := [(eO0a bk bto bnm bla bsk bru bbo bdi bda bdk bdt bdp bno), (eA0 bto cTo 5 fTo), (eA4 bnm cNm 5 (fun k => some (Nm k))), (eA0 (Nm 0) cNr 12 (fNm 0)), (eO3a lx lby lfi lco lxe u_4.1 u_4.2.1 u_4.2.2.1 u_4.2.2.2.1 u_4.2.2.2.2), (eA0 lby cBy 900 fBy), (eA0 lco cCo 23 fCo)]) (w1 := [(eO7a pa lx bk 1 u_4.2.2.1 psk phe phr phs pop)]) hP hD [0] [1, 2, 3, 4, 5, 6, 7] hCc rfl (by decide) (by decide) hk1 hFc hP1 hD1
      generalize H1 = H at hP hS hcell ⊢
      obtain ⟨hP, hD⟩ := zre [(eO0a bk bto bnm bla bsk bru bbo bdi bda bdk bdt bdp bno), (eA0 bto cTo 5 fTo), (eA4 bnm cNm 5 (fun k => some (Nm k))), (eA0 (Nm 0) cNr 12 (fNm 0)), (eO3a lx lby lfi lco lxe u_4.1 u_4.2.1 u_4.2.2.1 u_4.2.2.2.1 u_4.2.2.2.2), (eA0 lby cBy 900 fBy), (eA0 lco cCo 23 fCo), (eO7a pa lx bk 1 u_4.2.2.1 psk phe phr phs pop)] hP hD rfl
      obtain ⟨hP9, hD9⟩ := zsub2 (ws' := [(eO7a pa lx bk 1 u_4.2.2.1 psk phe phr phs pop), (eO3a lx lby lfi lco lxe u_4.1 u_4.2.1 u_4.2.2.1 u_4.2.2.2.1 u_4.2.2.2.2), (eA0 lby cBy 900 fBy), (eA0 lco cCo 23 fCo), (eO0a bk bto bnm bla bsk bru bbo bdi bda bdk bdt bdp bno), (eA0 bto cTo 5 fTo), (eA4 bnm cNm 5 (fun k => some (Nm k))), (eA0 (Nm 0) cNr 12 (fNm 0))]) hP hD [7, 4, 5, 6, 0, 1, 2, 3] (by decide +kernel) rfl
      have hK9 := hK.sub (tys' := []) [] rfl
      exact vx_widen (k := 1) (n := 6) (Nat.le_of_ble_eq_true rfl) (Nat.le_of_ble_eq_true rfl) (vx_out (fun x h9 => (hex x h9).elim) hlocks hcell hcv hcl (fun t ht hal => ⟨(1, u_4.2.2.1, u_4.1, u_4.2.1, u_4.2.2.1, u_4.2.2.2.1, u_4.2.2.2.2, fNm), ((fun e9 => ⟨by rw [e9], by rw [e9]⟩ : fp_beginNamed0 pfa pfp lxe lxa lxt lxp lxn lxl fBy fCo fTo fNm = ((1 : Int32), (0 : Int32), (1 : Int32), u_4.2.2.1, u_4.1, u_4.2.1, u_4.2.2.1, u_4.2.2.2.1, u_4.2.2.2.2, fNm) → _) ((by rw [fp_beginNamed0]; (try rw [if_pos c_1]); (try rw [← hq_u_4]); (try rw [xL_eq]); (try rw [if_neg c_11]); try rfl))), ⟨rfl, by rw [ht]; exact hP9, va_K.moved hal hK9, hD9⟩, hS.F ht⟩) hS.2.2 (Nat.le_of_ble_eq_true rfl) (Nat.le_of_ble_eq_true rfl))
  · refine lv_iconst (v := 1) hx hb dX7_beginNamed_20 (by decide) ?_
    refine lv_goto (tgt := 25) hx hb dX7_beginNamed_21 (by decide) ?_
    refine lv_iconst (v := 2) hx hb dX7_beginNamed_25 (by decide) ?_
    refine lv_aload_n hx hb dX7_beginNamed_26 rfl (lv_at hl 1 rfl) ?_
    refine va_get (D := (dC, dI)) (ci := 7) (v := .ref lx) (C := RX7) (T := TX7) (N := 9) hx hb htw inlX7 hown hK hP 0 rfl rfl 0 (by decide) (htw _ (ck_3 _ (List.mem_of_getElem? (i := 5) rfl))) (fun _ h9 => h9) rfl dX7_beginNamed_27 ?_
    refine va_get (D := (dC, dI)) (ci := 3) (v := .int lxp) (C := RX3) (T := TX3) (N := 9) hx hb htw inlX3 hown hK hP 1 rfl rfl 6 (by decide) (htw _ (ck_15 _ (List.mem_of_getElem? (i := 13) rfl))) (fun _ h9 => h9) rfl dX7_beginNamed_30 ?_
    refine xs_size (fun hHz => ?_)
    obtain ⟨hPc, hDc, hFc, hCc⟩ := zsub3 (ws' := [(eO7a pa lx bk pfa pfp psk phe phr phs pop)]) hP hD hS hA [0] (by decide) rfl
    have hKc := hK.sub (tys' := []) [] rfl
    refine vx_callv (vx_runV (As := [.int 1, .int 2, .int lxp]) (rest := []) ⟨hx, hb, hml, hown, htw⟩ (gp_refT l hst dC dI pa lx bk pfa pfp psk phe phr phs pop (1 : Int32) (2 : Int32) lxp sL H.size (gp_beginNamed0_s11 )) (cwV 3 htw (xg_V (ck_16 _ (List.mem_of_getElem? (i := 6) rfl)) (ck_16 _ (List.mem_of_getElem? (i := 7) rfl)) (ck_16 _ (List.mem_of_getElem? (i := 8) rfl)) (ck_1 _ (List.mem_of_getElem? (i := 16) rfl)) (ck_16 _ (List.mem_of_getElem? (i := 9) rfl))) rfl rfl rfl (by exact ⟨rfl, hdc_15.1, hdc_15.2, hdd_48⟩) ⟨Nat.le_of_ble_eq_true rfl, Nat.le_of_ble_eq_true rfl⟩) ⟨fun a U g mk q => by obtain ⟨q0, q1, qP, qK, qD, qx0⟩ := q; exact ⟨q0, q1, qP, va_K.moved (u := U) (U := U.calling g mk a) (Vm.Alike.refl U.vm) qK, qD, xl.calling qx0⟩, va_recv hKc hPc (ci := 7) (q0 := 0) rfl rfl, fun U hU hW => ⟨rfl, by rw [hU], by rw [hU]; exact hPc, va_K.moved hW.alike hKc, hDc.weaken (fun _ _ _ _ => trivial), by rw [hU]; exact xl.warm hW ((xl.kept hXL hS.2.1).narrow hFc)⟩⟩ rfl rfl hl.1 rfl (lv_room (Nat.le_of_ble_eq_true rfl)) dX7_beginNamed_33 ⟨Nat.le_of_ble_eq_true rfl, Nat.le_of_ble_eq_true rfl⟩) hS (fun q _ h => hFc q h) hFc (fun q _ h => hFc q h) (fun E ce q9 u_31 t H1 locs ht hvm hw hB hz1 hk1 hS hcell hcv hcl => ?_) (fun u_33 t H1 locs ht hvm hw hB hz1 hk1 hS => hw.elim)
    obtain ⟨hE9, hB⟩ := hB
    subst hE9
    obtain ⟨hP1, hK1, hD1⟩ := hB
    rw [ht] at hP1
    have hK1 := va_K.moved hvm.symm hK1
    have hK1 : va_K (dC, dI) vwCl [] s := hK1
    obtain ⟨hP, hD⟩ := va_join (wr := [(eO3a lx lby lfi lco lxe lxa lxt lxp lxn lxl), (eA0 lby cBy 900 fBy), (eA0 lco cCo 23 fCo), (eO0a bk bto bnm bla bsk bru bbo bdi bda bdk bdt bdp bno), (eA0 bto cTo 5 fTo), (eA4 bnm cNm 5 (fun k => some (Nm k))), (eA0 (Nm 0) cNr 12 (fNm 0))]) (w1 := [(eO7a pa lx bk 2 lxp psk phe phr phs pop)]) hP hD [0] [1, 2, 3, 4, 5, 6, 7] hCc rfl (by decide) (by decide) hk1 hFc hP1 hD1
    generalize H1 = H at hP hS hcell ⊢
    obtain ⟨hP, hD⟩ := zre [(eO3a lx lby lfi lco lxe lxa lxt lxp lxn lxl), (eA0 lby cBy 900 fBy), (eA0 lco cCo 23 fCo), (eO0a bk bto bnm bla bsk bru bbo bdi bda bdk bdt bdp bno), (eA0 bto cTo 5 fTo), (eA4 bnm cNm 5 (fun k => some (Nm k))), (eA0 (Nm 0) cNr 12 (fNm 0)), (eO7a pa lx bk 2 lxp psk phe phr phs pop)] hP hD rfl
    obtain ⟨hP9, hD9⟩ := zsub2 (ws' := [(eO7a pa lx bk 2 lxp psk phe phr phs pop), (eO3a lx lby lfi lco lxe lxa lxt lxp lxn lxl), (eA0 lby cBy 900 fBy), (eA0 lco cCo 23 fCo), (eO0a bk bto bnm bla bsk bru bbo bdi bda bdk bdt bdp bno), (eA0 bto cTo 5 fTo), (eA4 bnm cNm 5 (fun k => some (Nm k))), (eA0 (Nm 0) cNr 12 (fNm 0))]) hP hD [7, 0, 1, 2, 3, 4, 5, 6] (by decide +kernel) rfl
    have hK9 := hK.sub (tys' := []) [] rfl
    exact vx_widen (k := 1) (n := 6) (Nat.le_of_ble_eq_true rfl) (Nat.le_of_ble_eq_true rfl) (vx_out (fun x h9 => (hex x h9).elim) hlocks hcell hcv hcl (fun t ht hal => ⟨(2, lxp, lxa, lxt, lxp, lxn, lxl, fNm), ((fun e9 => ⟨by rw [e9], by rw [e9]⟩ : fp_beginNamed0 pfa pfp lxe lxa lxt lxp lxn lxl fBy fCo fTo fNm = ((1 : Int32), (0 : Int32), (2 : Int32), lxp, lxa, lxt, lxp, lxn, lxl, fNm) → _) ((by rw [fp_beginNamed0]; (try rw [if_neg c_1]); try rfl))), ⟨rfl, by rw [ht]; exact hP9, va_K.moved hal hK9, hD9⟩, hS.F ht⟩) hS.2.2 (Nat.le_of_ble_eq_true rfl) (Nat.le_of_ble_eq_true rfl))

def fp_beginNamed1 (pfa : Int32) (pfp : Int32) (lxe : Int32) (lxa : Int32) (lxt : Int32) (lxp : Int32) (lxn : Int32) (lxl : Int32) (fBy : Nat → Int32) (fCo : Nat → Int32) (fTo : Nat → Int32) (fNm : Nat → Nat → Int32) : Int32 × Int32 × (Int32) × (Int32) × (Int32) × (Int32) × (Int32) × (Int32) × (Int32) × (Nat → Nat → Int32) := (if fTo ((1 : Int32).toNatClampNeg) < 4 then (xL ((fe_advance lxe lxa lxn lxl fBy fCo)) (fun u_4 => (if u_4.2.1 = 23 then (xL ((fb_find1 fTo fNm u_4.2.2.2.2)) (fun r_13 => (if r_13 = (-1) then (xL ((fe_advance lxe u_4.1 u_4.2.2.2.1 u_4.2.2.2.2 fBy fCo)) (fun u_18 => ((0 : Int32), fTo ((1 : Int32).toNatClampNeg), pfa, pfp, u_18.1, u_18.2.1, u_18.2.2.1, u_18.2.2.2.1, u_18.2.2.2.2, (va_up fNm 1 (upd (fNm 1) ((fTo ((1 : Int32).toNatClampNeg)).toNatClampNeg) u_4.2.2.2.2))))) else ((1 : Int32), (0 : Int32), (3 : Int32), u_4.2.2.1, u_4.1, u_4.2.1, u_4.2.2.1, u_4.2.2.2.1, u_4.2.2.2.2, fNm)))) else ((1 : Int32), (0 : Int32), (1 : Int32), u_4.2.2.1, u_4.1, u_4.2.1, u_4.2.2.1, u_4.2.2.2.1, u_4.2.2.2.2, fNm)))) else ((1 : Int32), (0 : Int32), (2 : Int32), lxp, lxa, lxt, lxp, lxn, lxl, fNm))
theorem gp_beginNamed1_s0  : (0 : Int32) = 0 := (by decide)
theorem gp_beginNamed1_s1  : (0 : Int32) = 0 := (by decide)
theorem gp_beginNamed1_s2  : (0 : Int32) = 0 := (by decide)
theorem gp_beginNamed1_s3 {y0 : Int32} (h0 : y0 < 4) (h1 : ¬ (y0 < 0)) (h2 : y0 ≤ 4) : ¬ (y0 < 0) ∧ ¬ (12 ≤ y0) := by lia
theorem gp_beginNamed1_s4 {y0 : Int32} (h0 : ¬ (y0 < 0)) : ¬ (y0 < 0) := h0
theorem gp_beginNamed1_s5 {y0 : Int32} (h0 : ¬ (y0 < 0)) : ¬ (y0 < 0) := h0
theorem gp_beginNamed1_s6 {y0 : Int32} (h0 : y0 < 4) (h1 : ¬ (y0 < 0)) (h2 : y0 ≤ 4) : ¬ (y0 < 0) := h1
theorem gp_beginNamed1_s7 {y0 : Int32} (h0 : y0 < 4) (h1 : ¬ (y0 < 0)) (h2 : y0 ≤ 4) : y0 < 4 := h0
theorem gp_beginNamed1_s8 {y0 : Int32} (h0 : y0 < 4) (h1 : ¬ (y0 < 0)) (h2 : y0 ≤ 4) : y0 = y0 := by lia
theorem gp_beginNamed1_s9  : ¬ ((1 : Int32) = 0) := (by decide)
theorem gp_beginNamed1_s10  : ¬ ((1 : Int32) = 0) := (by decide)
theorem gp_beginNamed1_s11  : ¬ ((1 : Int32) = 0) := (by decide)
set_option maxHeartbeats 4000000 in
set_option maxRecDepth 100000 in
theorem gp_beginNamed1 (l : Launch) (hst : l.stackTraces = false) (dC : Nat → ClassId) (dI : Nat → Nat → Nat) (pa : Nat) (lx : Nat) (bk : Nat) (pfa : Int32) (pfp : Int32) (psk : Int32) (phe : Nat) (phr : Nat) (phs : Int32) (pop : Int32) (lby : Nat) (lfi : Int32) (lco : Nat) (lxe : Int32) (lxa : Int32) (lxt : Int32) (lxp : Int32) (lxn : Int32) (lxl : Int32) (cBy : ClassId) (fBy : Nat → Int32) (cCo : ClassId) (fCo : Nat → Int32) (bto : Nat) (bnm : Nat) (bla : Nat) (bsk : Nat) (bru : Nat) (bbo : Nat) (bdi : Nat) (bda : Nat) (bdk : Nat) (bdt : Nat) (bdp : Nat) (bno : Nat) (cTo : ClassId) (fTo : Nat → Int32) (cNm : ClassId) (Nm : Nat → Nat) (cNr : ClassId) (fNm : Nat → Nat → Int32) (sL : Nat → Nat) (sz : Nat) (h0_lxa : ¬ lxa < 0) (h9_lxe : lxe ≤ 900) (hT : xT fTo) : vx_Met l yX7_beginNamed (Cond.code yX7_beginNamed cX7_beginNamed 3 (some .int) :: wsL_law) ({ frames := 7, cells := 1, slots := 6, locals := 105 }) (va_Pc [.ref pa, .int 1] (fun U => U.heap.size = sz ∧ va_P (dC, dI) vwCl [(eO7a pa lx bk pfa pfp psk phe phr phs pop), (eO3a lx lby lfi lco lxe lxa lxt lxp lxn lxl), (eA0 lby cBy 900 fBy), (eA0 lco cCo 23 fCo), (eO0a bk bto bnm bla bsk bru bbo bdi bda bdk bdt bdp bno), (eA0 bto cTo 5 fTo), (eA4 bnm cNm 5 (fun k => some (Nm k))), (eA0 (Nm 1) cNr 12 (fNm 1))] U.heap ∧ va_K (dC, dI) vwCl [(cBy, .byte), (cCo, .int), (cTo, .int), (cNm, .array .int), (cNr, .int)] U ∧ va_D (fun _ => True) [(eO7a pa lx bk pfa pfp psk phe phr phs pop), (eO3a lx lby lfi lco lxe lxa lxt lxp lxn lxl), (eA0 lby cBy 900 fBy), (eA0 lco cCo 23 fCo), (eO0a bk bto bnm bla bsk bru bbo bdi bda bdk bdt bdp bno), (eA0 bto cTo 5 fTo), (eA4 bnm cNm 5 (fun k => some (Nm k))), (eA0 (Nm 1) cNr 12 (fNm 1))] ∧ xl sL (va_A [(eO7a pa lx bk pfa pfp psk phe phr phs pop), (eO3a lx lby lfi lco lxe lxa lxt lxp lxn lxl), (eA0 lby cBy 900 fBy), (eA0 lco cCo 23 fCo), (eO0a bk bto bnm bla bsk bru bbo bdi bda bdk bdt bdp bno), (eA0 bto cTo 5 fTo), (eA4 bnm cNm 5 (fun k => some (Nm k))), (eA0 (Nm 1) cNr 12 (fNm 1))] sz) U U.heap)) (va_Qi (fun (r : Int32) (u : (Int32) × (Int32) × (Int32) × (Int32) × (Int32) × (Int32) × (Int32) × (Nat → Nat → Int32)) => ((fp_beginNamed1 pfa pfp lxe lxa lxt lxp lxn lxl fBy fCo fTo fNm).1 = 0 ∧ r = (fp_beginNamed1 pfa pfp lxe lxa lxt lxp lxn lxl fBy fCo fTo fNm).2.1 ∧ u = (fp_beginNamed1 pfa pfp lxe lxa lxt lxp lxn lxl fBy fCo fTo fNm).2.2) ∧ (¬ u.2.2.1 < 0) ∧ (¬ r < 0) ∧ (r < 4) ∧ (r = fTo ((1 : Int32).toNatClampNeg))) (fun (u : (Int32) × (Int32) × (Int32) × (Int32) × (Int32) × (Int32) × (Int32) × (Nat → Nat → Int32)) t => (va_P (dC, dI) vwCl [(eO7a pa lx bk u.1 u.2.1 psk phe phr phs pop), (eO3a lx lby lfi lco lxe u.2.2.1 u.2.2.2.1 u.2.2.2.2.1 u.2.2.2.2.2.1 u.2.2.2.2.2.2.1), (eA0 lby cBy 900 fBy), (eA0 lco cCo 23 fCo), (eO0a bk bto bnm bla bsk bru bbo bdi bda bdk bdt bdp bno), (eA0 bto cTo 5 fTo), (eA4 bnm cNm 5 (fun k => some (Nm k))), (eA0 (Nm 1) cNr 12 (u.2.2.2.2.2.2.2 1))] t.heap ∧ va_K (dC, dI) vwCl [] t ∧ va_D (va_A [(eO7a pa lx bk pfa pfp psk phe phr phs pop), (eO3a lx lby lfi lco lxe lxa lxt lxp lxn lxl), (eA0 lby cBy 900 fBy), (eA0 lco cCo 23 fCo), (eO0a bk bto bnm bla bsk bru bbo bdi bda bdk bdt bdp bno), (eA0 bto cTo 5 fTo), (eA4 bnm cNm 5 (fun k => some (Nm k))), (eA0 (Nm 1) cNr 12 (fNm 1))] sz) [(eO7a pa lx bk u.1 u.2.1 psk phe phr phs pop), (eO3a lx lby lfi lco lxe u.2.2.1 u.2.2.2.1 u.2.2.2.2.1 u.2.2.2.2.2.1 u.2.2.2.2.2.2.1), (eA0 lby cBy 900 fBy), (eA0 lco cCo 23 fCo), (eO0a bk bto bnm bla bsk bru bbo bdi bda bdk bdt bdp bno), (eA0 bto cTo 5 fTo), (eA4 bnm cNm 5 (fun k => some (Nm k))), (eA0 (Nm 1) cNr 12 (u.2.2.2.2.2.2.2 1))]) ∧ t.heap.size = sz) (va_A [(eO7a pa lx bk pfa pfp psk phe phr phs pop), (eO3a lx lby lfi lco lxe lxa lxt lxp lxn lxl), (eA0 lby cBy 900 fBy), (eA0 lco cCo 23 fCo), (eO0a bk bto bnm bla bsk bru bbo bdi bda bdk bdt bdp bno), (eA0 bto cTo 5 fTo), (eA4 bnm cNm 5 (fun k => some (Nm k))), (eA0 (Nm 1) cNr 12 (fNm 1))] sz)) (vx_X (fun (u : (Int32) × (Int32) × (Int32) × (Int32) × (Int32) × (Int32) × (Int32) × (Nat → Nat → Int32)) => (fp_beginNamed1 pfa pfp lxe lxa lxt lxp lxn lxl fBy fCo fTo fNm).1 = 1 ∧ u = (fp_beginNamed1 pfa pfp lxe lxa lxt lxp lxn lxl fBy fCo fTo fNm).2.2) (fun (E : String) (u : (Int32) × (Int32) × (Int32) × (Int32) × (Int32) × (Int32) × (Int32) × (Nat → Nat → Int32)) (t : State) => E = "java/lang/IllegalStateException" ∧ va_P (dC, dI) vwCl [(eO7a pa lx bk u.1 u.2.1 psk phe phr phs pop), (eO3a lx lby lfi lco lxe u.2.2.1 u.2.2.2.1 u.2.2.2.2.1 u.2.2.2.2.2.1 u.2.2.2.2.2.2.1), (eA0 lby cBy 900 fBy), (eA0 lco cCo 23 fCo), (eO0a bk bto bnm bla bsk bru bbo bdi bda bdk bdt bdp bno), (eA0 bto cTo 5 fTo), (eA4 bnm cNm 5 (fun k => some (Nm k))), (eA0 (Nm 1) cNr 12 (u.2.2.2.2.2.2.2 1))] t.heap ∧ va_K (dC, dI) vwCl [] t ∧ va_D (va_A [(eO7a pa lx bk pfa pfp psk phe phr phs pop), (eO3a lx lby lfi lco lxe lxa lxt lxp lxn lxl), (eA0 lby cBy 900 fBy), (eA0 lco cCo 23 fCo), (eO0a bk bto bnm bla bsk bru bbo bdi bda bdk bdt bdp bno), (eA0 bto cTo 5 fTo), (eA4 bnm cNm 5 (fun k => some (Nm k))), (eA0 (Nm 1) cNr 12 (fNm 1))] sz) [(eO7a pa lx bk u.1 u.2.1 psk phe phr phs pop), (eO3a lx lby lfi lco lxe u.2.2.1 u.2.2.2.1 u.2.2.2.2.1 u.2.2.2.2.2.1 u.2.2.2.2.2.2.1), (eA0 lby cBy 900 fBy), (eA0 lco cCo 23 fCo), (eO0a bk bto bnm bla bsk bru bbo bdi bda bdk bdt bdp bno), (eA0 bto cTo 5 fTo), (eA4 bnm cNm 5 (fun k => some (Nm k))), (eA0 (Nm 1) cNr 12 (u.2.2.2.2.2.2.2 1))]) (va_A [(eO7a pa lx bk pfa pfp psk phe phr phs pop), (eO3a lx lby lfi lco lxe lxa lxt lxp lxn lxl), (eA0 lby cBy 900 fBy), (eA0 lco cCo 23 fCo), (eO0a bk bto bnm bla bsk bru bbo bdi bda bdk bdt bdp bno), (eA0 bto cTo 5 fTo), (eA4 bnm cNm 5 (fun k => some (Nm k))), (eA0 (Nm 1) cNr 12 (fNm 1))] sz)) 1 6 (va_A [(eO7a pa lx bk pfa pfp psk phe phr phs pop), (eO3a lx lby lfi lco lxe lxa lxt lxp lxn lxl), (eA0 lby cBy 900 fBy), (eA0 lco cCo 23 fCo), (eO0a bk bto bnm bla bsk bru bbo bdi bda bdk bdt bdp bno), (eA0 bto cTo 5 fTo), (eA4 bnm cNm 5 (fun k => some (Nm k))), (eA0 (Nm 1) cNr 12 (fNm 1))] sz) := by
  refine vx_ofW (cc := cX7_beginNamed) (maxL := 3) (ret := (some .int)) (by decide) rfl ?_
  intro p e s m args below meth c s₁ B hml hex hv
  obtain ⟨rfl, hsz, hP, hK, hD0, hXL⟩ := hv
  have hx := B.exec
  have hb := B.bytes
  have hr := B.returns
  have hts := atoms_spec (ws := Cond.code yX7_beginNamed cX7_beginNamed 3 (some .int) :: wsL_law) B.pre
  have htw : ∀ w ∈ wsL_law, w.before _ s = true := fun w h => hts w (List.mem_cons_of_mem _ h)
  have hown : s.vm.findClass RX7 = some m.cls := findClass_of_methodNamed B.named
  have hlocks := B.notSynchronized
  subst hsz
  have hD := hD0.self (sz := s.heap.size)
  generalize hAe : va_A [(eO7a pa lx bk pfa pfp psk phe phr phs pop), (eO3a lx lby lfi lco lxe lxa lxt lxp lxn lxl), (eA0 lby cBy 900 fBy), (eA0 lco cCo 23 fCo), (eO0a bk bto bnm bla bsk bru bbo bdi bda bdk bdt bdp bno), (eA0 bto cTo 5 fTo), (eA4 bnm cNm 5 (fun k => some (Nm k))), (eA0 (Nm 1) cNr 12 (fNm 1))] s.heap.size = A at hD hXL ⊢
  have hA : ∀ q : Nat, s.heap.size ≤ q → A q := fun q h => by rw [← hAe]; exact Or.inr h
  obtain ⟨H, rH⟩ : ∃ z : Heap, z = s.heap := ⟨_, rfl⟩
  have hS : va_S A s.heap H [] := by rw [rH]; exact va_S.rf
  have hP : va_P (dC, dI) vwCl [(eO7a pa lx bk pfa pfp psk phe phr phs pop), (eO3a lx lby lfi lco lxe lxa lxt lxp lxn lxl), (eA0 lby cBy 900 fBy), (eA0 lco cCo 23 fCo), (eO0a bk bto bnm bla bsk bru bbo bdi bda bdk bdt bdp bno), (eA0 bto cTo 5 fTo), (eA4 bnm cNm 5 (fun k => some (Nm k))), (eA0 (Nm 1) cNr 12 (fNm 1))] H := by rw [rH]; exact hP
  rw [← rH]
  have hl := lv_entry ([.ref pa, .int 1]) (n := 3) (Nat.le_of_ble_eq_true rfl)
  rw [lg_entry_eq]
  generalize (lg_sl ([.ref pa, .int 1]) ++ List.replicate (3 - (lg_sl ([.ref pa, .int 1])).length) Slot.unset).toArray = ls at hl ⊢
  have hl : lv_has ls 3 [(0, .ref pa), (1, .int 1)] := hl
  refine lv_aload_n hx hb dX7_beginNamed_0 rfl (lv_at hl 0 rfl) ?_
  refine va_get (D := (dC, dI)) (ci := 7) (v := .ref bk) (C := RX7) (T := TX7) (N := 9) hx hb htw inlX7 hown hK hP 0 rfl rfl 1 (by decide) (htw _ (ck_13 _ (List.mem_of_getElem? (i := 6) rfl))) (fun _ h9 => h9) rfl dX7_beginNamed_1 ?_
  refine va_get (D := (dC, dI)) (ci := 0) (v := .ref bto) (C := RX0) (T := TX0) (N := 12) hx hb htw inlX0 hown hK hP 4 rfl rfl 0 (by decide) (htw _ (ck_15 _ (List.mem_of_getElem? (i := 23) rfl))) (fun _ h9 => h9) rfl dX7_beginNamed_4 ?_
  refine lv_iload_n hx hb dX7_beginNamed_7 rfl (lv_at hl 1 rfl) ?_
  refine va_iald hx hb hK hP 5 2 rfl rfl (by unfold vp_in; decide) dX7_beginNamed_8 ?_
  refine lv_istore_n (lv' := [(2, .int (fTo ((1 : Int32).toNatClampNeg))), (0, .ref pa), (1, .int 1)]) hx hb dX7_beginNamed_9 rfl hl (by decide) rfl (fun ls hl => ?_)
  refine lv_aload_n hx hb dX7_beginNamed_10 rfl (lv_at hl 1 rfl) ?_
  refine lv_iload_n hx hb dX7_beginNamed_11 rfl (lv_at hl 0 rfl) ?_
  refine va_getsN hx hb hXL.2.1 hS hown (va_Nw.use rfl (hXL.2.2.2.2.2.2.2.1)) (fun _ h9 => h9) dX7_beginNamed_12 ?_
  refine lv_iload_n hx hb dX7_beginNamed_15 rfl (lv_at hl 2 rfl) ?_
  refine va_ti hx hb hXL.2.2.1 hS (by unfold vp_in; decide) (v := .int 4) rfl dX7_beginNamed_16 ?_
  refine lv_icmp_lt (tgt := 24) hx hb dX7_beginNamed_17 (by decide) (fun c_1 => ?_) (fun c_1 => ?_)
  · refine lv_iconst (v := 0) hx hb dX7_beginNamed_24 (by decide) ?_
    refine lv_iconst (v := 2) hx hb dX7_beginNamed_25 (by decide) ?_
    refine lv_aload_n hx hb dX7_beginNamed_26 rfl (lv_at hl 1 rfl) ?_
    refine va_get (D := (dC, dI)) (ci := 7) (v := .ref lx) (C := RX7) (T := TX7) (N := 9) hx hb htw inlX7 hown hK hP 0 rfl rfl 0 (by decide) (htw _ (ck_3 _ (List.mem_of_getElem? (i := 5) rfl))) (fun _ h9 => h9) rfl dX7_beginNamed_27 ?_
    refine va_get (D := (dC, dI)) (ci := 3) (v := .int lxp) (C := RX3) (T := TX3) (N := 9) hx hb htw inlX3 hown hK hP 1 rfl rfl 6 (by decide) (htw _ (ck_15 _ (List.mem_of_getElem? (i := 13) rfl))) (fun _ h9 => h9) rfl dX7_beginNamed_30 ?_
    have hPc := hP.sub (ws' := []) [] rfl
    have hKc := hK.sub (tys' := []) [] rfl
    refine va_csv (W.runV (As := [.int 0, .int 2, .int lxp]) (rest := []) ⟨hx, hb, hml, hown, htw⟩ (gp_ref0 l dC dI (0 : Int32) (2 : Int32) lxp pa (gp_beginNamed1_s0 )) (cwV 3 htw (xg_V (ck_16 _ (List.mem_of_getElem? (i := 6) rfl)) (ck_16 _ (List.mem_of_getElem? (i := 7) rfl)) (ck_16 _ (List.mem_of_getElem? (i := 8) rfl)) (ck_1 _ (List.mem_of_getElem? (i := 16) rfl)) (ck_16 _ (List.mem_of_getElem? (i := 9) rfl))) rfl rfl rfl (by exact ⟨rfl, hdc_15.1, hdc_15.2, hdd_48⟩) ⟨Nat.le_of_ble_eq_true rfl, Nat.le_of_ble_eq_true rfl⟩) ⟨fun a U g mk q => by obtain ⟨q0, qP, qK⟩ := q; exact ⟨q0, qP, va_K.moved (u := U) (U := U.calling g mk a) (Vm.Alike.refl U.vm) qK⟩, va_recv hK hP (ci := 7) (q0 := 0) rfl rfl, fun U hU hW => ⟨rfl, by rw [hU]; exact hPc, va_K.moved hW.alike hKc⟩⟩ rfl rfl hl.1 rfl (lv_room (Nat.le_of_ble_eq_true rfl)) dX7_beginNamed_33 ⟨Nat.le_of_ble_eq_true rfl, Nat.le_of_ble_eq_true rfl⟩) (fun hw => ?_)
    try dsimp only at hw
    refine lv_aload_n hx hb dX7_beginNamed_36 rfl (lv_at hl 1 rfl) ?_
    refine va_get (D := (dC, dI)) (ci := 7) (v := .ref lx) (C := RX7) (T := TX7) (N := 9) hx hb htw inlX7 hown hK hP 0 rfl rfl 0 (by decide) (htw _ (ck_3 _ (List.mem_of_getElem? (i := 5) rfl))) (fun _ h9 => h9) rfl dX7_beginNamed_37 ?_
    obtain ⟨hPc, hDc, hFc, hCc⟩ := zsub3 (ws' := [(eO3a lx lby lfi lco lxe lxa lxt lxp lxn lxl), (eA0 lby cBy 900 fBy), (eA0 lco cCo 23 fCo)]) hP hD hS hA [1, 2, 3] (by decide) rfl
    have hKc := hK.sub (tys' := [(cBy, .byte), (cCo, .int)]) [0, 1] rfl
    refine va_callv (va_runV (As := []) (rest := []) ⟨hx, hb, hml, hown, htw⟩ (gz_advance l dC dI lx lby lfi lco lxe lxa lxt lxp lxn lxl cBy fBy cCo fCo H.size h0_lxa h9_lxe) (cwV 0 htw (xg_V (ck_16 _ (List.mem_of_getElem? (i := 11) rfl)) (ck_14 _ (List.mem_of_getElem? (i := 13) rfl)) (ck_14 _ (List.mem_of_getElem? (i := 14) rfl)) (ck_3 _ (List.mem_of_getElem? (i := 4) rfl)) (ck_14 _ (List.mem_of_getElem? (i := 15) rfl))) rfl rfl rfl (by exact ⟨rfl, hdc_4.1, hdc_4.2, hdd_13⟩) ⟨Nat.le_of_ble_eq_true rfl, Nat.le_of_ble_eq_true rfl⟩) ⟨fun a U g mk q => by obtain ⟨q0, q1, qP, qK, qD⟩ := q; exact ⟨q0, q1, qP, va_K.moved (u := U) (U := U.calling g mk a) (Vm.Alike.refl U.vm) qK, qD⟩, va_recv hKc hPc (ci := 3) (q0 := 0) rfl rfl, fun U hU hW => ⟨rfl, by rw [hU], by rw [hU]; exact hPc, va_K.moved hW.alike hKc, hDc.weaken (fun _ _ _ _ => trivial)⟩⟩ rfl rfl hl.1 rfl (lv_room (Nat.le_of_ble_eq_true rfl)) dX7_beginNamed_40 ⟨Nat.le_of_ble_eq_true rfl, Nat.le_of_ble_eq_true rfl⟩) hS (fun q _ h => hFc q h) hFc (fun u_4 t H1 locs ht hvm hw hB hz1 hk1 hS => ?_)
    try dsimp only at hw
    obtain ⟨hP1, hK1, hD1⟩ := hB
    rw [ht] at hP1
    have hK1 := va_K.moved hvm.symm hK1
    have hK1 : va_K (dC, dI) vwCl [] s := hK1
    obtain ⟨hP, hD⟩ := va_join (wr := [(eO7a pa lx bk pfa pfp psk phe phr phs pop), (eO0a bk bto bnm bla bsk bru bbo bdi bda bdk bdt bdp bno), (eA0 bto cTo 5 fTo), (eA4 bnm cNm 5 (fun k => some (Nm k))), (eA0 (Nm 1) cNr 12 (fNm 1))]) (w1 := [(eO3a lx lby lfi lco lxe u_4.1 u_4.2.1 u_4.2.2.1 u_4.2.2.2.1 u_4.2.2.2.2), (eA0 lby cBy 900 fBy), (eA0 lco cCo 23 fCo)]) hP hD [1, 2, 3] [0, 4, 5, 6, 7] hCc rfl (by decide) (by decide) hk1 hFc hP1 hD1
    generalize H1 = H at hP hS ⊢
    obtain ⟨hP, hD⟩ := zre [(eO7a pa lx bk pfa pfp psk phe phr phs pop), (eO0a bk bto bnm bla bsk bru bbo bdi bda bdk bdt bdp bno), (eA0 bto cTo 5 fTo), (eA4 bnm cNm 5 (fun k => some (Nm k))), (eA0 (Nm 1) cNr 12 (fNm 1)), (eO3a lx lby lfi lco lxe u_4.1 u_4.2.1 u_4.2.2.1 u_4.2.2.2.1 u_4.2.2.2.2), (eA0 lby cBy 900 fBy), (eA0 lco cCo 23 fCo)] hP hD rfl
    refine W.widen (k := 0) (n := 0) (by omega) (by omega) ?_
    obtain ⟨hw, hp_10⟩ := hw
    have hq_u_4 : u_4 = (fe_advance lxe lxa lxn lxl fBy fCo) := hw
    refine lv_aload_n hx hb dX7_beginNamed_43 rfl (lv_at hl 1 rfl) ?_
    refine lv_aload_n hx hb dX7_beginNamed_44 rfl (lv_at hl 1 rfl) ?_
    refine va_get (D := (dC, dI)) (ci := 7) (v := .ref lx) (C := RX7) (T := TX7) (N := 9) hx hb htw inlX7 hown hK hP 0 rfl rfl 0 (by decide) (htw _ (ck_3 _ (List.mem_of_getElem? (i := 5) rfl))) (fun _ h9 => h9) rfl dX7_beginNamed_45 ?_
    refine va_get (D := (dC, dI)) (ci := 3) (v := .int u_4.2.1) (C := RX3) (T := TX3) (N := 9) hx hb htw inlX3 hown hK hP 5 rfl rfl 5 (by decide) (htw _ (ck_13 _ (List.mem_of_getElem? (i := 9) rfl))) (fun _ h9 => h9) rfl dX7_beginNamed_48 ?_
    refine lv_bipush (v := 23) hx hb dX7_beginNamed_51 (by decide) ?_
    refine lv_icmp_eq (tgt := 60) hx hb dX7_beginNamed_53 (by decide) (fun c_11 => ?_) (fun c_11 => ?_)
    · refine lv_iconst (v := 0) hx hb dX7_beginNamed_60 (by decide) ?_
      refine lv_iconst (v := 1) hx hb dX7_beginNamed_61 (by decide) ?_
      refine lv_aload_n hx hb dX7_beginNamed_62 rfl (lv_at hl 1 rfl) ?_
      refine va_get (D := (dC, dI)) (ci := 7) (v := .ref lx) (C := RX7) (T := TX7) (N := 9) hx hb htw inlX7 hown hK hP 0 rfl rfl 0 (by decide) (htw _ (ck_3 _ (List.mem_of_getElem? (i := 5) rfl))) (fun _ h9 => h9) rfl dX7_beginNamed_63 ?_
      refine va_get (D := (dC, dI)) (ci := 3) (v := .int u_4.2.2.1) (C := RX3) (T := TX3) (N := 9) hx hb htw inlX3 hown hK hP 5 rfl rfl 6 (by decide) (htw _ (ck_15 _ (List.mem_of_getElem? (i := 13) rfl))) (fun _ h9 => h9) rfl dX7_beginNamed_66 ?_
      have hPc := hP.sub (ws' := []) [] rfl
      have hKc := hK.sub (tys' := []) [] rfl
      refine va_csv (W.runV (As := [.int 0, .int 1, .int u_4.2.2.1]) (rest := []) ⟨hx, hb, hml, hown, htw⟩ (gp_ref0 l dC dI (0 : Int32) (1 : Int32) u_4.2.2.1 pa (gp_beginNamed1_s1 )) (cwV 3 htw (xg_V (ck_16 _ (List.mem_of_getElem? (i := 6) rfl)) (ck_16 _ (List.mem_of_getElem? (i := 7) rfl)) (ck_16 _ (List.mem_of_getElem? (i := 8) rfl)) (ck_1 _ (List.mem_of_getElem? (i := 16) rfl)) (ck_16 _ (List.mem_of_getElem? (i := 9) rfl))) rfl rfl rfl (by exact ⟨rfl, hdc_15.1, hdc_15.2, hdd_48⟩) ⟨Nat.le_of_ble_eq_true rfl, Nat.le_of_ble_eq_true rfl⟩) ⟨fun a U g mk q => by obtain ⟨q0, qP, qK⟩ := q; exact ⟨q0, qP, va_K.moved (u := U) (U := U.calling g mk a) (Vm.Alike.refl U.vm) qK⟩, va_recv hK hP (ci := 7) (q0 := 0) rfl rfl, fun U hU hW => ⟨rfl, by rw [hU]; exact hPc, va_K.moved hW.alike hKc⟩⟩ rfl rfl hl.1 rfl (lv_room (Nat.le_of_ble_eq_true rfl)) dX7_beginNamed_69 ⟨Nat.le_of_ble_eq_true rfl, Nat.le_of_ble_eq_true rfl⟩) (fun hw => ?_)
      try dsimp only at hw
      refine lv_aload_n hx hb dX7_beginNamed_72 rfl (lv_at hl 1 rfl) ?_
      refine lv_aload_n hx hb dX7_beginNamed_73 rfl (lv_at hl 1 rfl) ?_
      refine va_get (D := (dC, dI)) (ci := 7) (v := .ref bk) (C := RX7) (T := TX7) (N := 9) hx hb htw inlX7 hown hK hP 0 rfl rfl 1 (by decide) (htw _ (ck_13 _ (List.mem_of_getElem? (i := 6) rfl))) (fun _ h9 => h9) rfl dX7_beginNamed_74 ?_
      refine lv_iload_n hx hb dX7_beginNamed_77 rfl (lv_at hl 2 rfl) ?_
      refine lv_aload_n hx hb dX7_beginNamed_78 rfl (lv_at hl 1 rfl) ?_
      refine va_get (D := (dC, dI)) (ci := 7) (v := .ref lx) (C := RX7) (T := TX7) (N := 9) hx hb htw inlX7 hown hK hP 0 rfl rfl 0 (by decide) (htw _ (ck_3 _ (List.mem_of_getElem? (i := 5) rfl))) (fun _ h9 => h9) rfl dX7_beginNamed_79 ?_
      refine va_get (D := (dC, dI)) (ci := 3) (v := .int u_4.2.2.2.2) (C := RX3) (T := TX3) (N := 9) hx hb htw inlX3 hown hK hP 5 rfl rfl 8 (by decide) (htw _ (ck_16 _ (List.mem_of_getElem? (i := 4) rfl))) (fun _ h9 => h9) rfl dX7_beginNamed_82 ?_
      have hPc := hP.sub (ws' := [(eO0a bk bto bnm bla bsk bru bbo bdi bda bdk bdt bdp bno), (eA0 bto cTo 5 fTo), (eA4 bnm cNm 5 (fun k => some (Nm k))), (eA0 (Nm 1) cNr 12 (fNm 1))]) [1, 2, 3, 4] rfl
      have hKc := hK.sub (tys' := [(cTo, .int), (cNm, .array .int), (cNr, .int)]) [2, 3, 4] rfl
      refine vp_callSi (W.runV (As := [.int 1, .int u_4.2.2.2.2]) (rest := [.ref pa]) ⟨hx, hb, hml, hown, htw⟩ (gb_find1 l dC dI bk bto bnm bla bsk bru bbo bdi bda bdk bdt bdp bno cTo fTo cNm Nm cNr fNm u_4.2.2.2.2) (cwV 2 htw (xg_V (ck_16 _ (List.mem_of_getElem? (i := 12) rfl)) (ck_16 _ (List.mem_of_getElem? (i := 13) rfl)) (ck_16 _ (List.mem_of_getElem? (i := 14) rfl)) (ck_1 _ (List.mem_of_getElem? (i := 20) rfl)) (ck_16 _ (List.mem_of_getElem? (i := 15) rfl))) rfl rfl rfl (by exact ⟨rfl, hdc_6.1, hdc_6.2, hdd_7⟩) ⟨Nat.le_of_ble_eq_true rfl, Nat.le_of_ble_eq_true rfl⟩) ⟨fun a U g mk q => by obtain ⟨q0, qP, qK⟩ := q; exact ⟨q0, qP, va_K.moved (u := U) (U := U.calling g mk a) (Vm.Alike.refl U.vm) qK⟩, va_recv hKc hPc (ci := 0) (q0 := 0) rfl rfl, fun U hU hW => ⟨rfl, by rw [hU]; exact hPc, va_K.moved hW.alike hKc⟩⟩ rfl rfl hl.1 rfl (lv_room (Nat.le_of_ble_eq_true rfl)) dX7_beginNamed_85 ⟨Nat.le_of_ble_eq_true rfl, Nat.le_of_ble_eq_true rfl⟩) (fun r_13 hw => ?_)
      try dsimp only at hw
      have hq_r_13 : r_13 = (fb_find1 fTo fNm u_4.2.2.2.2) := hw
      refine lv_iconst (v := (-1)) hx hb dX7_beginNamed_88 (by decide) ?_
      refine lv_icmp_eq (tgt := 96) hx hb dX7_beginNamed_89 (by decide) (fun c_14 => ?_) (fun c_14 => ?_)
      · refine lv_iconst (v := 0) hx hb dX7_beginNamed_96 (by decide) ?_
        refine lv_iconst (v := 3) hx hb dX7_beginNamed_97 (by decide) ?_
        refine lv_aload_n hx hb dX7_beginNamed_98 rfl (lv_at hl 1 rfl) ?_
        refine va_get (D := (dC, dI)) (ci := 7) (v := .ref lx) (C := RX7) (T := TX7) (N := 9) hx hb htw inlX7 hown hK hP 0 rfl rfl 0 (by decide) (htw _ (ck_3 _ (List.mem_of_getElem? (i := 5) rfl))) (fun _ h9 => h9) rfl dX7_beginNamed_99 ?_
        refine va_get (D := (dC, dI)) (ci := 3) (v := .int u_4.2.2.1) (C := RX3) (T := TX3) (N := 9) hx hb htw inlX3 hown hK hP 5 rfl rfl 6 (by decide) (htw _ (ck_15 _ (List.mem_of_getElem? (i := 13) rfl))) (fun _ h9 => h9) rfl dX7_beginNamed_102 ?_
        have hPc := hP.sub (ws' := []) [] rfl
        have hKc := hK.sub (tys' := []) [] rfl
        refine va_csv (W.runV (As := [.int 0, .int 3, .int u_4.2.2.1]) (rest := []) ⟨hx, hb, hml, hown, htw⟩ (gp_ref0 l dC dI (0 : Int32) (3 : Int32) u_4.2.2.1 pa (gp_beginNamed1_s2 )) (cwV 3 htw (xg_V (ck_16 _ (List.mem_of_getElem? (i := 6) rfl)) (ck_16 _ (List.mem_of_getElem? (i := 7) rfl)) (ck_16 _ (List.mem_of_getElem? (i := 8) rfl)) (ck_1 _ (List.mem_of_getElem? (i := 16) rfl)) (ck_16 _ (List.mem_of_getElem? (i := 9) rfl))) rfl rfl rfl (by exact ⟨rfl, hdc_15.1, hdc_15.2, hdd_48⟩) ⟨Nat.le_of_ble_eq_true rfl, Nat.le_of_ble_eq_true rfl⟩) ⟨fun a U g mk q => by obtain ⟨q0, qP, qK⟩ := q; exact ⟨q0, qP, va_K.moved (u := U) (U := U.calling g mk a) (Vm.Alike.refl U.vm) qK⟩, va_recv hK hP (ci := 7) (q0 := 0) rfl rfl, fun U hU hW => ⟨rfl, by rw [hU]; exact hPc, va_K.moved hW.alike hKc⟩⟩ rfl rfl hl.1 rfl (lv_room (Nat.le_of_ble_eq_true rfl)) dX7_beginNamed_105 ⟨Nat.le_of_ble_eq_true rfl, Nat.le_of_ble_eq_true rfl⟩) (fun hw => ?_)
        try dsimp only at hw
        refine lv_aload_n hx hb dX7_beginNamed_108 rfl (lv_at hl 1 rfl) ?_
        refine va_get (D := (dC, dI)) (ci := 7) (v := .ref bk) (C := RX7) (T := TX7) (N := 9) hx hb htw inlX7 hown hK hP 0 rfl rfl 1 (by decide) (htw _ (ck_13 _ (List.mem_of_getElem? (i := 6) rfl))) (fun _ h9 => h9) rfl dX7_beginNamed_109 ?_
        refine va_get (D := (dC, dI)) (ci := 0) (v := .ref bnm) (C := RX0) (T := TX0) (N := 12) hx hb htw inlX0 hown hK hP 1 rfl rfl 1 (by decide) (htw _ (ck_16 _ (List.mem_of_getElem? (i := 5) rfl))) (fun _ h9 => h9) rfl dX7_beginNamed_112 ?_
        refine lv_iload_n hx hb dX7_beginNamed_115 rfl (lv_at hl 2 rfl) ?_
        refine xg_aldq hx hb hK hP 3 3 rfl rfl rfl (by unfold vp_in; decide) dX7_beginNamed_116 ?_
        refine W.eq (g2 := F0 m 117 ls [.ref (Nm 1)]) rfl ?_
        refine lv_iload_n hx hb dX7_beginNamed_117 rfl (lv_at hl 0 rfl) ?_
        refine lv_aload_n hx hb dX7_beginNamed_118 rfl (lv_at hl 1 rfl) ?_
        refine va_get (D := (dC, dI)) (ci := 7) (v := .ref lx) (C := RX7) (T := TX7) (N := 9) hx hb htw inlX7 hown hK hP 0 rfl rfl 0 (by decide) (htw _ (ck_3 _ (List.mem_of_getElem? (i := 5) rfl))) (fun _ h9 => h9) rfl dX7_beginNamed_119 ?_
        refine va_get (D := (dC, dI)) (ci := 3) (v := .int u_4.2.2.2.2) (C := RX3) (T := TX3) (N := 9) hx hb htw inlX3 hown hK hP 5 rfl rfl 8 (by decide) (htw _ (ck_16 _ (List.mem_of_getElem? (i := 4) rfl))) (fun _ h9 => h9) rfl dX7_beginNamed_122 ?_
        refine va_iast hx hb hK hP hD hS 4 4 rfl rfl (xg_inr (N := 12) rfl (gp_beginNamed1_s3 (y0 := fTo ((1 : Int32).toNatClampNeg)) c_1 hT.2.1.1 hT.2.1.2).1 (gp_beginNamed1_s3 (y0 := fTo ((1 : Int32).toNatClampNeg)) c_1 hT.2.1.1 hT.2.1.2).2) dX7_beginNamed_125 (fun H locs hP hD hS => ?_)
        obtain ⟨hP, hD⟩ := zre [(eO7a pa lx bk pfa pfp psk phe phr phs pop), (eO0a bk bto bnm bla bsk bru bbo bdi bda bdk bdt bdp bno), (eA0 bto cTo 5 fTo), (eA4 bnm cNm 5 (fun k => some (Nm k))), (eA0 (Nm 1) cNr 12 (upd (fNm 1) ((fTo ((1 : Int32).toNatClampNeg)).toNatClampNeg) u_4.2.2.2.2)), (eO3a lx lby lfi lco lxe u_4.1 u_4.2.1 u_4.2.2.1 u_4.2.2.2.1 u_4.2.2.2.2), (eA0 lby cBy 900 fBy), (eA0 lco cCo 23 fCo)] hP hD rfl
        refine lv_aload_n hx hb dX7_beginNamed_126 rfl (lv_at hl 1 rfl) ?_
        refine va_get (D := (dC, dI)) (ci := 7) (v := .ref lx) (C := RX7) (T := TX7) (N := 9) hx hb htw inlX7 hown hK hP 0 rfl rfl 0 (by decide) (htw _ (ck_3 _ (List.mem_of_getElem? (i := 5) rfl))) (fun _ h9 => h9) rfl dX7_beginNamed_127 ?_
        obtain ⟨hPc, hDc, hFc, hCc⟩ := zsub3 (ws' := [(eO3a lx lby lfi lco lxe u_4.1 u_4.2.1 u_4.2.2.1 u_4.2.2.2.1 u_4.2.2.2.2), (eA0 lby cBy 900 fBy), (eA0 lco cCo 23 fCo)]) hP hD hS hA [5, 6, 7] (by decide) rfl
        have hKc := hK.sub (tys' := [(cBy, .byte), (cCo, .int)]) [0, 1] rfl
        refine va_callv (va_runV (As := []) (rest := []) ⟨hx, hb, hml, hown, htw⟩ (gz_advance l dC dI lx lby lfi lco lxe u_4.1 u_4.2.1 u_4.2.2.1 u_4.2.2.2.1 u_4.2.2.2.2 cBy fBy cCo fCo H.size (gp_beginNamed1_s4 (y0 := u_4.1) hp_10) h9_lxe) (cwV 0 htw (xg_V (ck_16 _ (List.mem_of_getElem? (i := 11) rfl)) (ck_14 _ (List.mem_of_getElem? (i := 13) rfl)) (ck_14 _ (List.mem_of_getElem? (i := 14) rfl)) (ck_3 _ (List.mem_of_getElem? (i := 4) rfl)) (ck_14 _ (List.mem_of_getElem? (i := 15) rfl))) rfl rfl rfl (by exact ⟨rfl, hdc_4.1, hdc_4.2, hdd_13⟩) ⟨Nat.le_of_ble_eq_true rfl, Nat.le_of_ble_eq_true rfl⟩) ⟨fun a U g mk q => by obtain ⟨q0, q1, qP, qK, qD⟩ := q; exact ⟨q0, q1, qP, va_K.moved (u := U) (U := U.calling g mk a) (Vm.Alike.refl U.vm) qK, qD⟩, va_recv hKc hPc (ci := 3) (q0 := 0) rfl rfl, fun U hU hW => ⟨rfl, by rw [hU], by rw [hU]; exact hPc, va_K.moved hW.alike hKc, hDc.weaken (fun _ _ _ _ => trivial)⟩⟩ rfl rfl hl.1 rfl (lv_room (Nat.le_of_ble_eq_true rfl)) dX7_beginNamed_130 ⟨Nat.le_of_ble_eq_true rfl, Nat.le_of_ble_eq_true rfl⟩) hS (fun q _ h => hFc q h) hFc (fun u_18 t H1 locs ht hvm hw hB hz1 hk1 hS => ?_)
        try dsimp only at hw
        obtain ⟨hP1, hK1, hD1⟩ := hB
        rw [ht] at hP1
        have hK1 := va_K.moved hvm.symm hK1
        have hK1 : va_K (dC, dI) vwCl [] s := hK1
        obtain ⟨hP, hD⟩ := va_join (wr := [(eO7a pa lx bk pfa pfp psk phe phr phs pop), (eO0a bk bto bnm bla bsk bru bbo bdi bda bdk bdt bdp bno), (eA0 bto cTo 5 fTo), (eA4 bnm cNm 5 (fun k => some (Nm k))), (eA0 (Nm 1) cNr 12 (upd (fNm 1) ((fTo ((1 : Int32).toNatClampNeg)).toNatClampNeg) u_4.2.2.2.2))]) (w1 := [(eO3a lx lby lfi lco lxe u_18.1 u_18.2.1 u_18.2.2.1 u_18.2.2.2.1 u_18.2.2.2.2), (eA0 lby cBy 900 fBy), (eA0 lco cCo 23 fCo)]) hP hD [5, 6, 7] [0, 1, 2, 3, 4] hCc rfl (by decide) (by decide) hk1 hFc hP1 hD1
        generalize H1 = H at hP hS ⊢
        obtain ⟨hP, hD⟩ := zre [(eO7a pa lx bk pfa pfp psk phe phr phs pop), (eO0a bk bto bnm bla bsk bru bbo bdi bda bdk bdt bdp bno), (eA0 bto cTo 5 fTo), (eA4 bnm cNm 5 (fun k => some (Nm k))), (eA0 (Nm 1) cNr 12 (upd (fNm 1) ((fTo ((1 : Int32).toNatClampNeg)).toNatClampNeg) u_4.2.2.2.2)), (eO3a lx lby lfi lco lxe u_18.1 u_18.2.1 u_18.2.2.1 u_18.2.2.2.1 u_18.2.2.2.2), (eA0 lby cBy 900 fBy), (eA0 lco cCo 23 fCo)] hP hD rfl
        refine W.widen (k := 0) (n := 0) (by omega) (by omega) ?_
        obtain ⟨hw, hp_24⟩ := hw
        have hq_u_18 : u_18 = (fe_advance lxe u_4.1 u_4.2.2.2.1 u_4.2.2.2.2 fBy fCo) := hw
        refine lv_iload_n hx hb dX7_beginNamed_133 rfl (lv_at hl 0 rfl) ?_
        refine xs_size (fun hHz => ?_)
        refine vx_ret ?_
        refine W.widen (k := 1) (n := 6) (by omega) (by omega) ?_
        obtain ⟨hP9, hD9⟩ := zsub2 (ws' := [(eO7a pa lx bk pfa pfp psk phe phr phs pop), (eO3a lx lby lfi lco lxe u_18.1 u_18.2.1 u_18.2.2.1 u_18.2.2.2.1 u_18.2.2.2.2), (eA0 lby cBy 900 fBy), (eA0 lco cCo 23 fCo), (eO0a bk bto bnm bla bsk bru bbo bdi bda bdk bdt bdp bno), (eA0 bto cTo 5 fTo), (eA4 bnm cNm 5 (fun k => some (Nm k))), (eA0 (Nm 1) cNr 12 (upd (fNm 1) ((fTo ((1 : Int32).toNatClampNeg)).toNatClampNeg) u_4.2.2.2.2))]) hP hD [0, 5, 6, 7, 1, 2, 3, 4] (by decide +kernel) rfl
        have hK9 := hK.sub (tys' := []) [] rfl
        exact W.iret (v := fTo ((1 : Int32).toNatClampNeg)) hx hb hr (fun t ht hW => ⟨⟨fTo ((1 : Int32).toNatClampNeg), (pfa, pfp, u_18.1, u_18.2.1, u_18.2.2.1, u_18.2.2.2.1, u_18.2.2.2.2, (va_up fNm 1 (upd (fNm 1) ((fTo ((1 : Int32).toNatClampNeg)).toNatClampNeg) u_4.2.2.2.2))), rfl, ⟨((fun e9 => ⟨by rw [e9], by rw [e9], by rw [e9]⟩ : fp_beginNamed1 pfa pfp lxe lxa lxt lxp lxn lxl fBy fCo fTo fNm = ((0 : Int32), fTo ((1 : Int32).toNatClampNeg), pfa, pfp, u_18.1, u_18.2.1, u_18.2.2.1, u_18.2.2.2.1, u_18.2.2.2.2, (va_up fNm 1 (upd (fNm 1) ((fTo ((1 : Int32).toNatClampNeg)).toNatClampNeg) u_4.2.2.2.2))) → _) ((by rw [fp_beginNamed1]; (try rw [if_pos c_1]); (try rw [← hq_u_4]); (try rw [xL_eq]); (try rw [if_pos c_11]); (try rw [← hq_r_13]); (try rw [xL_eq]); (try rw [if_pos c_14]); (try rw [← hq_u_18]); (try rw [xL_eq]); try rfl))), (gp_beginNamed1_s5 (y0 := u_18.1) hp_24), (gp_beginNamed1_s6 (y0 := fTo ((1 : Int32).toNatClampNeg)) c_1 hT.2.1.1 hT.2.1.2), (gp_beginNamed1_s7 (y0 := fTo ((1 : Int32).toNatClampNeg)) c_1 hT.2.1.1 hT.2.1.2), (gp_beginNamed1_s8 (y0 := fTo ((1 : Int32).toNatClampNeg)) c_1 hT.2.1.1 hT.2.1.2)⟩, ⟨by rw [ht]; exact hP9, va_K.moved hW.alike hK9, hD9⟩, by rw [ht]; first | exact hHz | exact hHz.trans (by rw [rH])⟩, hS.F ht⟩) hS.2.2 dX7_beginNamed_134
      · refine lv_iconst (v := 1) hx hb dX7_beginNamed_92 (by decide) ?_
        refine lv_goto (tgt := 97) hx hb dX7_beginNamed_93 (by decide) ?_
        refine lv_iconst (v := 3) hx hb dX7_beginNamed_97 (by decide) ?_
        refine lv_aload_n hx hb dX7_beginNamed_98 rfl (lv_at hl 1 rfl) ?_
        refine va_get (D := (dC, dI)) (ci := 7) (v := .ref lx) (C := RX7) (T := TX7) (N := 9) hx hb htw inlX7 hown hK hP 0 rfl rfl 0 (by decide) (htw _ (ck_3 _ (List.mem_of_getElem? (i := 5) rfl))) (fun _ h9 => h9) rfl dX7_beginNamed_99 ?_
        refine va_get (D := (dC, dI)) (ci := 3) (v := .int u_4.2.2.1) (C := RX3) (T := TX3) (N := 9) hx hb htw inlX3 hown hK hP 5 rfl rfl 6 (by decide) (htw _ (ck_15 _ (List.mem_of_getElem? (i := 13) rfl))) (fun _ h9 => h9) rfl dX7_beginNamed_102 ?_
        refine xs_size (fun hHz => ?_)
        obtain ⟨hPc, hDc, hFc, hCc⟩ := zsub3 (ws' := [(eO7a pa lx bk pfa pfp psk phe phr phs pop)]) hP hD hS hA [0] (by decide) rfl
        have hKc := hK.sub (tys' := []) [] rfl
        refine vx_callv (vx_runV (As := [.int 1, .int 3, .int u_4.2.2.1]) (rest := []) ⟨hx, hb, hml, hown, htw⟩ (gp_refT l hst dC dI pa lx bk pfa pfp psk phe phr phs pop (1 : Int32) (3 : Int32) u_4.2.2.1 sL H.size (gp_beginNamed1_s9 )) (cwV 3 htw (xg_V (ck_16 _ (List.mem_of_getElem? (i := 6) rfl)) (ck_16 _ (List.mem_of_getElem? (i := 7) rfl)) (ck_16 _ (List.mem_of_getElem? (i := 8) rfl)) (ck_1 _ (List.mem_of_getElem? (i := 16) rfl)) (ck_16 _ (List.mem_of_getElem? (i := 9) rfl))) rfl rfl rfl (by exact ⟨rfl, hdc_15.1, hdc_15.2, hdd_48⟩) ⟨Nat.le_of_ble_eq_true rfl, Nat.le_of_ble_eq_true rfl⟩) ⟨fun a U g mk q => by obtain ⟨q0, q1, qP, qK, qD, qx0⟩ := q; exact ⟨q0, q1, qP, va_K.moved (u := U) (U := U.calling g mk a) (Vm.Alike.refl U.vm) qK, qD, xl.calling qx0⟩, va_recv hKc hPc (ci := 7) (q0 := 0) rfl rfl, fun U hU hW => ⟨rfl, by rw [hU], by rw [hU]; exact hPc, va_K.moved hW.alike hKc, hDc.weaken (fun _ _ _ _ => trivial), by rw [hU]; exact xl.warm hW ((xl.kept hXL hS.2.1).narrow hFc)⟩⟩ rfl rfl hl.1 rfl (lv_room (Nat.le_of_ble_eq_true rfl)) dX7_beginNamed_105 ⟨Nat.le_of_ble_eq_true rfl, Nat.le_of_ble_eq_true rfl⟩) hS (fun q _ h => hFc q h) hFc (fun q _ h => hFc q h) (fun E ce q9 u_25 t H1 locs ht hvm hw hB hz1 hk1 hS hcell hcv hcl => ?_) (fun u_27 t H1 locs ht hvm hw hB hz1 hk1 hS => hw.elim)
        obtain ⟨hE9, hB⟩ := hB
        subst hE9
        obtain ⟨hP1, hK1, hD1⟩ := hB
        rw [ht] at hP1
        have hK1 := va_K.moved hvm.symm hK1
        have hK1 : va_K (dC, dI) vwCl [] s := hK1
        obtain ⟨hP, hD⟩ := va_join (wr := [(eO0a bk bto bnm bla bsk bru bbo bdi bda bdk bdt bdp bno), (eA0 bto cTo 5 fTo), (eA4 bnm cNm 5 (fun k => some (Nm k))), (eA0 (Nm 1) cNr 12 (fNm 1)), (eO3a lx lby lfi lco lxe u_4.1 u_4.2.1 u_4.2.2.1 u_4.2.2.2.1 u_4.2.2.2.2), (eA0 lby cBy 900 fBy), (eA0 lco cCo 23 fCo)]) (w1 := [(eO7a pa lx bk 3 u_4.2.2.1 psk phe phr phs pop)]) hP hD [0] [1, 2, 3, 4, 5, 6, 7] hCc rfl (by decide) (by decide) hk1 hFc hP1 hD1
        generalize H1 = H at hP hS hcell ⊢
        obtain ⟨hP, hD⟩ := zre [(eO0a bk bto bnm bla bsk bru bbo bdi bda bdk bdt bdp bno), (eA0 bto cTo 5 fTo), (eA4 bnm cNm 5 (fun k => some (Nm k))), (eA0 (Nm 1) cNr 12 (fNm 1)), (eO3a lx lby lfi lco lxe u_4.1 u_4.2.1 u_4.2.2.1 u_4.2.2.2.1 u_4.2.2.2.2), (eA0 lby cBy 900 fBy), (eA0 lco cCo 23 fCo), (eO7a pa lx bk 3 u_4.2.2.1 psk phe phr phs pop)] hP hD rfl
        obtain ⟨hP9, hD9⟩ := zsub2 (ws' := [(eO7a pa lx bk 3 u_4.2.2.1 psk phe phr phs pop), (eO3a lx lby lfi lco lxe u_4.1 u_4.2.1 u_4.2.2.1 u_4.2.2.2.1 u_4.2.2.2.2), (eA0 lby cBy 900 fBy), (eA0 lco cCo 23 fCo), (eO0a bk bto bnm bla bsk bru bbo bdi bda bdk bdt bdp bno), (eA0 bto cTo 5 fTo), (eA4 bnm cNm 5 (fun k => some (Nm k))), (eA0 (Nm 1) cNr 12 (fNm 1))]) hP hD [7, 4, 5, 6, 0, 1, 2, 3] (by decide +kernel) rfl
        have hK9 := hK.sub (tys' := []) [] rfl
        exact vx_widen (k := 1) (n := 6) (Nat.le_of_ble_eq_true rfl) (Nat.le_of_ble_eq_true rfl) (vx_out (fun x h9 => (hex x h9).elim) hlocks hcell hcv hcl (fun t ht hal => ⟨(3, u_4.2.2.1, u_4.1, u_4.2.1, u_4.2.2.1, u_4.2.2.2.1, u_4.2.2.2.2, fNm), ((fun e9 => ⟨by rw [e9], by rw [e9]⟩ : fp_beginNamed1 pfa pfp lxe lxa lxt lxp lxn lxl fBy fCo fTo fNm = ((1 : Int32), (0 : Int32), (3 : Int32), u_4.2.2.1, u_4.1, u_4.2.1, u_4.2.2.1, u_4.2.2.2.1, u_4.2.2.2.2, fNm) → _) ((by rw [fp_beginNamed1]; (try rw [if_pos c_1]); (try rw [← hq_u_4]); (try rw [xL_eq]); (try rw [if_pos c_11]); (try rw [← hq_r_13]); (try rw [xL_eq]); (try rw [if_neg c_14]); try rfl))), ⟨rfl, by rw [ht]; exact hP9, va_K.moved hal hK9, hD9⟩, hS.F ht⟩) hS.2.2 (Nat.le_of_ble_eq_true rfl) (Nat.le_of_ble_eq_true rfl))
    · refine lv_iconst (v := 1) hx hb dX7_beginNamed_56 (by decide) ?_
      refine lv_goto (tgt := 61) hx hb dX7_beginNamed_57 (by decide) ?_
      refine lv_iconst (v := 1) hx hb dX7_beginNamed_61 (by decide) ?_
      refine lv_aload_n hx hb dX7_beginNamed_62 rfl (lv_at hl 1 rfl) ?_
      refine va_get (D := (dC, dI)) (ci := 7) (v := .ref lx) (C := RX7) (T := TX7) (N := 9) hx hb htw inlX7 hown hK hP 0 rfl rfl 0 (by decide) (htw _ (ck_3 _ (List.mem_of_getElem? (i := 5) rfl))) (fun _ h9 => h9) rfl dX7_beginNamed_63 ?_
      refine va_get (D := (dC, dI)) (ci := 3) (v := .int u_4.2.2.1) (C := RX3) (T := TX3) (N := 9) hx hb htw inlX3 hown hK hP 5 rfl rfl 6 (by decide) (htw _ (ck_15 _ (List.mem_of_getElem? (i := 13) rfl))) (fun _ h9 => h9) rfl dX7_beginNamed_66 ?_
      refine xs_size (fun hHz => ?_)
      obtain ⟨hPc, hDc, hFc, hCc⟩ := zsub3 (ws' := [(eO7a pa lx bk pfa pfp psk phe phr phs pop)]) hP hD hS hA [0] (by decide) rfl
      have hKc := hK.sub (tys' := []) [] rfl
      refine vx_callv (vx_runV (As := [.int 1, .int 1, .int u_4.2.2.1]) (rest := []) ⟨hx, hb, hml, hown, htw⟩ (gp_refT l hst dC dI pa lx bk pfa pfp psk phe phr phs pop (1 : Int32) (1 : Int32) u_4.2.2.1 sL H.size (gp_beginNamed1_s10 )) (cwV 3 htw (xg_V (ck_16 _ (List.mem_of_getElem? (i := 6) rfl)) (ck_16 _ (List.mem_of_getElem? (i := 7) rfl)) (ck_16 _ (List.mem_of_getElem? (i := 8) rfl)) (ck_1 _ (List.mem_of_getElem? (i := 16) rfl)) (ck_16 _ (List.mem_of_getElem? (i := 9) rfl))) rfl rfl rfl (by exact ⟨rfl, hdc_15.1, hdc_15.2, hdd_48⟩) ⟨Nat.le_of_ble_eq_true rfl, Nat.le_of_ble_eq_true rfl⟩) ⟨fun a U g mk q => by obtain ⟨q0, q1, qP, qK, qD, qx0⟩ := q; exact ⟨q0, q1, qP, va_K.moved (u := U) (U := U.calling g mk a) (Vm.Alike.refl U.vm) qK, qD, xl.calling qx0⟩, va_recv hKc hPc (ci := 7) (q0 := 0) rfl rfl, fun U hU hW => ⟨rfl, by rw [hU], by rw [hU]; exact hPc, va_K.moved hW.alike hKc, hDc.weaken (fun _ _ _ _ => trivial), by rw [hU]; exact xl.warm hW ((xl.kept hXL hS.2.1).narrow hFc)⟩⟩ rfl rfl hl.1 rfl (lv_room (Nat.le_of_ble_eq_true rfl)) dX7_beginNamed_69 ⟨Nat.le_of_ble_eq_true rfl, Nat.le_of_ble_eq_true rfl⟩) hS (fun q _ h => hFc q h) hFc (fun q _ h => hFc q h) (fun E ce q9 u_28 t H1 locs ht hvm hw hB hz1 hk1 hS hcell hcv hcl => ?_) (fun u_30 t H1 locs ht hvm hw hB hz1 hk1 hS => hw.elim)
      obtain ⟨hE9, hB⟩ := hB
      subst hE9
      obtain ⟨hP1, hK1, hD1⟩ := hB
      rw [ht] at hP1
      have hK1 := va_K.moved hvm.symm hK1
      have hK1 : va_K (dC, dI) vwCl [] s := hK1
      obtain ⟨hP, hD⟩ := va_join (wr := [(eO0a bk bto bnm bla bsk bru bbo bdi bda bdk bdt bdp bno), (eA0 bto cTo 5 fTo), (eA4 bnm cNm 5 (fun k => some (Nm k))), (eA0 (Nm 1) cNr 12 (fNm 1)), (eO3a lx lby lfi lco lxe u_4.1 u_4.2.1 u_4.2.2.1 u_4.2.2.2.1 u_4.2.2.2.2), (eA0 lby cBy 900 fBy), (eA0 lco cCo 23 fCo)]) (w1 := [(eO7a pa lx bk 1 u_4.2.2.1 psk phe phr phs pop)]) hP hD [0] [1, 2, 3, 4, 5, 6, 7] hCc rfl (by decide) (by decide) hk1 hFc hP1 hD1
      generalize H1 = H at hP hS hcell ⊢
      obtain ⟨hP, hD⟩ := zre [(eO0a bk bto bnm bla bsk bru bbo bdi bda bdk bdt bdp bno), (eA0 bto cTo 5 fTo), (eA4 bnm cNm 5 (fun k => some (Nm k))), (eA0 (Nm 1) cNr 12 (fNm 1)), (eO3a lx lby lfi lco lxe u_4.1 u_4.2.1 u_4.2.2.1 u_4.2.2.2.1 u_4.2.2.2.2), (eA0 lby cBy 900 fBy), (eA0 lco cCo 23 fCo), (eO7a pa lx bk 1 u_4.2.2.1 psk phe phr phs pop)] hP hD rfl
      obtain ⟨hP9, hD9⟩ := zsub2 (ws' := [(eO7a pa lx bk 1 u_4.2.2.1 psk phe phr phs pop), (eO3a lx lby lfi lco lxe u_4.1 u_4.2.1 u_4.2.2.1 u_4.2.2.2.1 u_4.2.2.2.2), (eA0 lby cBy 900 fBy), (eA0 lco cCo 23 fCo), (eO0a bk bto bnm bla bsk bru bbo bdi bda bdk bdt bdp bno), (eA0 bto cTo 5 fTo), (eA4 bnm cNm 5 (fun k => some (Nm k))), (eA0 (Nm 1) cNr 12 (fNm 1))]) hP hD [7, 4, 5, 6, 0, 1, 2, 3] (by decide +kernel) rfl
      have hK9 := hK.sub (tys' := []) [] rfl
      exact vx_widen (k := 1) (n := 6) (Nat.le_of_ble_eq_true rfl) (Nat.le_of_ble_eq_true rfl) (vx_out (fun x h9 => (hex x h9).elim) hlocks hcell hcv hcl (fun t ht hal => ⟨(1, u_4.2.2.1, u_4.1, u_4.2.1, u_4.2.2.1, u_4.2.2.2.1, u_4.2.2.2.2, fNm), ((fun e9 => ⟨by rw [e9], by rw [e9]⟩ : fp_beginNamed1 pfa pfp lxe lxa lxt lxp lxn lxl fBy fCo fTo fNm = ((1 : Int32), (0 : Int32), (1 : Int32), u_4.2.2.1, u_4.1, u_4.2.1, u_4.2.2.1, u_4.2.2.2.1, u_4.2.2.2.2, fNm) → _) ((by rw [fp_beginNamed1]; (try rw [if_pos c_1]); (try rw [← hq_u_4]); (try rw [xL_eq]); (try rw [if_neg c_11]); try rfl))), ⟨rfl, by rw [ht]; exact hP9, va_K.moved hal hK9, hD9⟩, hS.F ht⟩) hS.2.2 (Nat.le_of_ble_eq_true rfl) (Nat.le_of_ble_eq_true rfl))
  · refine lv_iconst (v := 1) hx hb dX7_beginNamed_20 (by decide) ?_
    refine lv_goto (tgt := 25) hx hb dX7_beginNamed_21 (by decide) ?_
    refine lv_iconst (v := 2) hx hb dX7_beginNamed_25 (by decide) ?_
    refine lv_aload_n hx hb dX7_beginNamed_26 rfl (lv_at hl 1 rfl) ?_
    refine va_get (D := (dC, dI)) (ci := 7) (v := .ref lx) (C := RX7) (T := TX7) (N := 9) hx hb htw inlX7 hown hK hP 0 rfl rfl 0 (by decide) (htw _ (ck_3 _ (List.mem_of_getElem? (i := 5) rfl))) (fun _ h9 => h9) rfl dX7_beginNamed_27 ?_
    refine va_get (D := (dC, dI)) (ci := 3) (v := .int lxp) (C := RX3) (T := TX3) (N := 9) hx hb htw inlX3 hown hK hP 1 rfl rfl 6 (by decide) (htw _ (ck_15 _ (List.mem_of_getElem? (i := 13) rfl))) (fun _ h9 => h9) rfl dX7_beginNamed_30 ?_
    refine xs_size (fun hHz => ?_)
    obtain ⟨hPc, hDc, hFc, hCc⟩ := zsub3 (ws' := [(eO7a pa lx bk pfa pfp psk phe phr phs pop)]) hP hD hS hA [0] (by decide) rfl
    have hKc := hK.sub (tys' := []) [] rfl
    refine vx_callv (vx_runV (As := [.int 1, .int 2, .int lxp]) (rest := []) ⟨hx, hb, hml, hown, htw⟩ (gp_refT l hst dC dI pa lx bk pfa pfp psk phe phr phs pop (1 : Int32) (2 : Int32) lxp sL H.size (gp_beginNamed1_s11 )) (cwV 3 htw (xg_V (ck_16 _ (List.mem_of_getElem? (i := 6) rfl)) (ck_16 _ (List.mem_of_getElem? (i := 7) rfl)) (ck_16 _ (List.mem_of_getElem? (i := 8) rfl)) (ck_1 _ (List.mem_of_getElem? (i := 16) rfl)) (ck_16 _ (List.mem_of_getElem? (i := 9) rfl))) rfl rfl rfl (by exact ⟨rfl, hdc_15.1, hdc_15.2, hdd_48⟩) ⟨Nat.le_of_ble_eq_true rfl, Nat.le_of_ble_eq_true rfl⟩) ⟨fun a U g mk q => by obtain ⟨q0, q1, qP, qK, qD, qx0⟩ := q; exact ⟨q0, q1, qP, va_K.moved (u := U) (U := U.calling g mk a) (Vm.Alike.refl U.vm) qK, qD, xl.calling qx0⟩, va_recv hKc hPc (ci := 7) (q0 := 0) rfl rfl, fun U hU hW => ⟨rfl, by rw [hU], by rw [hU]; exact hPc, va_K.moved hW.alike hKc, hDc.weaken (fun _ _ _ _ => trivial), by rw [hU]; exact xl.warm hW ((xl.kept hXL hS.2.1).narrow hFc)⟩⟩ rfl rfl hl.1 rfl (lv_room (Nat.le_of_ble_eq_true rfl)) dX7_beginNamed_33 ⟨Nat.le_of_ble_eq_true rfl, Nat.le_of_ble_eq_true rfl⟩) hS (fun q _ h => hFc q h) hFc (fun q _ h => hFc q h) (fun E ce q9 u_31 t H1 locs ht hvm hw hB hz1 hk1 hS hcell hcv hcl => ?_) (fun u_33 t H1 locs ht hvm hw hB hz1 hk1 hS => hw.elim)
    obtain ⟨hE9, hB⟩ := hB
    subst hE9
    obtain ⟨hP1, hK1, hD1⟩ := hB
    rw [ht] at hP1
    have hK1 := va_K.moved hvm.symm hK1
    have hK1 : va_K (dC, dI) vwCl [] s := hK1
    obtain ⟨hP, hD⟩ := va_join (wr := [(eO3a lx lby lfi lco lxe lxa lxt lxp lxn lxl), (eA0 lby cBy 900 fBy), (eA0 lco cCo 23 fCo), (eO0a bk bto bnm bla bsk bru bbo bdi bda bdk bdt bdp bno), (eA0 bto cTo 5 fTo), (eA4 bnm cNm 5 (fun k => some (Nm k))), (eA0 (Nm 1) cNr 12 (fNm 1))]) (w1 := [(eO7a pa lx bk 2 lxp psk phe phr phs pop)]) hP hD [0] [1, 2, 3, 4, 5, 6, 7] hCc rfl (by decide) (by decide) hk1 hFc hP1 hD1
    generalize H1 = H at hP hS hcell ⊢
    obtain ⟨hP, hD⟩ := zre [(eO3a lx lby lfi lco lxe lxa lxt lxp lxn lxl), (eA0 lby cBy 900 fBy), (eA0 lco cCo 23 fCo), (eO0a bk bto bnm bla bsk bru bbo bdi bda bdk bdt bdp bno), (eA0 bto cTo 5 fTo), (eA4 bnm cNm 5 (fun k => some (Nm k))), (eA0 (Nm 1) cNr 12 (fNm 1)), (eO7a pa lx bk 2 lxp psk phe phr phs pop)] hP hD rfl
    obtain ⟨hP9, hD9⟩ := zsub2 (ws' := [(eO7a pa lx bk 2 lxp psk phe phr phs pop), (eO3a lx lby lfi lco lxe lxa lxt lxp lxn lxl), (eA0 lby cBy 900 fBy), (eA0 lco cCo 23 fCo), (eO0a bk bto bnm bla bsk bru bbo bdi bda bdk bdt bdp bno), (eA0 bto cTo 5 fTo), (eA4 bnm cNm 5 (fun k => some (Nm k))), (eA0 (Nm 1) cNr 12 (fNm 1))]) hP hD [7, 0, 1, 2, 3, 4, 5, 6] (by decide +kernel) rfl
    have hK9 := hK.sub (tys' := []) [] rfl
    exact vx_widen (k := 1) (n := 6) (Nat.le_of_ble_eq_true rfl) (Nat.le_of_ble_eq_true rfl) (vx_out (fun x h9 => (hex x h9).elim) hlocks hcell hcv hcl (fun t ht hal => ⟨(2, lxp, lxa, lxt, lxp, lxn, lxl, fNm), ((fun e9 => ⟨by rw [e9], by rw [e9]⟩ : fp_beginNamed1 pfa pfp lxe lxa lxt lxp lxn lxl fBy fCo fTo fNm = ((1 : Int32), (0 : Int32), (2 : Int32), lxp, lxa, lxt, lxp, lxn, lxl, fNm) → _) ((by rw [fp_beginNamed1]; (try rw [if_neg c_1]); try rfl))), ⟨rfl, by rw [ht]; exact hP9, va_K.moved hal hK9, hD9⟩, hS.F ht⟩) hS.2.2 (Nat.le_of_ble_eq_true rfl) (Nat.le_of_ble_eq_true rfl))

def fp_beginNamed2 (pfa : Int32) (pfp : Int32) (lxe : Int32) (lxa : Int32) (lxt : Int32) (lxp : Int32) (lxn : Int32) (lxl : Int32) (fBy : Nat → Int32) (fCo : Nat → Int32) (fTo : Nat → Int32) (fNm : Nat → Nat → Int32) : Int32 × Int32 × (Int32) × (Int32) × (Int32) × (Int32) × (Int32) × (Int32) × (Int32) × (Nat → Nat → Int32) := (if fTo ((2 : Int32).toNatClampNeg) < 6 then (xL ((fe_advance lxe lxa lxn lxl fBy fCo)) (fun u_4 => (if u_4.2.1 = 23 then (xL ((fb_find2 fTo fNm u_4.2.2.2.2)) (fun r_13 => (if r_13 = (-1) then (xL ((fe_advance lxe u_4.1 u_4.2.2.2.1 u_4.2.2.2.2 fBy fCo)) (fun u_18 => ((0 : Int32), fTo ((2 : Int32).toNatClampNeg), pfa, pfp, u_18.1, u_18.2.1, u_18.2.2.1, u_18.2.2.2.1, u_18.2.2.2.2, (va_up fNm 2 (upd (fNm 2) ((fTo ((2 : Int32).toNatClampNeg)).toNatClampNeg) u_4.2.2.2.2))))) else ((1 : Int32), (0 : Int32), (3 : Int32), u_4.2.2.1, u_4.1, u_4.2.1, u_4.2.2.1, u_4.2.2.2.1, u_4.2.2.2.2, fNm)))) else ((1 : Int32), (0 : Int32), (1 : Int32), u_4.2.2.1, u_4.1, u_4.2.1, u_4.2.2.1, u_4.2.2.2.1, u_4.2.2.2.2, fNm)))) else ((1 : Int32), (0 : Int32), (2 : Int32), lxp, lxa, lxt, lxp, lxn, lxl, fNm))
theorem gp_beginNamed2_s0  : (0 : Int32) = 0 := (by decide)
theorem gp_beginNamed2_s1  : (0 : Int32) = 0 := (by decide)
theorem gp_beginNamed2_s2  : (0 : Int32) = 0 := (by decide)
theorem gp_beginNamed2_s3 {y0 : Int32} (h0 : y0 < 6) (h1 : ¬ (y0 < 0)) (h2 : y0 ≤ 6) : ¬ (y0 < 0) ∧ ¬ (12 ≤ y0) := by lia
theorem gp_beginNamed2_s4 {y0 : Int32} (h0 : ¬ (y0 < 0)) : ¬ (y0 < 0) := h0
theorem gp_beginNamed2_s5 {y0 : Int32} (h0 : ¬ (y0 < 0)) : ¬ (y0 < 0) := h0
theorem gp_beginNamed2_s6 {y0 : Int32} (h0 : y0 < 6) (h1 : ¬ (y0 < 0)) (h2 : y0 ≤ 6) : ¬ (y0 < 0) := h1
theorem gp_beginNamed2_s7 {y0 : Int32} (h0 : y0 < 6) (h1 : ¬ (y0 < 0)) (h2 : y0 ≤ 6) : y0 < 6 := h0
theorem gp_beginNamed2_s8 {y0 : Int32} (h0 : y0 < 6) (h1 : ¬ (y0 < 0)) (h2 : y0 ≤ 6) : y0 = y0 := by lia
theorem gp_beginNamed2_s9  : ¬ ((1 : Int32) = 0) := (by decide)
theorem gp_beginNamed2_s10  : ¬ ((1 : Int32) = 0) := (by decide)
theorem gp_beginNamed2_s11  : ¬ ((1 : Int32) = 0) := (by decide)
set_option maxHeartbeats 4000000 in
set_option maxRecDepth 100000 in
theorem gp_beginNamed2 (l : Launch) (hst : l.stackTraces = false) (dC : Nat → ClassId) (dI : Nat → Nat → Nat) (pa : Nat) (lx : Nat) (bk : Nat) (pfa : Int32) (pfp : Int32) (psk : Int32) (phe : Nat) (phr : Nat) (phs : Int32) (pop : Int32) (lby : Nat) (lfi : Int32) (lco : Nat) (lxe : Int32) (lxa : Int32) (lxt : Int32) (lxp : Int32) (lxn : Int32) (lxl : Int32) (cBy : ClassId) (fBy : Nat → Int32) (cCo : ClassId) (fCo : Nat → Int32) (bto : Nat) (bnm : Nat) (bla : Nat) (bsk : Nat) (bru : Nat) (bbo : Nat) (bdi : Nat) (bda : Nat) (bdk : Nat) (bdt : Nat) (bdp : Nat) (bno : Nat) (cTo : ClassId) (fTo : Nat → Int32) (cNm : ClassId) (Nm : Nat → Nat) (cNr : ClassId) (fNm : Nat → Nat → Int32) (sL : Nat → Nat) (sz : Nat) (h0_lxa : ¬ lxa < 0) (h9_lxe : lxe ≤ 900) (hT : xT fTo) : vx_Met l yX7_beginNamed (Cond.code yX7_beginNamed cX7_beginNamed 3 (some .int) :: wsL_law) ({ frames := 7, cells := 1, slots := 6, locals := 105 }) (va_Pc [.ref pa, .int 2] (fun U => U.heap.size = sz ∧ va_P (dC, dI) vwCl [(eO7a pa lx bk pfa pfp psk phe phr phs pop), (eO3a lx lby lfi lco lxe lxa lxt lxp lxn lxl), (eA0 lby cBy 900 fBy), (eA0 lco cCo 23 fCo), (eO0a bk bto bnm bla bsk bru bbo bdi bda bdk bdt bdp bno), (eA0 bto cTo 5 fTo), (eA4 bnm cNm 5 (fun k => some (Nm k))), (eA0 (Nm 2) cNr 12 (fNm 2))] U.heap ∧ va_K (dC, dI) vwCl [(cBy, .byte), (cCo, .int), (cTo, .int), (cNm, .array .int), (cNr, .int)] U ∧ va_D (fun _ => True) [(eO7a pa lx bk pfa pfp psk phe phr phs pop), (eO3a lx lby lfi lco lxe lxa lxt lxp lxn lxl), (eA0 lby cBy 900 fBy), (eA0 lco cCo 23 fCo), (eO0a bk bto bnm bla bsk bru bbo bdi bda bdk bdt bdp bno), (eA0 bto cTo 5 fTo), (eA4 bnm cNm 5 (fun k => some (Nm k))), (eA0 (Nm 2) cNr 12 (fNm 2))] ∧ xl sL (va_A [(eO7a pa lx bk pfa pfp psk phe phr phs pop), (eO3a lx lby lfi lco lxe lxa lxt lxp lxn lxl), (eA0 lby cBy 900 fBy), (eA0 lco cCo 23 fCo), (eO0a bk bto bnm bla bsk bru bbo bdi bda bdk bdt bdp bno), (eA0 bto cTo 5 fTo), (eA4 bnm cNm 5 (fun k => some (Nm k))), (eA0 (Nm 2) cNr 12 (fNm 2))] sz) U U.heap)) (va_Qi (fun (r : Int32) (u : (Int32) × (Int32) × (Int32) × (Int32) × (Int32) × (Int32) × (Int32) × (Nat → Nat → Int32)) => ((fp_beginNamed2 pfa pfp lxe lxa lxt lxp lxn lxl fBy fCo fTo fNm).1 = 0 ∧ r = (fp_beginNamed2 pfa pfp lxe lxa lxt lxp lxn lxl fBy fCo fTo fNm).2.1 ∧ u = (fp_beginNamed2 pfa pfp lxe lxa lxt lxp lxn lxl fBy fCo fTo fNm).2.2) ∧ (¬ u.2.2.1 < 0) ∧ (¬ r < 0) ∧ (r < 6) ∧ (r = fTo ((2 : Int32).toNatClampNeg))) (fun (u : (Int32) × (Int32) × (Int32) × (Int32) × (Int32) × (Int32) × (Int32) × (Nat → Nat → Int32)) t => (va_P (dC, dI) vwCl [(eO7a pa lx bk u.1 u.2.1 psk phe phr phs pop), (eO3a lx lby lfi lco lxe u.2.2.1 u.2.2.2.1 u.2.2.2.2.1 u.2.2.2.2.2.1 u.2.2.2.2.2.2.1), (eA0 lby cBy 900 fBy), (eA0 lco cCo 23 fCo), (eO0a bk bto bnm bla bsk bru bbo bdi bda bdk bdt bdp bno), (eA0 bto cTo 5 fTo), (eA4 bnm cNm 5 (fun k => some (Nm k))), (eA0 (Nm 2) cNr 12 (u.2.2.2.2.2.2.2 2))] t.heap ∧ va_K (dC, dI) vwCl [] t ∧ va_D (va_A [(eO7a pa lx bk pfa pfp psk phe phr phs pop), (eO3a lx lby lfi lco lxe lxa lxt lxp lxn lxl), (eA0 lby cBy 900 fBy), (eA0 lco cCo 23 fCo), (eO0a bk bto bnm bla bsk bru bbo bdi bda bdk bdt bdp bno), (eA0 bto cTo 5 fTo), (eA4 bnm cNm 5 (fun k => some (Nm k))), (eA0 (Nm 2) cNr 12 (fNm 2))] sz) [(eO7a pa lx bk u.1 u.2.1 psk phe phr phs pop), (eO3a lx lby lfi lco lxe u.2.2.1 u.2.2.2.1 u.2.2.2.2.1 u.2.2.2.2.2.1 u.2.2.2.2.2.2.1), (eA0 lby cBy 900 fBy), (eA0 lco cCo 23 fCo), (eO0a bk bto bnm bla bsk bru bbo bdi bda bdk bdt bdp bno), (eA0 bto cTo 5 fTo), (eA4 bnm cNm 5 (fun k => some (Nm k))), (eA0 (Nm 2) cNr 12 (u.2.2.2.2.2.2.2 2))]) ∧ t.heap.size = sz) (va_A [(eO7a pa lx bk pfa pfp psk phe phr phs pop), (eO3a lx lby lfi lco lxe lxa lxt lxp lxn lxl), (eA0 lby cBy 900 fBy), (eA0 lco cCo 23 fCo), (eO0a bk bto bnm bla bsk bru bbo bdi bda bdk bdt bdp bno), (eA0 bto cTo 5 fTo), (eA4 bnm cNm 5 (fun k => some (Nm k))), (eA0 (Nm 2) cNr 12 (fNm 2))] sz)) (vx_X (fun (u : (Int32) × (Int32) × (Int32) × (Int32) × (Int32) × (Int32) × (Int32) × (Nat → Nat → Int32)) => (fp_beginNamed2 pfa pfp lxe lxa lxt lxp lxn lxl fBy fCo fTo fNm).1 = 1 ∧ u = (fp_beginNamed2 pfa pfp lxe lxa lxt lxp lxn lxl fBy fCo fTo fNm).2.2) (fun (E : String) (u : (Int32) × (Int32) × (Int32) × (Int32) × (Int32) × (Int32) × (Int32) × (Nat → Nat → Int32)) (t : State) => E = "java/lang/IllegalStateException" ∧ va_P (dC, dI) vwCl [(eO7a pa lx bk u.1 u.2.1 psk phe phr phs pop), (eO3a lx lby lfi lco lxe u.2.2.1 u.2.2.2.1 u.2.2.2.2.1 u.2.2.2.2.2.1 u.2.2.2.2.2.2.1), (eA0 lby cBy 900 fBy), (eA0 lco cCo 23 fCo), (eO0a bk bto bnm bla bsk bru bbo bdi bda bdk bdt bdp bno), (eA0 bto cTo 5 fTo), (eA4 bnm cNm 5 (fun k => some (Nm k))), (eA0 (Nm 2) cNr 12 (u.2.2.2.2.2.2.2 2))] t.heap ∧ va_K (dC, dI) vwCl [] t ∧ va_D (va_A [(eO7a pa lx bk pfa pfp psk phe phr phs pop), (eO3a lx lby lfi lco lxe lxa lxt lxp lxn lxl), (eA0 lby cBy 900 fBy), (eA0 lco cCo 23 fCo), (eO0a bk bto bnm bla bsk bru bbo bdi bda bdk bdt bdp bno), (eA0 bto cTo 5 fTo), (eA4 bnm cNm 5 (fun k => some (Nm k))), (eA0 (Nm 2) cNr 12 (fNm 2))] sz) [(eO7a pa lx bk u.1 u.2.1 psk phe phr phs pop), (eO3a lx lby lfi lco lxe u.2.2.1 u.2.2.2.1 u.2.2.2.2.1 u.2.2.2.2.2.1 u.2.2.2.2.2.2.1), (eA0 lby cBy 900 fBy), (eA0 lco cCo 23 fCo), (eO0a bk bto bnm bla bsk bru bbo bdi bda bdk bdt bdp bno), (eA0 bto cTo 5 fTo), (eA4 bnm cNm 5 (fun k => some (Nm k))), (eA0 (Nm 2) cNr 12 (u.2.2.2.2.2.2.2 2))]) (va_A [(eO7a pa lx bk pfa pfp psk phe phr phs pop), (eO3a lx lby lfi lco lxe lxa lxt lxp lxn lxl), (eA0 lby cBy 900 fBy), (eA0 lco cCo 23 fCo), (eO0a bk bto bnm bla bsk bru bbo bdi bda bdk bdt bdp bno), (eA0 bto cTo 5 fTo), (eA4 bnm cNm 5 (fun k => some (Nm k))), (eA0 (Nm 2) cNr 12 (fNm 2))] sz)) 1 6 (va_A [(eO7a pa lx bk pfa pfp psk phe phr phs pop), (eO3a lx lby lfi lco lxe lxa lxt lxp lxn lxl), (eA0 lby cBy 900 fBy), (eA0 lco cCo 23 fCo), (eO0a bk bto bnm bla bsk bru bbo bdi bda bdk bdt bdp bno), (eA0 bto cTo 5 fTo), (eA4 bnm cNm 5 (fun k => some (Nm k))), (eA0 (Nm 2) cNr 12 (fNm 2))] sz) := by
  refine vx_ofW (cc := cX7_beginNamed) (maxL := 3) (ret := (some .int)) (by decide) rfl ?_
  intro p e s m args below meth c s₁ B hml hex hv
  obtain ⟨rfl, hsz, hP, hK, hD0, hXL⟩ := hv
  have hx := B.exec
  have hb := B.bytes
  have hr := B.returns
  have hts := atoms_spec (ws := Cond.code yX7_beginNamed cX7_beginNamed 3 (some .int) :: wsL_law) B.pre
  have htw : ∀ w ∈ wsL_law, w.before _ s = true := fun w h => hts w (List.mem_cons_of_mem _ h)
  have hown : s.vm.findClass RX7 = some m.cls := findClass_of_methodNamed B.named
  have hlocks := B.notSynchronized
  subst hsz
  have hD := hD0.self (sz := s.heap.size)
  generalize hAe : va_A [(eO7a pa lx bk pfa pfp psk phe phr phs pop), (eO3a lx lby lfi lco lxe lxa lxt lxp lxn lxl), (eA0 lby cBy 900 fBy), (eA0 lco cCo 23 fCo), (eO0a bk bto bnm bla bsk bru bbo bdi bda bdk bdt bdp bno), (eA0 bto cTo 5 fTo), (eA4 bnm cNm 5 (fun k => some (Nm k))), (eA0 (Nm 2) cNr 12 (fNm 2))] s.heap.size = A at hD hXL ⊢
  have hA : ∀ q : Nat, s.heap.size ≤ q → A q := fun q h => by rw [← hAe]; exact Or.inr h
  obtain ⟨H, rH⟩ : ∃ z : Heap, z = s.heap := ⟨_, rfl⟩
  have hS : va_S A s.heap H [] := by rw [rH]; exact va_S.rf
  have hP : va_P (dC, dI) vwCl [(eO7a pa lx bk pfa pfp psk phe phr phs pop), (eO3a lx lby lfi lco lxe lxa lxt lxp lxn lxl), (eA0 lby cBy 900 fBy), (eA0 lco cCo 23 fCo), (eO0a bk bto bnm bla bsk bru bbo bdi bda bdk bdt bdp bno), (eA0 bto cTo 5 fTo), (eA4 bnm cNm 5 (fun k => some (Nm k))), (eA0 (Nm 2) cNr 12 (fNm 2))] H := by rw [rH]; exact hP
  rw [← rH]
  have hl := lv_entry ([.ref pa, .int 2]) (n := 3) (Nat.le_of_ble_eq_true rfl)
  rw [lg_entry_eq]
  generalize (lg_sl ([.ref pa, .int 2]) ++ List.replicate (3 - (lg_sl ([.ref pa, .int 2])).length) Slot.unset).toArray = ls at hl ⊢
  have hl : lv_has ls 3 [(0, .ref pa), (1, .int 2)] := hl
  refine lv_aload_n hx hb dX7_beginNamed_0 rfl (lv_at hl 0 rfl) ?_
  refine va_get (D := (dC, dI)) (ci := 7) (v := .ref bk) (C := RX7) (T := TX7) (N := 9) hx hb htw inlX7 hown hK hP 0 rfl rfl 1 (by decide) (htw _ (ck_13 _ (List.mem_of_getElem? (i := 6) rfl))) (fun _ h9 => h9) rfl dX7_beginNamed_1 ?_
  refine va_get (D := (dC, dI)) (ci := 0) (v := .ref bto) (C := RX0) (T := TX0) (N := 12) hx hb htw inlX0 hown hK hP 4 rfl rfl 0 (by decide) (htw _ (ck_15 _ (List.mem_of_getElem? (i := 23) rfl))) (fun _ h9 => h9) rfl dX7_beginNamed_4 ?_
  refine lv_iload_n hx hb dX7_beginNamed_7 rfl (lv_at hl 1 rfl) ?_
  refine va_iald hx hb hK hP 5 2 rfl rfl (by unfold vp_in; decide) dX7_beginNamed_8 ?_
  refine lv_istore_n (lv' := [(2, .int (fTo ((2 : Int32).toNatClampNeg))), (0, .ref pa), (1, .int 2)]) hx hb dX7_beginNamed_9 rfl hl (by decide) rfl (fun ls hl => ?_)
  refine lv_aload_n hx hb dX7_beginNamed_10 rfl (lv_at hl 1 rfl) ?_
  refine lv_iload_n hx hb dX7_beginNamed_11 rfl (lv_at hl 0 rfl) ?_
  refine va_getsN hx hb hXL.2.1 hS hown (va_Nw.use rfl (hXL.2.2.2.2.2.2.2.1)) (fun _ h9 => h9) dX7_beginNamed_12 ?_
  refine lv_iload_n hx hb dX7_beginNamed_15 rfl (lv_at hl 2 rfl) ?_
  refine va_ti hx hb hXL.2.2.1 hS (by unfold vp_in; decide) (v := .int 6) rfl dX7_beginNamed_16 ?_
  refine lv_icmp_lt (tgt := 24) hx hb dX7_beginNamed_17 (by decide) (fun c_1 => ?_) (fun c_1 => ?_)
  · refine lv_iconst (v := 0) hx hb dX7_beginNamed_24 (by decide) ?_
    refine lv_iconst (v := 2) hx hb dX7_beginNamed_25 (by decide) ?_
    refine lv_aload_n hx hb dX7_beginNamed_26 rfl (lv_at hl 1 rfl) ?_
    refine va_get (D := (dC, dI)) (ci := 7) (v := .ref lx) (C := RX7) (T := TX7) (N := 9) hx hb htw inlX7 hown hK hP 0 rfl rfl 0 (by decide) (htw _ (ck_3 _ (List.mem_of_getElem? (i := 5) rfl))) (fun _ h9 => h9) rfl dX7_beginNamed_27 ?_
    refine va_get (D := (dC, dI)) (ci := 3) (v := .int lxp) (C := RX3) (T := TX3) (N := 9) hx hb htw inlX3 hown hK hP 1 rfl rfl 6 (by decide) (htw _ (ck_15 _ (List.mem_of_getElem? (i := 13) rfl))) (fun _ h9 => h9) rfl dX7_beginNamed_30 ?_
    have hPc := hP.sub (ws' := []) [] rfl
    have hKc := hK.sub (tys' := []) [] rfl
    refine va_csv (W.runV (As := [.int 0, .int 2, .int lxp]) (rest := []) ⟨hx, hb, hml, hown, htw⟩ (gp_ref0 l dC dI (0 : Int32) (2 : Int32) lxp pa (gp_beginNamed2_s0 )) (cwV 3 htw (xg_V (ck_16 _ (List.mem_of_getElem? (i := 6) rfl)) (ck_16 _ (List.mem_of_getElem? (i := 7) rfl)) (ck_16 _ (List.mem_of_getElem? (i := 8) rfl)) (ck_1 _ (List.mem_of_getElem? (i := 16) rfl)) (ck_16 _ (List.mem_of_getElem? (i := 9) rfl))) rfl rfl rfl (by exact ⟨rfl, hdc_15.1, hdc_15.2, hdd_48⟩) ⟨Nat.le_of_ble_eq_true rfl, Nat.le_of_ble_eq_true rfl⟩) ⟨fun a U g mk q => by obtain ⟨q0, qP, qK⟩ := q; exact ⟨q0, qP, va_K.moved (u := U) (U := U.calling g mk a) (Vm.Alike.refl U.vm) qK⟩, va_recv hK hP (ci := 7) (q0 := 0) rfl rfl, fun U hU hW => ⟨rfl, by rw [hU]; exact hPc, va_K.moved hW.alike hKc⟩⟩ rfl rfl hl.1 rfl (lv_room (Nat.le_of_ble_eq_true rfl)) dX7_beginNamed_33 ⟨Nat.le_of_ble_eq_true rfl, Nat.le_of_ble_eq_true rfl⟩) (fun hw => ?_)
    try dsimp only at hw
    refine lv_aload_n hx hb dX7_beginNamed_36 rfl (lv_at hl 1 rfl) ?_
    refine va_get (D := (dC, dI)) (ci := 7) (v := .ref lx) (C := RX7) (T := TX7) (N := 9) hx hb htw inlX7 hown hK hP 0 rfl rfl 0 (by decide) (htw _ (ck_3 _ (List.mem_of_getElem? (i := 5) rfl))) (fun _ h9 => h9) rfl dX7_beginNamed_37 ?_
    obtain ⟨hPc, hDc, hFc, hCc⟩ := zsub3 (ws' := [(eO3a lx lby lfi lco lxe lxa lxt lxp lxn lxl), (eA0 lby cBy 900 fBy), (eA0 lco cCo 23 fCo)]) hP hD hS hA [1, 2, 3] (by decide) rfl
    have hKc := hK.sub (tys' := [(cBy, .byte), (cCo, .int)]) [0, 1] rfl
    refine va_callv (va_runV (As := []) (rest := []) ⟨hx, hb, hml, hown, htw⟩ (gz_advance l dC dI lx lby lfi lco lxe lxa lxt lxp lxn lxl cBy fBy cCo fCo H.size h0_lxa h9_lxe) (cwV 0 htw (xg_V (ck_16 _ (List.mem_of_getElem? (i := 11) rfl)) (ck_14 _ (List.mem_of_getElem? (i := 13) rfl)) (ck_14 _ (List.mem_of_getElem? (i := 14) rfl)) (ck_3 _ (List.mem_of_getElem? (i := 4) rfl)) (ck_14 _ (List.mem_of_getElem? (i := 15) rfl))) rfl rfl rfl (by exact ⟨rfl, hdc_4.1, hdc_4.2, hdd_13⟩) ⟨Nat.le_of_ble_eq_true rfl, Nat.le_of_ble_eq_true rfl⟩) ⟨fun a U g mk q => by obtain ⟨q0, q1, qP, qK, qD⟩ := q; exact ⟨q0, q1, qP, va_K.moved (u := U) (U := U.calling g mk a) (Vm.Alike.refl U.vm) qK, qD⟩, va_recv hKc hPc (ci := 3) (q0 := 0) rfl rfl, fun U hU hW => ⟨rfl, by rw [hU], by rw [hU]; exact hPc, va_K.moved hW.alike hKc, hDc.weaken (fun _ _ _ _ => trivial)⟩⟩ rfl rfl hl.1 rfl (lv_room (Nat.le_of_ble_eq_true rfl)) dX7_beginNamed_40 ⟨Nat.le_of_ble_eq_true rfl, Nat.le_of_ble_eq_true rfl⟩) hS (fun q _ h => hFc q h) hFc (fun u_4 t H1 locs ht hvm hw hB hz1 hk1 hS => ?_)
    try dsimp only at hw
    obtain ⟨hP1, hK1, hD1⟩ := hB
    rw [ht] at hP1
    have hK1 := va_K.moved hvm.symm hK1
    have hK1 : va_K (dC, dI) vwCl [] s := hK1
    obtain ⟨hP, hD⟩ := va_join (wr := [(eO7a pa lx bk pfa pfp psk phe phr phs pop), (eO0a bk bto bnm bla bsk bru bbo bdi bda bdk bdt bdp bno), (eA0 bto cTo 5 fTo), (eA4 bnm cNm 5 (fun k => some (Nm k))), (eA0 (Nm 2) cNr 12 (fNm 2))]) (w1 := [(eO3a lx lby lfi lco lxe u_4.1 u_4.2.1 u_4.2.2.1 u_4.2.2.2.1 u_4.2.2.2.2), (eA0 lby cBy 900 fBy), (eA0 lco cCo 23 fCo)]) hP hD [1, 2, 3] [0, 4, 5, 6, 7] hCc rfl (by decide) (by decide) hk1 hFc hP1 hD1
    generalize H1 = H at hP hS ⊢
    obtain ⟨hP, hD⟩ := zre [(eO7a pa lx bk pfa pfp psk phe phr phs pop), (eO0a bk bto bnm bla bsk bru bbo bdi bda bdk bdt bdp bno), (eA0 bto cTo 5 fTo), (eA4 bnm cNm 5 (fun k => some (Nm k))), (eA0 (Nm 2) cNr 12 (fNm 2)), (eO3a lx lby lfi lco lxe u_4.1 u_4.2.1 u_4.2.2.1 u_4.2.2.2.1 u_4.2.2.2.2), (eA0 lby cBy 900 fBy), (eA0 lco cCo 23 fCo)] hP hD rfl
    refine W.widen (k := 0) (n := 0) (by omega) (by omega) ?_
    obtain ⟨hw, hp_10⟩ := hw
    have hq_u_4 : u_4 = (fe_advance lxe lxa lxn lxl fBy fCo) := hw
    refine lv_aload_n hx hb dX7_beginNamed_43 rfl (lv_at hl 1 rfl) ?_
    refine lv_aload_n hx hb dX7_beginNamed_44 rfl (lv_at hl 1 rfl) ?_
    refine va_get (D := (dC, dI)) (ci := 7) (v := .ref lx) (C := RX7) (T := TX7) (N := 9) hx hb htw inlX7 hown hK hP 0 rfl rfl 0 (by decide) (htw _ (ck_3 _ (List.mem_of_getElem? (i := 5) rfl))) (fun _ h9 => h9) rfl dX7_beginNamed_45 ?_
    refine va_get (D := (dC, dI)) (ci := 3) (v := .int u_4.2.1) (C := RX3) (T := TX3) (N := 9) hx hb htw inlX3 hown hK hP 5 rfl rfl 5 (by decide) (htw _ (ck_13 _ (List.mem_of_getElem? (i := 9) rfl))) (fun _ h9 => h9) rfl dX7_beginNamed_48 ?_
    refine lv_bipush (v := 23) hx hb dX7_beginNamed_51 (by decide) ?_
    refine lv_icmp_eq (tgt := 60) hx hb dX7_beginNamed_53 (by decide) (fun c_11 => ?_) (fun c_11 => ?_)
    · refine lv_iconst (v := 0) hx hb dX7_beginNamed_60 (by decide) ?_
      refine lv_iconst (v := 1) hx hb dX7_beginNamed_61 (by decide) ?_
      refine lv_aload_n hx hb dX7_beginNamed_62 rfl (lv_at hl 1 rfl) ?_
      refine va_get (D := (dC, dI)) (ci := 7) (v := .ref lx) (C := RX7) (T := TX7) (N := 9) hx hb htw inlX7 hown hK hP 0 rfl rfl 0 (by decide) (htw _ (ck_3 _ (List.mem_of_getElem? (i := 5) rfl))) (fun _ h9 => h9) rfl dX7_beginNamed_63 ?_
      refine va_get (D := (dC, dI)) (ci := 3) (v := .int u_4.2.2.1) (C := RX3) (T := TX3) (N := 9) hx hb htw inlX3 hown hK hP 5 rfl rfl 6 (by decide) (htw _ (ck_15 _ (List.mem_of_getElem? (i := 13) rfl))) (fun _ h9 => h9) rfl dX7_beginNamed_66 ?_
      have hPc := hP.sub (ws' := []) [] rfl
      have hKc := hK.sub (tys' := []) [] rfl
      refine va_csv (W.runV (As := [.int 0, .int 1, .int u_4.2.2.1]) (rest := []) ⟨hx, hb, hml, hown, htw⟩ (gp_ref0 l dC dI (0 : Int32) (1 : Int32) u_4.2.2.1 pa (gp_beginNamed2_s1 )) (cwV 3 htw (xg_V (ck_16 _ (List.mem_of_getElem? (i := 6) rfl)) (ck_16 _ (List.mem_of_getElem? (i := 7) rfl)) (ck_16 _ (List.mem_of_getElem? (i := 8) rfl)) (ck_1 _ (List.mem_of_getElem? (i := 16) rfl)) (ck_16 _ (List.mem_of_getElem? (i := 9) rfl))) rfl rfl rfl (by exact ⟨rfl, hdc_15.1, hdc_15.2, hdd_48⟩) ⟨Nat.le_of_ble_eq_true rfl, Nat.le_of_ble_eq_true rfl⟩) ⟨fun a U g mk q => by obtain ⟨q0, qP, qK⟩ := q; exact ⟨q0, qP, va_K.moved (u := U) (U := U.calling g mk a) (Vm.Alike.refl U.vm) qK⟩, va_recv hK hP (ci := 7) (q0 := 0) rfl rfl, fun U hU hW => ⟨rfl, by rw [hU]; exact hPc, va_K.moved hW.alike hKc⟩⟩ rfl rfl hl.1 rfl (lv_room (Nat.le_of_ble_eq_true rfl)) dX7_beginNamed_69 ⟨Nat.le_of_ble_eq_true rfl, Nat.le_of_ble_eq_true rfl⟩) (fun hw => ?_)
      try dsimp only at hw
      refine lv_aload_n hx hb dX7_beginNamed_72 rfl (lv_at hl 1 rfl) ?_
      refine lv_aload_n hx hb dX7_beginNamed_73 rfl (lv_at hl 1 rfl) ?_
      refine va_get (D := (dC, dI)) (ci := 7) (v := .ref bk) (C := RX7) (T := TX7) (N := 9) hx hb htw inlX7 hown hK hP 0 rfl rfl 1 (by decide) (htw _ (ck_13 _ (List.mem_of_getElem? (i := 6) rfl))) (fun _ h9 => h9) rfl dX7_beginNamed_74 ?_
      refine lv_iload_n hx hb dX7_beginNamed_77 rfl (lv_at hl 2 rfl) ?_
      refine lv_aload_n hx hb dX7_beginNamed_78 rfl (lv_at hl 1 rfl) ?_
      refine va_get (D := (dC, dI)) (ci := 7) (v := .ref lx) (C := RX7) (T := TX7) (N := 9) hx hb htw inlX7 hown hK hP 0 rfl rfl 0 (by decide) (htw _ (ck_3 _ (List.mem_of_getElem? (i := 5) rfl))) (fun _ h9 => h9) rfl dX7_beginNamed_79 ?_
      refine va_get (D := (dC, dI)) (ci := 3) (v := .int u_4.2.2.2.2) (C := RX3) (T := TX3) (N := 9) hx hb htw inlX3 hown hK hP 5 rfl rfl 8 (by decide) (htw _ (ck_16 _ (List.mem_of_getElem? (i := 4) rfl))) (fun _ h9 => h9) rfl dX7_beginNamed_82 ?_
      have hPc := hP.sub (ws' := [(eO0a bk bto bnm bla bsk bru bbo bdi bda bdk bdt bdp bno), (eA0 bto cTo 5 fTo), (eA4 bnm cNm 5 (fun k => some (Nm k))), (eA0 (Nm 2) cNr 12 (fNm 2))]) [1, 2, 3, 4] rfl
      have hKc := hK.sub (tys' := [(cTo, .int), (cNm, .array .int), (cNr, .int)]) [2, 3, 4] rfl
      refine vp_callSi (W.runV (As := [.int 2, .int u_4.2.2.2.2]) (rest := [.ref pa]) ⟨hx, hb, hml, hown, htw⟩ (gb_find2 l dC dI bk bto bnm bla bsk bru bbo bdi bda bdk bdt bdp bno cTo fTo cNm Nm cNr fNm u_4.2.2.2.2) (cwV 2 htw (xg_V (ck_16 _ (List.mem_of_getElem? (i := 12) rfl)) (ck_16 _ (List.mem_of_getElem? (i := 13) rfl)) (ck_16 _ (List.mem_of_getElem? (i := 14) rfl)) (ck_1 _ (List.mem_of_getElem? (i := 20) rfl)) (ck_16 _ (List.mem_of_getElem? (i := 15) rfl))) rfl rfl rfl (by exact ⟨rfl, hdc_6.1, hdc_6.2, hdd_7⟩) ⟨Nat.le_of_ble_eq_true rfl, Nat.le_of_ble_eq_true rfl⟩) ⟨fun a U g mk q => by obtain ⟨q0, qP, qK⟩ := q; exact ⟨q0, qP, va_K.moved (u := U) (U := U.calling g mk a) (Vm.Alike.refl U.vm) qK⟩, va_recv hKc hPc (ci := 0) (q0 := 0) rfl rfl, fun U hU hW => ⟨rfl, by rw [hU]; exact hPc, va_K.moved hW.alike hKc⟩⟩ rfl rfl hl.1 rfl (lv_room (Nat.le_of_ble_eq_true rfl)) dX7_beginNamed_85 ⟨Nat.le_of_ble_eq_true rfl, Nat.le_of_ble_eq_true rfl⟩) (fun r_13 hw => ?_)
      try dsimp only at hw
      have hq_r_13 : r_13 = (fb_find2 fTo fNm u_4.2.2.2.2) := hw
      refine lv_iconst (v := (-1)) hx hb dX7_beginNamed_88 (by decide) ?_
      refine lv_icmp_eq (tgt := 96) hx hb dX7_beginNamed_89 (by decide) (fun c_14 => ?_) (fun c_14 => ?_)
      · refine lv_iconst (v := 0) hx hb dX7_beginNamed_96 (by decide) ?_
        refine lv_iconst (v := 3) hx hb dX7_beginNamed_97 (by decide) ?_
        refine lv_aload_n hx hb dX7_beginNamed_98 rfl (lv_at hl 1 rfl) ?_
        refine va_get (D := (dC, dI)) (ci := 7) (v := .ref lx) (C := RX7) (T := TX7) (N := 9) hx hb htw inlX7 hown hK hP 0 rfl rfl 0 (by decide) (htw _ (ck_3 _ (List.mem_of_getElem? (i := 5) rfl))) (fun _ h9 => h9) rfl dX7_beginNamed_99 ?_
        refine va_get (D := (dC, dI)) (ci := 3) (v := .int u_4.2.2.1) (C := RX3) (T := TX3) (N := 9) hx hb htw inlX3 hown hK hP 5 rfl rfl 6 (by decide) (htw _ (ck_15 _ (List.mem_of_getElem? (i := 13) rfl))) (fun _ h9 => h9) rfl dX7_beginNamed_102 ?_
        have hPc := hP.sub (ws' := []) [] rfl
        have hKc := hK.sub (tys' := []) [] rfl
        refine va_csv (W.runV (As := [.int 0, .int 3, .int u_4.2.2.1]) (rest := []) ⟨hx, hb, hml, hown, htw⟩ (gp_ref0 l dC dI (0 : Int32) (3 : Int32) u_4.2.2.1 pa (gp_beginNamed2_s2 )) (cwV 3 htw (xg_V (ck_16 _ (List.mem_of_getElem? (i := 6) rfl)) (ck_16 _ (List.mem_of_getElem? (i := 7) rfl)) (ck_16 _ (List.mem_of_getElem? (i := 8) rfl)) (ck_1 _ (List.mem_of_getElem? (i := 16) rfl)) (ck_16 _ (List.mem_of_getElem? (i := 9) rfl))) rfl rfl rfl (by exact ⟨rfl, hdc_15.1, hdc_15.2, hdd_48⟩) ⟨Nat.le_of_ble_eq_true rfl, Nat.le_of_ble_eq_true rfl⟩) ⟨fun a U g mk q => by obtain ⟨q0, qP, qK⟩ := q; exact ⟨q0, qP, va_K.moved (u := U) (U := U.calling g mk a) (Vm.Alike.refl U.vm) qK⟩, va_recv hK hP (ci := 7) (q0 := 0) rfl rfl, fun U hU hW => ⟨rfl, by rw [hU]; exact hPc, va_K.moved hW.alike hKc⟩⟩ rfl rfl hl.1 rfl (lv_room (Nat.le_of_ble_eq_true rfl)) dX7_beginNamed_105 ⟨Nat.le_of_ble_eq_true rfl, Nat.le_of_ble_eq_true rfl⟩) (fun hw => ?_)
        try dsimp only at hw
        refine lv_aload_n hx hb dX7_beginNamed_108 rfl (lv_at hl 1 rfl) ?_
        refine va_get (D := (dC, dI)) (ci := 7) (v := .ref bk) (C := RX7) (T := TX7) (N := 9) hx hb htw inlX7 hown hK hP 0 rfl rfl 1 (by decide) (htw _ (ck_13 _ (List.mem_of_getElem? (i := 6) rfl))) (fun _ h9 => h9) rfl dX7_beginNamed_109 ?_
        refine va_get (D := (dC, dI)) (ci := 0) (v := .ref bnm) (C := RX0) (T := TX0) (N := 12) hx hb htw inlX0 hown hK hP 1 rfl rfl 1 (by decide) (htw _ (ck_16 _ (List.mem_of_getElem? (i := 5) rfl))) (fun _ h9 => h9) rfl dX7_beginNamed_112 ?_
        refine lv_iload_n hx hb dX7_beginNamed_115 rfl (lv_at hl 2 rfl) ?_
        refine xg_aldq hx hb hK hP 3 3 rfl rfl rfl (by unfold vp_in; decide) dX7_beginNamed_116 ?_
        refine W.eq (g2 := F0 m 117 ls [.ref (Nm 2)]) rfl ?_
        refine lv_iload_n hx hb dX7_beginNamed_117 rfl (lv_at hl 0 rfl) ?_
        refine lv_aload_n hx hb dX7_beginNamed_118 rfl (lv_at hl 1 rfl) ?_
        refine va_get (D := (dC, dI)) (ci := 7) (v := .ref lx) (C := RX7) (T := TX7) (N := 9) hx hb htw inlX7 hown hK hP 0 rfl rfl 0 (by decide) (htw _ (ck_3 _ (List.mem_of_getElem? (i := 5) rfl))) (fun _ h9 => h9) rfl dX7_beginNamed_119 ?_
        refine va_get (D := (dC, dI)) (ci := 3) (v := .int u_4.2.2.2.2) (C := RX3) (T := TX3) (N := 9) hx hb htw inlX3 hown hK hP 5 rfl rfl 8 (by decide) (htw _ (ck_16 _ (List.mem_of_getElem? (i := 4) rfl))) (fun _ h9 => h9) rfl dX7_beginNamed_122 ?_
        refine va_iast hx hb hK hP hD hS 4 4 rfl rfl (xg_inr (N := 12) rfl (gp_beginNamed2_s3 (y0 := fTo ((2 : Int32).toNatClampNeg)) c_1 hT.2.2.1.1 hT.2.2.1.2).1 (gp_beginNamed2_s3 (y0 := fTo ((2 : Int32).toNatClampNeg)) c_1 hT.2.2.1.1 hT.2.2.1.2).2) dX7_beginNamed_125 (fun H locs hP hD hS => ?_)
        obtain ⟨hP, hD⟩ := zre [(eO7a pa lx bk pfa pfp psk phe phr phs pop), (eO0a bk bto bnm bla bsk bru bbo bdi bda bdk bdt bdp bno), (eA0 bto cTo 5 fTo), (eA4 bnm cNm 5 (fun k => some (Nm k))), (eA0 (Nm 2) cNr 12 (upd (fNm 2) ((fTo ((2 : Int32).toNatClampNeg)).toNatClampNeg) u_4.2.2.2.2)), (eO3a lx lby lfi lco lxe u_4.1 u_4.2.1 u_4.2.2.1 u_4.2.2.2.1 u_4.2.2.2.2), (eA0 lby cBy 900 fBy), (eA0 lco cCo 23 fCo)] hP hD rfl
        refine lv_aload_n hx hb dX7_beginNamed_126 rfl (lv_at hl 1 rfl) ?_
        refine va_get (D := (dC, dI)) (ci := 7) (v := .ref lx) (C := RX7) (T := TX7) (N := 9) hx hb htw inlX7 hown hK hP 0 rfl rfl 0 (by decide) (htw _ (ck_3 _ (List.mem_of_getElem? (i := 5) rfl))) (fun _ h9 => h9) rfl dX7_beginNamed_127 ?_
        obtain ⟨hPc, hDc, hFc, hCc⟩ := zsub3 (ws' := [(eO3a lx lby lfi lco lxe u_4.1 u_4.2.1 u_4.2.2.1 u_4.2.2.2.1 u_4.2.2.2.2), (eA0 lby cBy 900 fBy), (eA0 lco cCo 23 fCo)]) hP hD hS hA [5, 6, 7] (by decide) rfl
        have hKc := hK.sub (tys' := [(cBy, .byte), (cCo, .int)]) [0, 1] rfl
        refine va_callv (va_runV (As := []) (rest := []) ⟨hx, hb, hml, hown, htw⟩ (gz_advance l dC dI lx lby lfi lco lxe u_4.1 u_4.2.1 u_4.2.2.1 u_4.2.2.2.1 u_4.2.2.2.2 cBy fBy cCo fCo H.size (gp_beginNamed2_s4 (y0 := u_4.1) hp_10) h9_lxe) (cwV 0 htw (xg_V (ck_16 _ (List.mem_of_getElem? (i := 11) rfl)) (ck_14 _ (List.mem_of_getElem? (i := 13) rfl)) (ck_14 _ (List.mem_of_getElem? (i := 14) rfl)) (ck_3 _ (List.mem_of_getElem? (i := 4) rfl)) (ck_14 _ (List.mem_of_getElem? (i := 15) rfl))) rfl rfl rfl (by exact ⟨rfl, hdc_4.1, hdc_4.2, hdd_13⟩) ⟨Nat.le_of_ble_eq_true rfl, Nat.le_of_ble_eq_true rfl⟩) ⟨fun a U g mk q => by obtain ⟨q0, q1, qP, qK, qD⟩ := q; exact ⟨q0, q1, qP, va_K.moved (u := U) (U := U.calling g mk a) (Vm.Alike.refl U.vm) qK, qD⟩, va_recv hKc hPc (ci := 3) (q0 := 0) rfl rfl, fun U hU hW => ⟨rfl, by rw [hU], by rw [hU]; exact hPc, va_K.moved hW.alike hKc, hDc.weaken (fun _ _ _ _ => trivial)⟩⟩ rfl rfl hl.1 rfl (lv_room (Nat.le_of_ble_eq_true rfl)) dX7_beginNamed_130 ⟨Nat.le_of_ble_eq_true rfl, Nat.le_of_ble_eq_true rfl⟩) hS (fun q _ h => hFc q h) hFc (fun u_18 t H1 locs ht hvm hw hB hz1 hk1 hS => ?_)
        try dsimp only at hw
        obtain ⟨hP1, hK1, hD1⟩ := hB
        rw [ht] at hP1
        have hK1 := va_K.moved hvm.symm hK1
        have hK1 : va_K (dC, dI) vwCl [] s := hK1
        obtain ⟨hP, hD⟩ := va_join (wr := [(eO7a pa lx bk pfa pfp psk phe phr phs pop), (eO0a bk bto bnm bla bsk bru bbo bdi bda bdk bdt bdp bno), (eA0 bto cTo 5 fTo), (eA4 bnm cNm 5 (fun k => some (Nm k))), (eA0 (Nm 2) cNr 12 (upd (fNm 2) ((fTo ((2 : Int32).toNatClampNeg)).toNatClampNeg) u_4.2.2.2.2))]) (w1 := [(eO3a lx lby lfi lco lxe u_18.1 u_18.2.1 u_18.2.2.1 u_18.2.2.2.1 u_18.2.2.2.2), (eA0 lby cBy 900 fBy), (eA0 lco cCo 23 fCo)]) hP hD [5, 6, 7] [0, 1, 2, 3, 4] hCc rfl (by decide) (by decide) hk1 hFc hP1 hD1
        generalize H1 = H at hP hS ⊢
        obtain ⟨hP, hD⟩ := zre [(eO7a pa lx bk pfa pfp psk phe phr phs pop), (eO0a bk bto bnm bla bsk bru bbo bdi bda bdk bdt bdp bno), (eA0 bto cTo 5 fTo), (eA4 bnm cNm 5 (fun k => some (Nm k))), (eA0 (Nm 2) cNr 12 (upd (fNm 2) ((fTo ((2 : Int32).toNatClampNeg)).toNatClampNeg) u_4.2.2.2.2)), (eO3a lx lby lfi lco lxe u_18.1 u_18.2.1 u_18.2.2.1 u_18.2.2.2.1 u_18.2.2.2.2), (eA0 lby cBy 900 fBy), (eA0 lco cCo 23 fCo)] hP hD rfl
        refine W.widen (k := 0) (n := 0) (by omega) (by omega) ?_
        obtain ⟨hw, hp_24⟩ := hw
        have hq_u_18 : u_18 = (fe_advance lxe u_4.1 u_4.2.2.2.1 u_4.2.2.2.2 fBy fCo) := hw
        refine lv_iload_n hx hb dX7_beginNamed_133 rfl (lv_at hl 0 rfl) ?_
        refine xs_size (fun hHz => ?_)
        refine vx_ret ?_
        refine W.widen (k := 1) (n := 6) (by omega) (by omega) ?_
        obtain ⟨hP9, hD9⟩ := zsub2 (ws' := [(eO7a pa lx bk pfa pfp psk phe phr phs pop), (eO3a lx lby lfi lco lxe u_18.1 u_18.2.1 u_18.2.2.1 u_18.2.2.2.1 u_18.2.2.2.2), (eA0 lby cBy 900 fBy), (eA0 lco cCo 23 fCo), (eO0a bk bto bnm bla bsk bru bbo bdi bda bdk bdt bdp bno), (eA0 bto cTo 5 fTo), (eA4 bnm cNm 5 (fun k => some (Nm k))), (eA0 (Nm 2) cNr 12 (upd (fNm 2) ((fTo ((2 : Int32).toNatClampNeg)).toNatClampNeg) u_4.2.2.2.2))]) hP hD [0, 5, 6, 7, 1, 2, 3, 4] (by decide +kernel) rfl
        have hK9 := hK.sub (tys' := []) [] rfl
        exact W.iret (v := fTo ((2 : Int32).toNatClampNeg)) hx hb hr (fun t ht hW => ⟨⟨fTo ((2 : Int32).toNatClampNeg), (pfa, pfp, u_18.1, u_18.2.1, u_18.2.2.1, u_18.2.2.2.1, u_18.2.2.2.2, (va_up fNm 2 (upd (fNm 2) ((fTo ((2 : Int32).toNatClampNeg)).toNatClampNeg) u_4.2.2.2.2))), rfl, ⟨((fun e9 => ⟨by rw [e9], by rw [e9], by rw [e9]⟩ : fp_beginNamed2 pfa pfp lxe lxa lxt lxp lxn lxl fBy fCo fTo fNm = ((0 : Int32), fTo ((2 : Int32).toNatClampNeg), pfa, pfp, u_18.1, u_18.2.1, u_18.2.2.1, u_18.2.2.2.1, u_18.2.2.2.2, (va_up fNm 2 (upd (fNm 2) ((fTo ((2 : Int32).toNatClampNeg)).toNatClampNeg) u_4.2.2.2.2))) → _) ((by rw [fp_beginNamed2]; (try rw [if_pos c_1]); (try rw [← hq_u_4]); (try rw [xL_eq]); (try rw [if_pos c_11]); (try rw [← hq_r_13]); (try rw [xL_eq]); (try rw [if_pos c_14]); (try rw [← hq_u_18]); (try rw [xL_eq]); try rfl))), (gp_beginNamed2_s5 (y0 := u_18.1) hp_24), (gp_beginNamed2_s6 (y0 := fTo ((2 : Int32).toNatClampNeg)) c_1 hT.2.2.1.1 hT.2.2.1.2), (gp_beginNamed2_s7 (y0 := fTo ((2 : Int32).toNatClampNeg)) c_1 hT.2.2.1.1 hT.2.2.1.2), (gp_beginNamed2_s8 (y0 := fTo ((2 : Int32).toNatClampNeg)) c_1 hT.2.2.1.1 hT.2.2.1.2)⟩, ⟨by rw [ht]; exact hP9, va_K.moved hW.alike hK9, hD9⟩, by rw [ht]; first | exact hHz | exact hHz.trans (by rw [rH])⟩, hS.F ht⟩) hS.2.2 dX7_beginNamed_134
      · refine lv_iconst (v := 1) hx hb dX7_beginNamed_92 (by decide) ?_
        refine lv_goto (tgt := 97) hx hb dX7_beginNamed_93 (by decide) ?_
        refine lv_iconst (v := 3) hx hb dX7_beginNamed_97 (by decide) ?_
        refine lv_aload_n hx hb dX7_beginNamed_98 rfl (lv_at hl 1 rfl) ?_
        refine va_get (D := (dC, dI)) (ci := 7) (v := .ref lx) (C := RX7) (T := TX7) (N := 9) hx hb htw inlX7 hown hK hP 0 rfl rfl 0 (by decide) (htw _ (ck_3 _ (List.mem_of_getElem? (i := 5) rfl))) (fun _ h9 => h9) rfl dX7_beginNamed_99 ?_
        refine va_get (D := (dC, dI)) (ci := 3) (v := .int u_4.2.2.1) (C := RX3) (T := TX3) (N := 9) hx hb htw inlX3 hown hK hP 5 rfl rfl 6 (by decide) (htw _ (ck_15 _ (List.mem_of_getElem? (i := 13) rfl))) (fun _ h9 => h9) rfl dX7_beginNamed_102 ?_
        refine xs_size (fun hHz => ?_)
        obtain ⟨hPc, hDc, hFc, hCc⟩ := zsub3 (ws' := [(eO7a pa lx bk pfa pfp psk phe phr phs pop)]) hP hD hS hA [0] (by decide) rfl
        have hKc := hK.sub (tys' := []) [] rfl
        refine vx_callv (vx_runV (As := [.int 1, .int 3, .int u_4.2.2.1]) (rest := []) ⟨hx, hb, hml, hown, htw⟩ (gp_refT l hst dC dI pa lx bk pfa pfp psk phe phr phs pop (1 : Int32) (3 : Int32) u_4.2.2.1 sL H.size (gp_beginNamed2_s9 )) (cwV 3 htw (xg_V (ck_16 _ (List.mem_of_getElem? (i := 6) rfl)) (ck_16 _ (List.mem_of_getElem? (i := 7) rfl)) (ck_16 _ (List.mem_of_getElem? (i := 8) rfl)) (ck_1 _ (List.mem_of_getElem? (i := 16) rfl)) (ck_16 _ (List.mem_of_getElem? (i := 9) rfl))) rfl rfl rfl (by exact ⟨rfl, hdc_15.1, hdc_15.2, hdd_48⟩) ⟨Nat.le_of_ble_eq_true rfl, Nat.le_of_ble_eq_true rfl⟩) ⟨fun a U g mk q => by obtain ⟨q0, q1, qP, qK, qD, qx0⟩ := q; exact ⟨q0, q1, qP, va_K.moved (u := U) (U := U.calling g mk a) (Vm.Alike.refl U.vm) qK, qD, xl.calling qx0⟩, va_recv hKc hPc (ci := 7) (q0 := 0) rfl rfl, fun U hU hW => ⟨rfl, by rw [hU], by rw [hU]; exact hPc, va_K.moved hW.alike hKc, hDc.weaken (fun _ _ _ _ => trivial), by rw [hU]; exact xl.warm hW ((xl.kept hXL hS.2.1).narrow hFc)⟩⟩ rfl rfl hl.1 rfl (lv_room (Nat.le_of_ble_eq_true rfl)) dX7_beginNamed_105 ⟨Nat.le_of_ble_eq_true rfl, Nat.le_of_ble_eq_true rfl⟩) hS (fun q _ h => hFc q h) hFc (fun q _ h => hFc q h) (fun E ce q9 u_25 t H1 locs ht hvm hw hB hz1 hk1 hS hcell hcv hcl => ?_) (fun u_27 t H1 locs ht hvm hw hB hz1 hk1 hS => hw.elim)
        obtain ⟨hE9, hB⟩ := hB
        subst hE9
        obtain ⟨hP1, hK1, hD1⟩ := hB
        rw [ht] at hP1
        have hK1 := va_K.moved hvm.symm hK1
        have hK1 : va_K (dC, dI) vwCl [] s := hK1
        obtain ⟨hP, hD⟩ := va_join (wr := [(eO0a bk bto bnm bla bsk bru bbo bdi bda bdk bdt bdp bno), (eA0 bto cTo 5 fTo), (eA4 bnm cNm 5 (fun k => some (Nm k))), (eA0 (Nm 2) cNr 12 (fNm 2)), (eO3a lx lby lfi lco lxe u_4.1 u_4.2.1 u_4.2.2.1 u_4.2.2.2.1 u_4.2.2.2.2), (eA0 lby cBy 900 fBy), (eA0 lco cCo 23 fCo)]) (w1 := [(eO7a pa lx bk 3 u_4.2.2.1 psk phe phr phs pop)]) hP hD [0] [1, 2, 3, 4, 5, 6, 7] hCc rfl (by decide) (by decide) hk1 hFc hP1 hD1
        generalize H1 = H at hP hS hcell ⊢
        obtain ⟨hP, hD⟩ := zre [(eO0a bk bto bnm bla bsk bru bbo bdi bda bdk bdt bdp bno), (eA0 bto cTo 5 fTo), (eA4 bnm cNm 5 (fun k => some (Nm k))), (eA0 (Nm 2) cNr 12 (fNm 2)), (eO3a lx lby lfi lco lxe u_4.1 u_4.2.1 u_4.2.2.1 u_4.2.2.2.1 u_4.2.2.2.2), (eA0 lby cBy 900 fBy), (eA0 lco cCo 23 fCo), (eO7a pa lx bk 3 u_4.2.2.1 psk phe phr phs pop)] hP hD rfl
        obtain ⟨hP9, hD9⟩ := zsub2 (ws' := [(eO7a pa lx bk 3 u_4.2.2.1 psk phe phr phs pop), (eO3a lx lby lfi lco lxe u_4.1 u_4.2.1 u_4.2.2.1 u_4.2.2.2.1 u_4.2.2.2.2), (eA0 lby cBy 900 fBy), (eA0 lco cCo 23 fCo), (eO0a bk bto bnm bla bsk bru bbo bdi bda bdk bdt bdp bno), (eA0 bto cTo 5 fTo), (eA4 bnm cNm 5 (fun k => some (Nm k))), (eA0 (Nm 2) cNr 12 (fNm 2))]) hP hD [7, 4, 5, 6, 0, 1, 2, 3] (by decide +kernel) rfl
        have hK9 := hK.sub (tys' := []) [] rfl
        exact vx_widen (k := 1) (n := 6) (Nat.le_of_ble_eq_true rfl) (Nat.le_of_ble_eq_true rfl) (vx_out (fun x h9 => (hex x h9).elim) hlocks hcell hcv hcl (fun t ht hal => ⟨(3, u_4.2.2.1, u_4.1, u_4.2.1, u_4.2.2.1, u_4.2.2.2.1, u_4.2.2.2.2, fNm), ((fun e9 => ⟨by rw [e9], by rw [e9]⟩ : fp_beginNamed2 pfa pfp lxe lxa lxt lxp lxn lxl fBy fCo fTo fNm = ((1 : Int32), (0 : Int32), (3 : Int32), u_4.2.2.1, u_4.1, u_4.2.1, u_4.2.2.1, u_4.2.2.2.1, u_4.2.2.2.2, fNm) → _) ((by rw [fp_beginNamed2]; (try rw [if_pos c_1]); (try rw [← hq_u_4]); (try rw [xL_eq]); (try rw [if_pos c_11]); (try rw [← hq_r_13]); (try rw [xL_eq]); (try rw [if_neg c_14]); try rfl))), ⟨rfl, by rw [ht]; exact hP9, va_K.moved hal hK9, hD9⟩, hS.F ht⟩) hS.2.2 (Nat.le_of_ble_eq_true rfl) (Nat.le_of_ble_eq_true rfl))
    · refine lv_iconst (v := 1) hx hb dX7_beginNamed_56 (by decide) ?_
      refine lv_goto (tgt := 61) hx hb dX7_beginNamed_57 (by decide) ?_
      refine lv_iconst (v := 1) hx hb dX7_beginNamed_61 (by decide) ?_
      refine lv_aload_n hx hb dX7_beginNamed_62 rfl (lv_at hl 1 rfl) ?_
      refine va_get (D := (dC, dI)) (ci := 7) (v := .ref lx) (C := RX7) (T := TX7) (N := 9) hx hb htw inlX7 hown hK hP 0 rfl rfl 0 (by decide) (htw _ (ck_3 _ (List.mem_of_getElem? (i := 5) rfl))) (fun _ h9 => h9) rfl dX7_beginNamed_63 ?_
      refine va_get (D := (dC, dI)) (ci := 3) (v := .int u_4.2.2.1) (C := RX3) (T := TX3) (N := 9) hx hb htw inlX3 hown hK hP 5 rfl rfl 6 (by decide) (htw _ (ck_15 _ (List.mem_of_getElem? (i := 13) rfl))) (fun _ h9 => h9) rfl dX7_beginNamed_66 ?_
      refine xs_size (fun hHz => ?_)
      obtain ⟨hPc, hDc, hFc, hCc⟩ := zsub3 (ws' := [(eO7a pa lx bk pfa pfp psk phe phr phs pop)]) hP hD hS hA [0] (by decide) rfl
      have hKc := hK.sub (tys' := []) [] rfl
      refine vx_callv (vx_runV (As := [.int 1, .int 1, .int u_4.2.2.1]) (rest := []) ⟨hx, hb, hml, hown, htw⟩ (gp_refT l hst dC dI pa lx bk pfa pfp psk phe phr phs pop (1 : Int32) (1 : Int32) u_4.2.2.1 sL H.size (gp_beginNamed2_s10 )) (cwV 3 htw (xg_V (ck_16 _ (List.mem_of_getElem? (i := 6) rfl)) (ck_16 _ (List.mem_of_getElem? (i := 7) rfl)) (ck_16 _ (List.mem_of_getElem? (i := 8) rfl)) (ck_1 _ (List.mem_of_getElem? (i := 16) rfl)) (ck_16 _ (List.mem_of_getElem? (i := 9) rfl))) rfl rfl rfl (by exact ⟨rfl, hdc_15.1, hdc_15.2, hdd_48⟩) ⟨Nat.le_of_ble_eq_true rfl, Nat.le_of_ble_eq_true rfl⟩) ⟨fun a U g mk q => by obtain ⟨q0, q1, qP, qK, qD, qx0⟩ := q; exact ⟨q0, q1, qP, va_K.moved (u := U) (U := U.calling g mk a) (Vm.Alike.refl U.vm) qK, qD, xl.calling qx0⟩, va_recv hKc hPc (ci := 7) (q0 := 0) rfl rfl, fun U hU hW => ⟨rfl, by rw [hU], by rw [hU]; exact hPc, va_K.moved hW.alike hKc, hDc.weaken (fun _ _ _ _ => trivial), by rw [hU]; exact xl.warm hW ((xl.kept hXL hS.2.1).narrow hFc)⟩⟩ rfl rfl hl.1 rfl (lv_room (Nat.le_of_ble_eq_true rfl)) dX7_beginNamed_69 ⟨Nat.le_of_ble_eq_true rfl, Nat.le_of_ble_eq_true rfl⟩) hS (fun q _ h => hFc q h) hFc (fun q _ h => hFc q h) (fun E ce q9 u_28 t H1 locs ht hvm hw hB hz1 hk1 hS hcell hcv hcl => ?_) (fun u_30 t H1 locs ht hvm hw hB hz1 hk1 hS => hw.elim)
      obtain ⟨hE9, hB⟩ := hB
      subst hE9
      obtain ⟨hP1, hK1, hD1⟩ := hB
      rw [ht] at hP1
      have hK1 := va_K.moved hvm.symm hK1
      have hK1 : va_K (dC, dI) vwCl [] s := hK1
      obtain ⟨hP, hD⟩ := va_join (wr := [(eO0a bk bto bnm bla bsk bru bbo bdi bda bdk bdt bdp bno), (eA0 bto cTo 5 fTo), (eA4 bnm cNm 5 (fun k => some (Nm k))), (eA0 (Nm 2) cNr 12 (fNm 2)), (eO3a lx lby lfi lco lxe u_4.1 u_4.2.1 u_4.2.2.1 u_4.2.2.2.1 u_4.2.2.2.2), (eA0 lby cBy 900 fBy), (eA0 lco cCo 23 fCo)]) (w1 := [(eO7a pa lx bk 1 u_4.2.2.1 psk phe phr phs pop)]) hP hD [0] [1, 2, 3, 4, 5, 6, 7] hCc rfl (by decide) (by decide) hk1 hFc hP1 hD1
      generalize H1 = H at hP hS hcell ⊢
      obtain ⟨hP, hD⟩ := zre [(eO0a bk bto bnm bla bsk bru bbo bdi bda bdk bdt bdp bno), (eA0 bto cTo 5 fTo), (eA4 bnm cNm 5 (fun k => some (Nm k))), (eA0 (Nm 2) cNr 12 (fNm 2)), (eO3a lx lby lfi lco lxe u_4.1 u_4.2.1 u_4.2.2.1 u_4.2.2.2.1 u_4.2.2.2.2), (eA0 lby cBy 900 fBy), (eA0 lco cCo 23 fCo), (eO7a pa lx bk 1 u_4.2.2.1 psk phe phr phs pop)] hP hD rfl
      obtain ⟨hP9, hD9⟩ := zsub2 (ws' := [(eO7a pa lx bk 1 u_4.2.2.1 psk phe phr phs pop), (eO3a lx lby lfi lco lxe u_4.1 u_4.2.1 u_4.2.2.1 u_4.2.2.2.1 u_4.2.2.2.2), (eA0 lby cBy 900 fBy), (eA0 lco cCo 23 fCo), (eO0a bk bto bnm bla bsk bru bbo bdi bda bdk bdt bdp bno), (eA0 bto cTo 5 fTo), (eA4 bnm cNm 5 (fun k => some (Nm k))), (eA0 (Nm 2) cNr 12 (fNm 2))]) hP hD [7, 4, 5, 6, 0, 1, 2, 3] (by decide +kernel) rfl
      have hK9 := hK.sub (tys' := []) [] rfl
      exact vx_widen (k := 1) (n := 6) (Nat.le_of_ble_eq_true rfl) (Nat.le_of_ble_eq_true rfl) (vx_out (fun x h9 => (hex x h9).elim) hlocks hcell hcv hcl (fun t ht hal => ⟨(1, u_4.2.2.1, u_4.1, u_4.2.1, u_4.2.2.1, u_4.2.2.2.1, u_4.2.2.2.2, fNm), ((fun e9 => ⟨by rw [e9], by rw [e9]⟩ : fp_beginNamed2 pfa pfp lxe lxa lxt lxp lxn lxl fBy fCo fTo fNm = ((1 : Int32), (0 : Int32), (1 : Int32), u_4.2.2.1, u_4.1, u_4.2.1, u_4.2.2.1, u_4.2.2.2.1, u_4.2.2.2.2, fNm) → _) ((by rw [fp_beginNamed2]; (try rw [if_pos c_1]); (try rw [← hq_u_4]); (try rw [xL_eq]); (try rw [if_neg c_11]); try rfl))), ⟨rfl, by rw [ht]; exact hP9, va_K.moved hal hK9, hD9⟩, hS.F ht⟩) hS.2.2 (Nat.le_of_ble_eq_true rfl) (Nat.le_of_ble_eq_true rfl))
  · refine lv_iconst (v := 1) hx hb dX7_beginNamed_20 (by decide) ?_
    refine lv_goto (tgt := 25) hx hb dX7_beginNamed_21 (by decide) ?_
    refine lv_iconst (v := 2) hx hb dX7_beginNamed_25 (by decide) ?_
    refine lv_aload_n hx hb dX7_beginNamed_26 rfl (lv_at hl 1 rfl) ?_
    refine va_get (D := (dC, dI)) (ci := 7) (v := .ref lx) (C := RX7) (T := TX7) (N := 9) hx hb htw inlX7 hown hK hP 0 rfl rfl 0 (by decide) (htw _ (ck_3 _ (List.mem_of_getElem? (i := 5) rfl))) (fun _ h9 => h9) rfl dX7_beginNamed_27 ?_
    refine va_get (D := (dC, dI)) (ci := 3) (v := .int lxp) (C := RX3) (T := TX3) (N := 9) hx hb htw inlX3 hown hK hP 1 rfl rfl 6 (by decide) (htw _ (ck_15 _ (List.mem_of_getElem? (i := 13) rfl))) (fun _ h9 => h9) rfl dX7_beginNamed_30 ?_
    refine xs_size (fun hHz => ?_)
    obtain ⟨hPc, hDc, hFc, hCc⟩ := zsub3 (ws' := [(eO7a pa lx bk pfa pfp psk phe phr phs pop)]) hP hD hS hA [0] (by decide) rfl
    have hKc := hK.sub (tys' := []) [] rfl
    refine vx_callv (vx_runV (As := [.int 1, .int 2, .int lxp]) (rest := []) ⟨hx, hb, hml, hown, htw⟩ (gp_refT l hst dC dI pa lx bk pfa pfp psk phe phr phs pop (1 : Int32) (2 : Int32) lxp sL H.size (gp_beginNamed2_s11 )) (cwV 3 htw (xg_V (ck_16 _ (List.mem_of_getElem? (i := 6) rfl)) (ck_16 _ (List.mem_of_getElem? (i := 7) rfl)) (ck_16 _ (List.mem_of_getElem? (i := 8) rfl)) (ck_1 _ (List.mem_of_getElem? (i := 16) rfl)) (ck_16 _ (List.mem_of_getElem? (i := 9) rfl))) rfl rfl rfl (by exact ⟨rfl, hdc_15.1, hdc_15.2, hdd_48⟩) ⟨Nat.le_of_ble_eq_true rfl, Nat.le_of_ble_eq_true rfl⟩) ⟨fun a U g mk q => by obtain ⟨q0, q1, qP, qK, qD, qx0⟩ := q; exact ⟨q0, q1, qP, va_K.moved (u := U) (U := U.calling g mk a) (Vm.Alike.refl U.vm) qK, qD, xl.calling qx0⟩, va_recv hKc hPc (ci := 7) (q0 := 0) rfl rfl, fun U hU hW => ⟨rfl, by rw [hU], by rw [hU]; exact hPc, va_K.moved hW.alike hKc, hDc.weaken (fun _ _ _ _ => trivial), by rw [hU]; exact xl.warm hW ((xl.kept hXL hS.2.1).narrow hFc)⟩⟩ rfl rfl hl.1 rfl (lv_room (Nat.le_of_ble_eq_true rfl)) dX7_beginNamed_33 ⟨Nat.le_of_ble_eq_true rfl, Nat.le_of_ble_eq_true rfl⟩) hS (fun q _ h => hFc q h) hFc (fun q _ h => hFc q h) (fun E ce q9 u_31 t H1 locs ht hvm hw hB hz1 hk1 hS hcell hcv hcl => ?_) (fun u_33 t H1 locs ht hvm hw hB hz1 hk1 hS => hw.elim)
    obtain ⟨hE9, hB⟩ := hB
    subst hE9
    obtain ⟨hP1, hK1, hD1⟩ := hB
    rw [ht] at hP1
    have hK1 := va_K.moved hvm.symm hK1
    have hK1 : va_K (dC, dI) vwCl [] s := hK1
    obtain ⟨hP, hD⟩ := va_join (wr := [(eO3a lx lby lfi lco lxe lxa lxt lxp lxn lxl), (eA0 lby cBy 900 fBy), (eA0 lco cCo 23 fCo), (eO0a bk bto bnm bla bsk bru bbo bdi bda bdk bdt bdp bno), (eA0 bto cTo 5 fTo), (eA4 bnm cNm 5 (fun k => some (Nm k))), (eA0 (Nm 2) cNr 12 (fNm 2))]) (w1 := [(eO7a pa lx bk 2 lxp psk phe phr phs pop)]) hP hD [0] [1, 2, 3, 4, 5, 6, 7] hCc rfl (by decide) (by decide) hk1 hFc hP1 hD1
    generalize H1 = H at hP hS hcell ⊢
    obtain ⟨hP, hD⟩ := zre [(eO3a lx lby lfi lco lxe lxa lxt lxp lxn lxl), (eA0 lby cBy 900 fBy), (eA0 lco cCo 23 fCo), (eO0a bk bto bnm bla bsk bru bbo bdi bda bdk bdt bdp bno), (eA0 bto cTo 5 fTo), (eA4 bnm cNm 5 (fun k => some (Nm k))), (eA0 (Nm 2) cNr 12 (fNm 2)), (eO7a pa lx bk 2 lxp psk phe phr phs pop)] hP hD rfl
    obtain ⟨hP9, hD9⟩ := zsub2 (ws' := [(eO7a pa lx bk 2 lxp psk phe phr phs pop), (eO3a lx lby lfi lco lxe lxa lxt lxp lxn lxl), (eA0 lby cBy 900 fBy), (eA0 lco cCo 23 fCo), (eO0a bk bto bnm bla bsk bru bbo bdi bda bdk bdt bdp bno), (eA0 bto cTo 5 fTo), (eA4 bnm cNm 5 (fun k => some (Nm k))), (eA0 (Nm 2) cNr 12 (fNm 2))]) hP hD [7, 0, 1, 2, 3, 4, 5, 6] (by decide +kernel) rfl
    have hK9 := hK.sub (tys' := []) [] rfl
    exact vx_widen (k := 1) (n := 6) (Nat.le_of_ble_eq_true rfl) (Nat.le_of_ble_eq_true rfl) (vx_out (fun x h9 => (hex x h9).elim) hlocks hcell hcv hcl (fun t ht hal => ⟨(2, lxp, lxa, lxt, lxp, lxn, lxl, fNm), ((fun e9 => ⟨by rw [e9], by rw [e9]⟩ : fp_beginNamed2 pfa pfp lxe lxa lxt lxp lxn lxl fBy fCo fTo fNm = ((1 : Int32), (0 : Int32), (2 : Int32), lxp, lxa, lxt, lxp, lxn, lxl, fNm) → _) ((by rw [fp_beginNamed2]; (try rw [if_neg c_1]); try rfl))), ⟨rfl, by rw [ht]; exact hP9, va_K.moved hal hK9, hD9⟩, hS.F ht⟩) hS.2.2 (Nat.le_of_ble_eq_true rfl) (Nat.le_of_ble_eq_true rfl))

def fp_beginNamed3 (pfa : Int32) (pfp : Int32) (lxe : Int32) (lxa : Int32) (lxt : Int32) (lxp : Int32) (lxn : Int32) (lxl : Int32) (fBy : Nat → Int32) (fCo : Nat → Int32) (fTo : Nat → Int32) (fNm : Nat → Nat → Int32) : Int32 × Int32 × (Int32) × (Int32) × (Int32) × (Int32) × (Int32) × (Int32) × (Int32) × (Nat → Nat → Int32) := (if fTo ((3 : Int32).toNatClampNeg) < 4 then (xL ((fe_advance lxe lxa lxn lxl fBy fCo)) (fun u_4 => (if u_4.2.1 = 23 then (xL ((fb_find3 fTo fNm u_4.2.2.2.2)) (fun r_13 => (if r_13 = (-1) then (xL ((fe_advance lxe u_4.1 u_4.2.2.2.1 u_4.2.2.2.2 fBy fCo)) (fun u_18 => ((0 : Int32), fTo ((3 : Int32).toNatClampNeg), pfa, pfp, u_18.1, u_18.2.1, u_18.2.2.1, u_18.2.2.2.1, u_18.2.2.2.2, (va_up fNm 3 (upd (fNm 3) ((fTo ((3 : Int32).toNatClampNeg)).toNatClampNeg) u_4.2.2.2.2))))) else ((1 : Int32), (0 : Int32), (3 : Int32), u_4.2.2.1, u_4.1, u_4.2.1, u_4.2.2.1, u_4.2.2.2.1, u_4.2.2.2.2, fNm)))) else ((1 : Int32), (0 : Int32), (1 : Int32), u_4.2.2.1, u_4.1, u_4.2.1, u_4.2.2.1, u_4.2.2.2.1, u_4.2.2.2.2, fNm)))) else ((1 : Int32), (0 : Int32), (2 : Int32), lxp, lxa, lxt, lxp, lxn, lxl, fNm))
theorem gp_beginNamed3_s0  : (0 : Int32) = 0 := (by decide)
theorem gp_beginNamed3_s1  : (0 : Int32) = 0 := (by decide)
theorem gp_beginNamed3_s2  : (0 : Int32) = 0 := (by decide)
theorem gp_beginNamed3_s3 {y0 : Int32} (h0 : y0 < 4) (h1 : ¬ (y0 < 0)) (h2 : y0 ≤ 4) : ¬ (y0 < 0) ∧ ¬ (12 ≤ y0) := by lia
theorem gp_beginNamed3_s4 {y0 : Int32} (h0 : ¬ (y0 < 0)) : ¬ (y0 < 0) := h0
theorem gp_beginNamed3_s5 {y0 : Int32} (h0 : ¬ (y0 < 0)) : ¬ (y0 < 0) := h0
theorem gp_beginNamed3_s6 {y0 : Int32} (h0 : y0 < 4) (h1 : ¬ (y0 < 0)) (h2 : y0 ≤ 4) : ¬ (y0 < 0) := h1
theorem gp_beginNamed3_s7 {y0 : Int32} (h0 : y0 < 4) (h1 : ¬ (y0 < 0)) (h2 : y0 ≤ 4) : y0 < 4 := h0
theorem gp_beginNamed3_s8 {y0 : Int32} (h0 : y0 < 4) (h1 : ¬ (y0 < 0)) (h2 : y0 ≤ 4) : y0 = y0 := by lia
theorem gp_beginNamed3_s9  : ¬ ((1 : Int32) = 0) := (by decide)
theorem gp_beginNamed3_s10  : ¬ ((1 : Int32) = 0) := (by decide)
theorem gp_beginNamed3_s11  : ¬ ((1 : Int32) = 0) := (by decide)
set_option maxHeartbeats 4000000 in
set_option maxRecDepth 100000 in
theorem gp_beginNamed3 (l : Launch) (hst : l.stackTraces = false) (dC : Nat → ClassId) (dI : Nat → Nat → Nat) (pa : Nat) (lx : Nat) (bk : Nat) (pfa : Int32) (pfp : Int32) (psk : Int32) (phe : Nat) (phr : Nat) (phs : Int32) (pop : Int32) (lby : Nat) (lfi : Int32) (lco : Nat) (lxe : Int32) (lxa : Int32) (lxt : Int32) (lxp : Int32) (lxn : Int32) (lxl : Int32) (cBy : ClassId) (fBy : Nat → Int32) (cCo : ClassId) (fCo : Nat → Int32) (bto : Nat) (bnm : Nat) (bla : Nat) (bsk : Nat) (bru : Nat) (bbo : Nat) (bdi : Nat) (bda : Nat) (bdk : Nat) (bdt : Nat) (bdp : Nat) (bno : Nat) (cTo : ClassId) (fTo : Nat → Int32) (cNm : ClassId) (Nm : Nat → Nat) (cNr : ClassId) (fNm : Nat → Nat → Int32) (sL : Nat → Nat) (sz : Nat) (h0_lxa : ¬ lxa < 0) (h9_lxe : lxe ≤ 900) (hT : xT fTo) : vx_Met l yX7_beginNamed (Cond.code yX7_beginNamed cX7_beginNamed 3 (some .int) :: wsL_law) ({ frames := 7, cells := 1, slots := 6, locals := 105 }) (va_Pc [.ref pa, .int 3] (fun U => U.heap.size = sz ∧ va_P (dC, dI) vwCl [(eO7a pa lx bk pfa pfp psk phe phr phs pop), (eO3a lx lby lfi lco lxe lxa lxt lxp lxn lxl), (eA0 lby cBy 900 fBy), (eA0 lco cCo 23 fCo), (eO0a bk bto bnm bla bsk bru bbo bdi bda bdk bdt bdp bno), (eA0 bto cTo 5 fTo), (eA4 bnm cNm 5 (fun k => some (Nm k))), (eA0 (Nm 3) cNr 12 (fNm 3))] U.heap ∧ va_K (dC, dI) vwCl [(cBy, .byte), (cCo, .int), (cTo, .int), (cNm, .array .int), (cNr, .int)] U ∧ va_D (fun _ => True) [(eO7a pa lx bk pfa pfp psk phe phr phs pop), (eO3a lx lby lfi lco lxe lxa lxt lxp lxn lxl), (eA0 lby cBy 900 fBy), (eA0 lco cCo 23 fCo), (eO0a bk bto bnm bla bsk bru bbo bdi bda bdk bdt bdp bno), (eA0 bto cTo 5 fTo), (eA4 bnm cNm 5 (fun k => some (Nm k))), (eA0 (Nm 3) cNr 12 (fNm 3))] ∧ xl sL (va_A [(eO7a pa lx bk pfa pfp psk phe phr phs pop), (eO3a lx lby lfi lco lxe lxa lxt lxp lxn lxl), (eA0 lby cBy 900 fBy), (eA0 lco cCo 23 fCo), (eO0a bk bto bnm bla bsk bru bbo bdi bda bdk bdt bdp bno), (eA0 bto cTo 5 fTo), (eA4 bnm cNm 5 (fun k => some (Nm k))), (eA0 (Nm 3) cNr 12 (fNm 3))] sz) U U.heap)) (va_Qi (fun (r : Int32) (u : (Int32) × (Int32) × (Int32) × (Int32) × (Int32) × (Int32) × (Int32) × (Nat → Nat → Int32)) => ((fp_beginNamed3 pfa pfp lxe lxa lxt lxp lxn lxl fBy fCo fTo fNm).1 = 0 ∧ r = (fp_beginNamed3 pfa pfp lxe lxa lxt lxp lxn lxl fBy fCo fTo fNm).2.1 ∧ u = (fp_beginNamed3 pfa pfp lxe lxa lxt lxp lxn lxl fBy fCo fTo fNm).2.2) ∧ (¬ u.2.2.1 < 0) ∧ (¬ r < 0) ∧ (r < 4) ∧ (r = fTo ((3 : Int32).toNatClampNeg))) (fun (u : (Int32) × (Int32) × (Int32) × (Int32) × (Int32) × (Int32) × (Int32) × (Nat → Nat → Int32)) t => (va_P (dC, dI) vwCl [(eO7a pa lx bk u.1 u.2.1 psk phe phr phs pop), (eO3a lx lby lfi lco lxe u.2.2.1 u.2.2.2.1 u.2.2.2.2.1 u.2.2.2.2.2.1 u.2.2.2.2.2.2.1), (eA0 lby cBy 900 fBy), (eA0 lco cCo 23 fCo), (eO0a bk bto bnm bla bsk bru bbo bdi bda bdk bdt bdp bno), (eA0 bto cTo 5 fTo), (eA4 bnm cNm 5 (fun k => some (Nm k))), (eA0 (Nm 3) cNr 12 (u.2.2.2.2.2.2.2 3))] t.heap ∧ va_K (dC, dI) vwCl [] t ∧ va_D (va_A [(eO7a pa lx bk pfa pfp psk phe phr phs pop), (eO3a lx lby lfi lco lxe lxa lxt lxp lxn lxl), (eA0 lby cBy 900 fBy), (eA0 lco cCo 23 fCo), (eO0a bk bto bnm bla bsk bru bbo bdi bda bdk bdt bdp bno), (eA0 bto cTo 5 fTo), (eA4 bnm cNm 5 (fun k => some (Nm k))), (eA0 (Nm 3) cNr 12 (fNm 3))] sz) [(eO7a pa lx bk u.1 u.2.1 psk phe phr phs pop), (eO3a lx lby lfi lco lxe u.2.2.1 u.2.2.2.1 u.2.2.2.2.1 u.2.2.2.2.2.1 u.2.2.2.2.2.2.1), (eA0 lby cBy 900 fBy), (eA0 lco cCo 23 fCo), (eO0a bk bto bnm bla bsk bru bbo bdi bda bdk bdt bdp bno), (eA0 bto cTo 5 fTo), (eA4 bnm cNm 5 (fun k => some (Nm k))), (eA0 (Nm 3) cNr 12 (u.2.2.2.2.2.2.2 3))]) ∧ t.heap.size = sz) (va_A [(eO7a pa lx bk pfa pfp psk phe phr phs pop), (eO3a lx lby lfi lco lxe lxa lxt lxp lxn lxl), (eA0 lby cBy 900 fBy), (eA0 lco cCo 23 fCo), (eO0a bk bto bnm bla bsk bru bbo bdi bda bdk bdt bdp bno), (eA0 bto cTo 5 fTo), (eA4 bnm cNm 5 (fun k => some (Nm k))), (eA0 (Nm 3) cNr 12 (fNm 3))] sz)) (vx_X (fun (u : (Int32) × (Int32) × (Int32) × (Int32) × (Int32) × (Int32) × (Int32) × (Nat → Nat → Int32)) => (fp_beginNamed3 pfa pfp lxe lxa lxt lxp lxn lxl fBy fCo fTo fNm).1 = 1 ∧ u = (fp_beginNamed3 pfa pfp lxe lxa lxt lxp lxn lxl fBy fCo fTo fNm).2.2) (fun (E : String) (u : (Int32) × (Int32) × (Int32) × (Int32) × (Int32) × (Int32) × (Int32) × (Nat → Nat → Int32)) (t : State) => E = "java/lang/IllegalStateException" ∧ va_P (dC, dI) vwCl [(eO7a pa lx bk u.1 u.2.1 psk phe phr phs pop), (eO3a lx lby lfi lco lxe u.2.2.1 u.2.2.2.1 u.2.2.2.2.1 u.2.2.2.2.2.1 u.2.2.2.2.2.2.1), (eA0 lby cBy 900 fBy), (eA0 lco cCo 23 fCo), (eO0a bk bto bnm bla bsk bru bbo bdi bda bdk bdt bdp bno), (eA0 bto cTo 5 fTo), (eA4 bnm cNm 5 (fun k => some (Nm k))), (eA0 (Nm 3) cNr 12 (u.2.2.2.2.2.2.2 3))] t.heap ∧ va_K (dC, dI) vwCl [] t ∧ va_D (va_A [(eO7a pa lx bk pfa pfp psk phe phr phs pop), (eO3a lx lby lfi lco lxe lxa lxt lxp lxn lxl), (eA0 lby cBy 900 fBy), (eA0 lco cCo 23 fCo), (eO0a bk bto bnm bla bsk bru bbo bdi bda bdk bdt bdp bno), (eA0 bto cTo 5 fTo), (eA4 bnm cNm 5 (fun k => some (Nm k))), (eA0 (Nm 3) cNr 12 (fNm 3))] sz) [(eO7a pa lx bk u.1 u.2.1 psk phe phr phs pop), (eO3a lx lby lfi lco lxe u.2.2.1 u.2.2.2.1 u.2.2.2.2.1 u.2.2.2.2.2.1 u.2.2.2.2.2.2.1), (eA0 lby cBy 900 fBy), (eA0 lco cCo 23 fCo), (eO0a bk bto bnm bla bsk bru bbo bdi bda bdk bdt bdp bno), (eA0 bto cTo 5 fTo), (eA4 bnm cNm 5 (fun k => some (Nm k))), (eA0 (Nm 3) cNr 12 (u.2.2.2.2.2.2.2 3))]) (va_A [(eO7a pa lx bk pfa pfp psk phe phr phs pop), (eO3a lx lby lfi lco lxe lxa lxt lxp lxn lxl), (eA0 lby cBy 900 fBy), (eA0 lco cCo 23 fCo), (eO0a bk bto bnm bla bsk bru bbo bdi bda bdk bdt bdp bno), (eA0 bto cTo 5 fTo), (eA4 bnm cNm 5 (fun k => some (Nm k))), (eA0 (Nm 3) cNr 12 (fNm 3))] sz)) 1 6 (va_A [(eO7a pa lx bk pfa pfp psk phe phr phs pop), (eO3a lx lby lfi lco lxe lxa lxt lxp lxn lxl), (eA0 lby cBy 900 fBy), (eA0 lco cCo 23 fCo), (eO0a bk bto bnm bla bsk bru bbo bdi bda bdk bdt bdp bno), (eA0 bto cTo 5 fTo), (eA4 bnm cNm 5 (fun k => some (Nm k))), (eA0 (Nm 3) cNr 12 (fNm 3))] sz) := by
  refine vx_ofW (cc := cX7_beginNamed) (maxL := 3) (ret := (some .int)) (by decide) rfl ?_
  intro p e s m args below meth c s₁ B hml hex hv
  obtain ⟨rfl, hsz, hP, hK, hD0, hXL⟩ := hv
  have hx := B.exec
  have hb := B.bytes
  have hr := B.returns
  have hts := atoms_spec (ws := Cond.code yX7_beginNamed cX7_beginNamed 3 (some .int) :: wsL_law) B.pre
  have htw : ∀ w ∈ wsL_law, w.before _ s = true := fun w h => hts w (List.mem_cons_of_mem _ h)
  have hown : s.vm.findClass RX7 = some m.cls := findClass_of_methodNamed B.named
  have hlocks := B.notSynchronized
  subst hsz
  have hD := hD0.self (sz := s.heap.size)
  generalize hAe : va_A [(eO7a pa lx bk pfa pfp psk phe phr phs pop), (eO3a lx lby lfi lco lxe lxa lxt lxp lxn lxl), (eA0 lby cBy 900 fBy), (eA0 lco cCo 23 fCo), (eO0a bk bto bnm bla bsk bru bbo bdi bda bdk bdt bdp bno), (eA0 bto cTo 5 fTo), (eA4 bnm cNm 5 (fun k => some (Nm k))), (eA0 (Nm 3) cNr 12 (fNm 3))] s.heap.size = A at hD hXL ⊢
  have hA : ∀ q : Nat, s.heap.size ≤ q → A q := fun q h => by rw [← hAe]; exact Or.inr h
  obtain ⟨H, rH⟩ : ∃ z : Heap, z = s.heap := ⟨_, rfl⟩
  have hS : va_S A s.heap H [] := by rw [rH]; exact va_S.rf
  have hP : va_P (dC, dI) vwCl [(eO7a pa lx bk pfa pfp psk phe phr phs pop), (eO3a lx lby lfi lco lxe lxa lxt lxp lxn lxl), (eA0 lby cBy 900 fBy), (eA0 lco cCo 23 fCo), (eO0a bk bto bnm bla bsk bru bbo bdi bda bdk bdt bdp bno), (eA0 bto cTo 5 fTo), (eA4 bnm cNm 5 (fun k => some (Nm k))), (eA0 (Nm 3) cNr 12 (fNm 3))] H := by rw [rH]; exact hP
  rw [← rH]
  have hl := lv_entry ([.ref pa, .int 3]) (n := 3) (Nat.le_of_ble_eq_true rfl)
  rw [lg_entry_eq]
  generalize (lg_sl ([.ref pa, .int 3]) ++ List.replicate (3 - (lg_sl ([.ref pa, .int 3])).length) Slot.unset).toArray = ls at hl ⊢
  have hl : lv_has ls 3 [(0, .ref pa), (1, .int 3)] := hl
  refine lv_aload_n hx hb dX7_beginNamed_0 rfl (lv_at hl 0 rfl) ?_
  refine va_get (D := (dC, dI)) (ci := 7) (v := .ref bk) (C := RX7) (T := TX7) (N := 9) hx hb htw inlX7 hown hK hP 0 rfl rfl 1 (by decide) (htw _ (ck_13 _ (List.mem_of_getElem? (i := 6) rfl))) (fun _ h9 => h9) rfl dX7_beginNamed_1 ?_
  refine va_get (D := (dC, dI)) (ci := 0) (v := .ref bto) (C := RX0) (T := TX0) (N := 12) hx hb htw inlX0 hown hK hP 4 rfl rfl 0 (by decide) (htw _ (ck_15 _ (List.mem_of_getElem? (i := 23) rfl))) (fun _ h9 => h9) rfl dX7_beginNamed_4 ?_
  refine lv_iload_n hx hb dX7_beginNamed_7 rfl (lv_at hl 1 rfl) ?_
  refine va_iald hx hb hK hP 5 2 rfl rfl (by unfold vp_in; decide) dX7_beginNamed_8 ?_
  refine lv_istore_n (lv' := [(2, .int (fTo ((3 : Int32).toNatClampNeg))), (0, .ref pa), (1, .int 3)]) hx hb dX7_beginNamed_9 rfl hl (by decide) rfl (fun ls hl => ?_)
  refine lv_aload_n hx hb dX7_beginNamed_10 rfl (lv_at hl 1 rfl) ?_
  refine lv_iload_n hx hb dX7_beginNamed_11 rfl (lv_at hl 0 rfl) ?_
  refine va_getsN hx hb hXL.2.1 hS hown (va_Nw.use rfl (hXL.2.2.2.2.2.2.2.1)) (fun _ h9 => h9) dX7_beginNamed_12 ?_
  refine lv_iload_n hx hb dX7_beginNamed_15 rfl (lv_at hl 2 rfl) ?_
  refine va_ti hx hb hXL.2.2.1 hS (by unfold vp_in; decide) (v := .int 4) rfl dX7_beginNamed_16 ?_
  refine lv_icmp_lt (tgt := 24) hx hb dX7_beginNamed_17 (by decide) (fun c_1 => ?_) (fun c_1 => ?_)
  · refine lv_iconst (v := 0) hx hb dX7_beginNamed_24 (by decide) ?_
    refine lv_iconst (v := 2) hx hb dX7_beginNamed_25 (by decide) ?_
    refine lv_aload_n hx hb dX7_beginNamed_26 rfl (lv_at hl 1 rfl) ?_
    refine va_get (D := (dC, dI)) (ci := 7) (v := .ref lx) (C := RX7) (T := TX7) (N := 9) hx hb htw inlX7 hown hK hP 0 rfl rfl 0 (by decide) (htw _ (ck_3 _ (List.mem_of_getElem? (i := 5) rfl))) (fun _ h9 => h9) rfl dX7_beginNamed_27 ?_
    refine va_get (D := (dC, dI)) (ci := 3) (v := .int lxp) (C := RX3) (T := TX3) (N := 9) hx hb htw inlX3 hown hK hP 1 rfl rfl 6 (by decide) (htw _ (ck_15 _ (List.mem_of_getElem? (i := 13) rfl))) (fun _ h9 => h9) rfl dX7_beginNamed_30 ?_
    have hPc := hP.sub (ws' := []) [] rfl
    have hKc := hK.sub (tys' := []) [] rfl
    refine va_csv (W.runV (As := [.int 0, .int 2, .int lxp]) (rest := []) ⟨hx, hb, hml, hown, htw⟩ (gp_ref0 l dC dI (0 : Int32) (2 : Int32) lxp pa (gp_beginNamed3_s0 )) (cwV 3 htw (xg_V (ck_16 _ (List.mem_of_getElem? (i := 6) rfl)) (ck_16 _ (List.mem_of_getElem? (i := 7) rfl)) (ck_16 _ (List.mem_of_getElem? (i := 8) rfl)) (ck_1 _ (List.mem_of_getElem? (i := 16) rfl)) (ck_16 _ (List.mem_of_getElem? (i := 9) rfl))) rfl rfl rfl (by exact ⟨rfl, hdc_15.1, hdc_15.2, hdd_48⟩) ⟨Nat.le_of_ble_eq_true rfl, Nat.le_of_ble_eq_true rfl⟩) ⟨fun a U g mk q => by obtain ⟨q0, qP, qK⟩ := q; exact ⟨q0, qP, va_K.moved (u := U) (U := U.calling g mk a) (Vm.Alike.refl U.vm) qK⟩, va_recv hK hP (ci := 7) (q0 := 0) rfl rfl, fun U hU hW => ⟨rfl, by rw [hU]; exact hPc, va_K.moved hW.alike hKc⟩⟩ rfl rfl hl.1 rfl (lv_room (Nat.le_of_ble_eq_true rfl)) dX7_beginNamed_33 ⟨Nat.le_of_ble_eq_true rfl, Nat.le_of_ble_eq_true rfl⟩) (fun hw => ?_)
    try dsimp only at hw
    refine lv_aload_n hx hb dX7_beginNamed_36 rfl (lv_at hl 1 rfl) ?_
    refine va_get (D := (dC, dI)) (ci := 7) (v := .ref lx) (C := RX7) (T := TX7) (N := 9) hx hb htw inlX7 hown hK hP 0 rfl rfl 0 (by decide) (htw _ (ck_3 _ (List.mem_of_getElem? (i := 5) rfl))) (fun _ h9 => h9) rfl dX7_beginNamed_37 ?_
    obtain ⟨hPc, hDc, hFc, hCc⟩ := zsub3 (ws' := [(eO3a lx lby lfi lco lxe lxa lxt lxp lxn lxl), (eA0 lby cBy 900 fBy), (eA0 lco cCo 23 fCo)]) hP hD hS hA [1, 2, 3] (by decide) rfl
    have hKc := hK.sub (tys' := [(cBy, .byte), (cCo, .int)]) [0, 1] rfl
    refine va_callv (va_runV (As := []) (rest := []) ⟨hx, hb, hml, hown, htw⟩ (gz_advance l dC dI lx lby lfi lco lxe lxa lxt lxp lxn lxl cBy fBy cCo fCo H.size h0_lxa h9_lxe) (cwV 0 htw (xg_V (ck_16 _ (List.mem_of_getElem? (i := 11) rfl)) (ck_14 _ (List.mem_of_getElem? (i := 13) rfl)) (ck_14 _ (List.mem_of_getElem? (i := 14) rfl)) (ck_3 _ (List.mem_of_getElem? (i := 4) rfl)) (ck_14 _ (List.mem_of_getElem? (i := 15) rfl))) rfl rfl rfl (by exact ⟨rfl, hdc_4.1, hdc_4.2, hdd_13⟩) ⟨Nat.le_of_ble_eq_true rfl, Nat.le_of_ble_eq_true rfl⟩) ⟨fun a U g mk q => by obtain ⟨q0, q1, qP, qK, qD⟩ := q; exact ⟨q0, q1, qP, va_K.moved (u := U) (U := U.calling g mk a) (Vm.Alike.refl U.vm) qK, qD⟩, va_recv hKc hPc (ci := 3) (q0 := 0) rfl rfl, fun U hU hW => ⟨rfl, by rw [hU], by rw [hU]; exact hPc, va_K.moved hW.alike hKc, hDc.weaken (fun _ _ _ _ => trivial)⟩⟩ rfl rfl hl.1 rfl (lv_room (Nat.le_of_ble_eq_true rfl)) dX7_beginNamed_40 ⟨Nat.le_of_ble_eq_true rfl, Nat.le_of_ble_eq_true rfl⟩) hS (fun q _ h => hFc q h) hFc (fun u_4 t H1 locs ht hvm hw hB hz1 hk1 hS => ?_)
    try dsimp only at hw
    obtain ⟨hP1, hK1, hD1⟩ := hB
    rw [ht] at hP1
    have hK1 := va_K.moved hvm.symm hK1
    have hK1 : va_K (dC, dI) vwCl [] s := hK1
    obtain ⟨hP, hD⟩ := va_join (wr := [(eO7a pa lx bk pfa pfp psk phe phr phs pop), (eO0a bk bto bnm bla bsk bru bbo bdi bda bdk bdt bdp bno), (eA0 bto cTo 5 fTo), (eA4 bnm cNm 5 (fun k => some (Nm k))), (eA0 (Nm 3) cNr 12 (fNm 3))]) (w1 := [(eO3a lx lby lfi lco lxe u_4.1 u_4.2.1 u_4.2.2.1 u_4.2.2.2.1 u_4.2.2.2.2), (eA0 lby cBy 900 fBy), (eA0 lco cCo 23 fCo)]) hP hD [1, 2, 3] [0, 4, 5, 6, 7] hCc rfl (by decide) (by decide) hk1 hFc hP1 hD1
    generalize H1 = H at hP hS ⊢
    obtain ⟨hP, hD⟩ := zre [(eO7a pa lx bk pfa pfp psk phe phr phs pop), (eO0a bk bto bnm bla bsk bru bbo bdi bda bdk bdt bdp bno), (eA0 bto cTo 5 fTo), (eA4 bnm cNm 5 (fun k => some (Nm k))), (eA0 (Nm 3) cNr 12 (fNm 3)), (eO3a lx lby lfi lco lxe u_4.1 u_4.2.1 u_4.2.2.1 u_4.2.2.2.1 u_4.2.2.2.2), (eA0 lby cBy 900 fBy), (eA0 lco cCo 23 fCo)] hP hD rfl
    refine W.widen (k := 0) (n := 0) (by omega) (by omega) ?_
    obtain ⟨hw, hp_10⟩ := hw
    have hq_u_4 : u_4 = (fe_advance lxe lxa lxn lxl fBy fCo) := hw
    refine lv_aload_n hx hb dX7_beginNamed_43 rfl (lv_at hl 1 rfl) ?_
    refine lv_aload_n hx hb dX7_beginNamed_44 rfl (lv_at hl 1 rfl) ?_
    refine va_get (D := (dC, dI)) (ci := 7) (v := .ref lx) (C := RX7) (T := TX7) (N := 9) hx hb htw inlX7 hown hK hP 0 rfl rfl 0 (by decide) (htw _ (ck_3 _ (List.mem_of_getElem? (i := 5) rfl))) (fun _ h9 => h9) rfl dX7_beginNamed_45 ?_
    refine va_get (D := (dC, dI)) (ci := 3) (v := .int u_4.2.1) (C := RX3) (T := TX3) (N := 9) hx hb htw inlX3 hown hK hP 5 rfl rfl 5 (by decide) (htw _ (ck_13 _ (List.mem_of_getElem? (i := 9) rfl))) (fun _ h9 => h9) rfl dX7_beginNamed_48 ?_
    refine lv_bipush (v := 23) hx hb dX7_beginNamed_51 (by decide) ?_
    refine lv_icmp_eq (tgt := 60) hx hb dX7_beginNamed_53 (by decide) (fun c_11 => ?_) (fun c_11 => ?_)
    · refine lv_iconst (v := 0) hx hb dX7_beginNamed_60 (by decide) ?_
      refine lv_iconst (v := 1) hx hb dX7_beginNamed_61 (by decide) ?_
      refine lv_aload_n hx hb dX7_beginNamed_62 rfl (lv_at hl 1 rfl) ?_
      refine va_get (D := (dC, dI)) (ci := 7) (v := .ref lx) (C := RX7) (T := TX7) (N := 9) hx hb htw inlX7 hown hK hP 0 rfl rfl 0 (by decide) (htw _ (ck_3 _ (List.mem_of_getElem? (i := 5) rfl))) (fun _ h9 => h9) rfl dX7_beginNamed_63 ?_
      refine va_get (D := (dC, dI)) (ci := 3) (v := .int u_4.2.2.1) (C := RX3) (T := TX3) (N := 9) hx hb htw inlX3 hown hK hP 5 rfl rfl 6 (by decide) (htw _ (ck_15 _ (List.mem_of_getElem? (i := 13) rfl))) (fun _ h9 => h9) rfl dX7_beginNamed_66 ?_
      have hPc := hP.sub (ws' := []) [] rfl
      have hKc := hK.sub (tys' := []) [] rfl
      refine va_csv (W.runV (As := [.int 0, .int 1, .int u_4.2.2.1]) (rest := []) ⟨hx, hb, hml, hown, htw⟩ (gp_ref0 l dC dI (0 : Int32) (1 : Int32) u_4.2.2.1 pa (gp_beginNamed3_s1 )) (cwV 3 htw (xg_V (ck_16 _ (List.mem_of_getElem? (i := 6) rfl)) (ck_16 _ (List.mem_of_getElem? (i := 7) rfl)) (ck_16 _ (List.mem_of_getElem? (i := 8) rfl)) (ck_1 _ (List.mem_of_getElem? (i := 16) rfl)) (ck_16 _ (List.mem_of_getElem? (i := 9) rfl))) rfl rfl rfl (by exact ⟨rfl, hdc_15.1, hdc_15.2, hdd_48⟩) ⟨Nat.le_of_ble_eq_true rfl, Nat.le_of_ble_eq_true rfl⟩) ⟨fun a U g mk q => by obtain ⟨q0, qP, qK⟩ := q; exact ⟨q0, qP, va_K.moved (u := U) (U := U.calling g mk a) (Vm.Alike.refl U.vm) qK⟩, va_recv hK hP (ci := 7) (q0 := 0) rfl rfl, fun U hU hW => ⟨rfl, by rw [hU]; exact hPc, va_K.moved hW.alike hKc⟩⟩ rfl rfl hl.1 rfl (lv_room (Nat.le_of_ble_eq_true rfl)) dX7_beginNamed_69 ⟨Nat.le_of_ble_eq_true rfl, Nat.le_of_ble_eq_true rfl⟩) (fun hw => ?_)
      try dsimp only at hw
      refine lv_aload_n hx hb dX7_beginNamed_72 rfl (lv_at hl 1 rfl) ?_
      refine lv_aload_n hx hb dX7_beginNamed_73 rfl (lv_at hl 1 rfl) ?_
      refine va_get (D := (dC, dI)) (ci := 7) (v := .ref bk) (C := RX7) (T := TX7) (N := 9) hx hb htw inlX7 hown hK hP 0 rfl rfl 1 (by decide) (htw _ (ck_13 _ (List.mem_of_getElem? (i := 6) rfl))) (fun _ h9 => h9) rfl dX7_beginNamed_74 ?_
      refine lv_iload_n hx hb dX7_beginNamed_77 rfl (lv_at hl 2 rfl) ?_
      refine lv_aload_n hx hb dX7_beginNamed_78 rfl (lv_at hl 1 rfl) ?_
      refine va_get (D := (dC, dI)) (ci := 7) (v := .ref lx) (C := RX7) (T := TX7) (N := 9) hx hb htw inlX7 hown hK hP 0 rfl rfl 0 (by decide) (htw _ (ck_3 _ (List.mem_of_getElem? (i := 5) rfl))) (fun _ h9 => h9) rfl dX7_beginNamed_79 ?_
      refine va_get (D := (dC, dI)) (ci := 3) (v := .int u_4.2.2.2.2) (C := RX3) (T := TX3) (N := 9) hx hb htw inlX3 hown hK hP 5 rfl rfl 8 (by decide) (htw _ (ck_16 _ (List.mem_of_getElem? (i := 4) rfl))) (fun _ h9 => h9) rfl dX7_beginNamed_82 ?_
      have hPc := hP.sub (ws' := [(eO0a bk bto bnm bla bsk bru bbo bdi bda bdk bdt bdp bno), (eA0 bto cTo 5 fTo), (eA4 bnm cNm 5 (fun k => some (Nm k))), (eA0 (Nm 3) cNr 12 (fNm 3))]) [1, 2, 3, 4] rfl
      have hKc := hK.sub (tys' := [(cTo, .int), (cNm, .array .int), (cNr, .int)]) [2, 3, 4] rfl
      refine vp_callSi (W.runV (As := [.int 3, .int u_4.2.2.2.2]) (rest := [.ref pa]) ⟨hx, hb, hml, hown, htw⟩ (gb_find3 l dC dI bk bto bnm bla bsk bru bbo bdi bda bdk bdt bdp bno cTo fTo cNm Nm cNr fNm u_4.2.2.2.2) (cwV 2 htw (xg_V (ck_16 _ (List.mem_of_getElem? (i := 12) rfl)) (ck_16 _ (List.mem_of_getElem? (i := 13) rfl)) (ck_16 _ (List.mem_of_getElem? (i := 14) rfl)) (ck_1 _ (List.mem_of_getElem? (i := 20) rfl)) (ck_16 _ (List.mem_of_getElem? (i := 15) rfl))) rfl rfl rfl (by exact ⟨rfl, hdc_6.1, hdc_6.2, hdd_7⟩) ⟨Nat.le_of_ble_eq_true rfl, Nat.le_of_ble_eq_true rfl⟩) ⟨fun a U g mk q => by obtain ⟨q0, qP, qK⟩ := q; exact ⟨q0, qP, va_K.moved (u := U) (U := U.calling g mk a) (Vm.Alike.refl U.vm) qK⟩, va_recv hKc hPc (ci := 0) (q0 := 0) rfl rfl, fun U hU hW => ⟨rfl, by rw [hU]; exact hPc, va_K.moved hW.alike hKc⟩⟩ rfl rfl hl.1 rfl (lv_room (Nat.le_of_ble_eq_true rfl)) dX7_beginNamed_85 ⟨Nat.le_of_ble_eq_true rfl, Nat.le_of_ble_eq_true rfl⟩) (fun r_13 hw => ?_)
      try dsimp only at hw
      have hq_r_13 : r_13 = (fb_find3 fTo fNm u_4.2.2.2.2) := hw
      refine lv_iconst (v := (-1)) hx hb dX7_beginNamed_88 (by decide) ?_
      refine lv_icmp_eq (tgt := 96) hx hb dX7_beginNamed_89 (by decide) (fun c_14 => ?_) (fun c_14 => ?_)
      · refine lv_iconst (v := 0) hx hb dX7_beginNamed_96 (by decide) ?_
        refine lv_iconst (v := 3) hx hb dX7_beginNamed_97 (by decide) ?_
        refine lv_aload_n hx hb dX7_beginNamed_98 rfl (lv_at hl 1 rfl) ?_
        refine va_get (D := (dC, dI)) (ci := 7) (v := .ref lx) (C := RX7) (T := TX7) (N := 9) hx hb htw inlX7 hown hK hP 0 rfl rfl 0 (by decide) (htw _ (ck_3 _ (List.mem_of_getElem? (i := 5) rfl))) (fun _ h9 => h9) rfl dX7_beginNamed_99 ?_
        refine va_get (D := (dC, dI)) (ci := 3) (v := .int u_4.2.2.1) (C := RX3) (T := TX3) (N := 9) hx hb htw inlX3 hown hK hP 5 rfl rfl 6 (by decide) (htw _ (ck_15 _ (List.mem_of_getElem? (i := 13) rfl))) (fun _ h9 => h9) rfl dX7_beginNamed_102 ?_
        have hPc := hP.sub (ws' := []) [] rfl
        have hKc := hK.sub (tys' := []) [] rfl
        refine va_csv (W.runV (As := [.int 0, .int 3, .int u_4.2.2.1]) (rest := []) ⟨hx, hb, hml, hown, htw⟩ (gp_ref0 l dC dI (0 : Int32) (3 : Int32) u_4.2.2.1 pa (gp_beginNamed3_s2 )) (cwV 3 htw (xg_V (ck_16 _ (List.mem_of_getElem? (i := 6) rfl)) (ck_16 _ (List.mem_of_getElem? (i := 7) rfl)) (ck_16 _ (List.mem_of_getElem? (i := 8) rfl)) (ck_1 _ (List.mem_of_getElem? (i := 16) rfl)) (ck_16 _ (List.mem_of_getElem? (i := 9) rfl))) rfl rfl rfl (by exact ⟨rfl, hdc_15.1, hdc_15.2, hdd_48⟩) ⟨Nat.le_of_ble_eq_true rfl, Nat.le_of_ble_eq_true rfl⟩) ⟨fun a U g mk q => by obtain ⟨q0, qP, qK⟩ := q; exact ⟨q0, qP, va_K.moved (u := U) (U := U.calling g mk a) (Vm.Alike.refl U.vm) qK⟩, va_recv hK hP (ci := 7) (q0 := 0) rfl rfl, fun U hU hW => ⟨rfl, by rw [hU]; exact hPc, va_K.moved hW.alike hKc⟩⟩ rfl rfl hl.1 rfl (lv_room (Nat.le_of_ble_eq_true rfl)) dX7_beginNamed_105 ⟨Nat.le_of_ble_eq_true rfl, Nat.le_of_ble_eq_true rfl⟩) (fun hw => ?_)
        try dsimp only at hw
        refine lv_aload_n hx hb dX7_beginNamed_108 rfl (lv_at hl 1 rfl) ?_
        refine va_get (D := (dC, dI)) (ci := 7) (v := .ref bk) (C := RX7) (T := TX7) (N := 9) hx hb htw inlX7 hown hK hP 0 rfl rfl 1 (by decide) (htw _ (ck_13 _ (List.mem_of_getElem? (i := 6) rfl))) (fun _ h9 => h9) rfl dX7_beginNamed_109 ?_
        refine va_get (D := (dC, dI)) (ci := 0) (v := .ref bnm) (C := RX0) (T := TX0) (N := 12) hx hb htw inlX0 hown hK hP 1 rfl rfl 1 (by decide) (htw _ (ck_16 _ (List.mem_of_getElem? (i := 5) rfl))) (fun _ h9 => h9) rfl dX7_beginNamed_112 ?_
        refine lv_iload_n hx hb dX7_beginNamed_115 rfl (lv_at hl 2 rfl) ?_
        refine xg_aldq hx hb hK hP 3 3 rfl rfl rfl (by unfold vp_in; decide) dX7_beginNamed_116 ?_
        refine W.eq (g2 := F0 m 117 ls [.ref (Nm 3)]) rfl ?_
        refine lv_iload_n hx hb dX7_beginNamed_117 rfl (lv_at hl 0 rfl) ?_
        refine lv_aload_n hx hb dX7_beginNamed_118 rfl (lv_at hl 1 rfl) ?_
        refine va_get (D := (dC, dI)) (ci := 7) (v := .ref lx) (C := RX7) (T := TX7) (N := 9) hx hb htw inlX7 hown hK hP 0 rfl rfl 0 (by decide) (htw _ (ck_3 _ (List.mem_of_getElem? (i := 5) rfl))) (fun _ h9 => h9) rfl dX7_beginNamed_119 ?_
        refine va_get (D := (dC, dI)) (ci := 3) (v := .int u_4.2.2.2.2) (C := RX3) (T := TX3) (N := 9) hx hb htw inlX3 hown hK hP 5 rfl rfl 8 (by decide) (htw _ (ck_16 _ (List.mem_of_getElem? (i := 4) rfl))) (fun _ h9 => h9) rfl dX7_beginNamed_122 ?_
        refine va_iast hx hb hK hP hD hS 4 4 rfl rfl (xg_inr (N := 12) rfl (gp_beginNamed3_s3 (y0 := fTo ((3 : Int32).toNatClampNeg)) c_1 hT.2.2.2.1.1 hT.2.2.2.1.2).1 (gp_beginNamed3_s3 (y0 := fTo ((3 : Int32).toNatClampNeg)) c_1 hT.2.2.2.1.1 hT.2.2.2.1.2).2) dX7_beginNamed_125 (fun H locs hP hD hS => ?_)
        obtain ⟨hP, hD⟩ := zre [(eO7a pa lx bk pfa pfp psk phe phr phs pop), (eO0a bk bto bnm bla bsk bru bbo bdi bda bdk bdt bdp bno), (eA0 bto cTo 5 fTo), (eA4 bnm cNm 5 (fun k => some (Nm k))), (eA0 (Nm 3) cNr 12 (upd (fNm 3) ((fTo ((3 : Int32).toNatClampNeg)).toNatClampNeg) u_4.2.2.2.2)), (eO3a lx lby lfi lco lxe u_4.1 u_4.2.1 u_4.2.2.1 u_4.2.2.2.1 u_4.2.2.2.2), (eA0 lby cBy 900 fBy), (eA0 lco cCo 23 fCo)] hP hD rfl
        refine lv_aload_n hx hb dX7_beginNamed_126 rfl (lv_at hl 1 rfl) ?_
        refine va_get (D := (dC, dI)) (ci := 7) (v := .ref lx) (C := RX7) (T := TX7) (N := 9) hx hb htw inlX7 hown hK hP 0 rfl rfl 0 (by decide) (htw _ (ck_3 _ (List.mem_of_getElem? (i := 5) rfl))) (fun _ h9 => h9) rfl dX7_beginNamed_127 ?_
        obtain ⟨hPc, hDc, hFc, hCc⟩ := zsub3 (ws' := [(eO3a lx lby lfi lco lxe u_4.1 u_4.2.1 u_4.2.2.1 u_4.2.2.2.1 u_4.2.2.2.2), (eA0 lby cBy 900 fBy), (eA0 lco cCo 23 fCo)]) hP hD hS hA [5, 6, 7] (by decide) rfl
        have hKc := hK.sub (tys' := [(cBy, .byte), (cCo, .int)]) [0, 1] rfl
        refine va_callv (va_runV (As := []) (rest := []) ⟨hx, hb, hml, hown, htw⟩ (gz_advance l dC dI lx lby lfi lco lxe u_4.1 u_4.2.1 u_4.2.2.1 u_4.2.2.2.1 u_4.2.2.2.2 cBy fBy cCo fCo H.size (gp_beginNamed3_s4 (y0 := u_4.1) hp_10) h9_lxe) (cwV 0 htw (xg_V (ck_16 _ (List.mem_of_getElem? (i := 11) rfl)) (ck_14 _ (List.mem_of_getElem? (i := 13) rfl)) (ck_14 _ (List.mem_of_getElem? (i := 14) rfl)) (ck_3 _ (List.mem_of_getElem? (i := 4) rfl)) (ck_14 _ (List.mem_of_getElem? (i := 15) rfl))) rfl rfl rfl (by exact ⟨rfl, hdc_4.1, hdc_4.2, hdd_13⟩) ⟨Nat.le_of_ble_eq_true rfl, Nat.le_of_ble_eq_true rfl⟩) ⟨fun a U g mk q => by obtain ⟨q0, q1, qP, qK, qD⟩ := q; exact ⟨q0, q1, qP, va_K.moved (u := U) (U := U.calling g mk a) (Vm.Alike.refl U.vm) qK, qD⟩, va_recv hKc hPc (ci := 3) (q0 := 0) rfl rfl, fun U hU hW => ⟨rfl, by rw [hU], by rw [hU]; exact hPc, va_K.moved hW.alike hKc, hDc.weaken (fun _ _ _ _ => trivial)⟩⟩ rfl rfl hl.1 rfl (lv_room (Nat.le_of_ble_eq_true rfl)) dX7_beginNamed_130 ⟨Nat.le_of_ble_eq_true rfl, Nat.le_of_ble_eq_true rfl⟩) hS (fun q _ h => hFc q h) hFc (fun u_18 t H1 locs ht hvm hw hB hz1 hk1 hS => ?_)
        try dsimp only at hw
        obtain ⟨hP1, hK1, hD1⟩ := hB
        rw [ht] at hP1
        have hK1 := va_K.moved hvm.symm hK1
        have hK1 : va_K (dC, dI) vwCl [] s := hK1
        obtain ⟨hP, hD⟩ := va_join (wr := [(eO7a pa lx bk pfa pfp psk phe phr phs pop), (eO0a bk bto bnm bla bsk bru bbo bdi bda bdk bdt bdp bno), (eA0 bto cTo 5 fTo), (eA4 bnm cNm 5 (fun k => some (Nm k))), (eA0 (Nm 3) cNr 12 (upd (fNm 3) ((fTo ((3 : Int32).toNatClampNeg)).toNatClampNeg) u_4.2.2.2.2))]) (w1 := [(eO3a lx lby lfi lco lxe u_18.1 u_18.2.1 u_18.2.2.1 u_18.2.2.2.1 u_18.2.2.2.2), (eA0 lby cBy 900 fBy), (eA0 lco cCo 23 fCo)]) hP hD [5, 6, 7] [0, 1, 2, 3, 4] hCc rfl (by decide) (by decide) hk1 hFc hP1 hD1
        generalize H1 = H at hP hS ⊢
        obtain ⟨hP, hD⟩ := zre [(eO7a pa lx bk pfa pfp psk phe phr phs pop), (eO0a bk bto bnm bla bsk bru bbo bdi bda bdk bdt bdp bno), (eA0 bto cTo 5 fTo), (eA4 bnm cNm 5 (fun k => some (Nm k))), (eA0 (Nm 3) cNr 12 (upd (fNm 3) ((fTo ((3 : Int32).toNatClampNeg)).toNatClampNeg) u_4.2.2.2.2)), (eO3a lx lby lfi lco lxe u_18.1 u_18.2.1 u_18.2.2.1 u_18.2.2.2.1 u_18.2.2.2.2), (eA0 lby cBy 900 fBy), (eA0 lco cCo 23 fCo)] hP hD rfl
        refine W.widen (k := 0) (n := 0) (by omega) (by omega) ?_
        obtain ⟨hw, hp_24⟩ := hw
        have hq_u_18 : u_18 = (fe_advance lxe u_4.1 u_4.2.2.2.1 u_4.2.2.2.2 fBy fCo) := hw
        refine lv_iload_n hx hb dX7_beginNamed_133 rfl (lv_at hl 0 rfl) ?_
        refine xs_size (fun hHz => ?_)
        refine vx_ret ?_
        refine W.widen (k := 1) (n := 6) (by omega) (by omega) ?_
        obtain ⟨hP9, hD9⟩ := zsub2 (ws' := [(eO7a pa lx bk pfa pfp psk phe phr phs pop), (eO3a lx lby lfi lco lxe u_18.1 u_18.2.1 u_18.2.2.1 u_18.2.2.2.1 u_18.2.2.2.2), (eA0 lby cBy 900 fBy), (eA0 lco cCo 23 fCo), (eO0a bk bto bnm bla bsk bru bbo bdi bda bdk bdt bdp bno), (eA0 bto cTo 5 fTo), (eA4 bnm cNm 5 (fun k => some (Nm k))), (eA0 (Nm 3) cNr 12 (upd (fNm 3) ((fTo ((3 : Int32).toNatClampNeg)).toNatClampNeg) u_4.2.2.2.2))]) hP hD [0, 5, 6, 7, 1, 2, 3, 4] (by decide +kernel) rfl
        have hK9 := hK.sub (tys' := []) [] rfl
        exact W.iret (v := fTo ((3 : Int32).toNatClampNeg)) hx hb hr (fun t ht hW => ⟨⟨fTo ((3 : Int32).toNatClampNeg), (pfa, pfp, u_18.1, u_18.2.1, u_18.2.2.1, u_18.2.2.2.1, u_18.2.2.2.2, (va_up fNm 3 (upd (fNm 3) ((fTo ((3 : Int32).toNatClampNeg)).toNatClampNeg) u_4.2.2.2.2))), rfl, ⟨((fun e9 => ⟨by rw [e9], by rw [e9], by rw [e9]⟩ : fp_beginNamed3 pfa pfp lxe lxa lxt lxp lxn lxl fBy fCo fTo fNm = ((0 : Int32), fTo ((3 : Int32).toNatClampNeg), pfa, pfp, u_18.1, u_18.2.1, u_18.2.2.1, u_18.2.2.2.1, u_18.2.2.2.2, (va_up fNm 3 (upd (fNm 3) ((fTo ((3 : Int32).toNatClampNeg)).toNatClampNeg) u_4.2.2.2.2))) → _) ((by rw [fp_beginNamed3]; (try rw [if_pos c_1]); (try rw [← hq_u_4]); (try rw [xL_eq]); (try rw [if_pos c_11]); (try rw [← hq_r_13]); (try rw [xL_eq]); (try rw [if_pos c_14]); (try rw [← hq_u_18]); (try rw [xL_eq]); try rfl))), (gp_beginNamed3_s5 (y0 := u_18.1) hp_24), (gp_beginNamed3_s6 (y0 := fTo ((3 : Int32).toNatClampNeg)) c_1 hT.2.2.2.1.1 hT.2.2.2.1.2), (gp_beginNamed3_s7 (y0 := fTo ((3 : Int32).toNatClampNeg)) c_1 hT.2.2.2.1.1 hT.2.2.2.1.2), (gp_beginNamed3_s8 (y0 := fTo ((3 : Int32).toNatClampNeg)) c_1 hT.2.2.2.1.1 hT.2.2.2.1.2)⟩, ⟨by rw [ht]; exact hP9, va_K.moved hW.alike hK9, hD9⟩, by rw [ht]; first | exact hHz | exact hHz.trans (by rw [rH])⟩, hS.F ht⟩) hS.2.2 dX7_beginNamed_134
      · refine lv_iconst (v := 1) hx hb dX7_beginNamed_92 (by decide) ?_
        refine lv_goto (tgt := 97) hx hb dX7_beginNamed_93 (by decide) ?_
        refine lv_iconst (v := 3) hx hb dX7_beginNamed_97 (by decide) ?_
        refine lv_aload_n hx hb dX7_beginNamed_98 rfl (lv_at hl 1 rfl) ?_
        refine va_get (D := (dC, dI)) (ci := 7) (v := .ref lx) (C := RX7) (T := TX7) (N := 9) hx hb htw inlX7 hown hK hP 0 rfl rfl 0 (by decide) (htw _ (ck_3 _ (List.mem_of_getElem? (i := 5) rfl))) (fun _ h9 => h9) rfl dX7_beginNamed_99 ?_
        refine va_get (D := (dC, dI)) (ci := 3) (v := .int u_4.2.2.1) (C := RX3) (T := TX3) (N := 9) hx hb htw inlX3 hown hK hP 5 rfl rfl 6 (by decide) (htw _ (ck_15 _ (List.mem_of_getElem? (i := 13) rfl))) (fun _ h9 => h9) rfl dX7_beginNamed_102 ?_
        refine xs_size (fun hHz => ?_)
        obtain ⟨hPc, hDc, hFc, hCc⟩ := zsub3 (ws' := [(eO7a pa lx bk pfa pfp psk phe phr phs pop)]) hP hD hS hA [0] (by decide) rfl
        have hKc := hK.sub (tys' := []) [] rfl
        refine vx_callv (vx_runV (As := [.int 1, .int 3, .int u_4.2.2.1]) (rest := []) ⟨hx, hb, hml, hown, htw⟩ (gp_refT l hst dC dI pa lx bk pfa pfp psk phe phr phs pop (1 : Int32) (3 : Int32) u_4.2.2.1 sL H.size (gp_beginNamed3_s9 )) (cwV 3 htw (xg_V (ck_16 _ (List.mem_of_getElem? (i := 6) rfl)) (ck_16 _ (List.mem_of_getElem? (i := 7) rfl)) (ck_16 _ (List.mem_of_getElem? (i := 8) rfl)) (ck_1 _ (List.mem_of_getElem? (i := 16) rfl)) (ck_16 _ (List.mem_of_getElem? (i := 9) rfl))) rfl rfl rfl (by exact ⟨rfl, hdc_15.1, hdc_15.2, hdd_48⟩) ⟨Nat.le_of_ble_eq_true rfl, Nat.le_of_ble_eq_true rfl⟩) ⟨fun a U g mk q => by obtain ⟨q0, q1, qP, qK, qD, qx0⟩ := q; exact ⟨q0, q1, qP, va_K.moved (u := U) (U := U.calling g mk a) (Vm.Alike.refl U.vm) qK, qD, xl.calling qx0⟩, va_recv hKc hPc (ci := 7) (q0 := 0) rfl rfl, fun U hU hW => ⟨rfl, by rw [hU], by rw [hU]; exact hPc, va_K.moved hW.alike hKc, hDc.weaken (fun _ _ _ _ => trivial), by rw [hU]; exact xl.warm hW ((xl.kept hXL hS.2.1).narrow hFc)⟩⟩ rfl rfl hl.1 rfl (lv_room (Nat.le_of_ble_eq_true rfl)) dX7_beginNamed_105 ⟨Nat.le_of_ble_eq_true rfl, Nat.le_of_ble_eq_true rfl⟩) hS (fun q _ h => hFc q h) hFc (fun q _ h => hFc q h) (fun E ce q9 u_25 t H1 locs ht hvm hw hB hz1 hk1 hS hcell hcv hcl => ?_) (fun u_27 t H1 locs ht hvm hw hB hz1 hk1 hS => hw.elim)
        obtain ⟨hE9, hB⟩ := hB
        subst hE9
        obtain ⟨hP1, hK1, hD1⟩ := hB
        rw [ht] at hP1
        have hK1 := va_K.moved hvm.symm hK1
        have hK1 : va_K (dC, dI) vwCl [] s := hK1
        obtain ⟨hP, hD⟩ := va_join (wr := [(eO0a bk bto bnm bla bsk bru bbo bdi bda bdk bdt bdp bno), (eA0 bto cTo 5 fTo), (eA4 bnm cNm 5 (fun k => some (Nm k))), (eA0 (Nm 3) cNr 12 (fNm 3)), (eO3a lx lby lfi lco lxe u_4.1 u_4.2.1 u_4.2.2.1 u_4.2.2.2.1 u_4.2.2.2.2), (eA0 lby cBy 900 fBy), (eA0 lco cCo 23 fCo)]) (w1 := [(eO7a pa lx bk 3 u_4.2.2.1 psk phe phr phs pop)]) hP hD [0] [1, 2, 3, 4, 5, 6, 7] hCc rfl (by decide) (by decide) hk1 hFc hP1 hD1
        generalize H1 = H at hP hS hcell ⊢
        obtain ⟨hP, hD⟩ := zre [(eO0a bk bto bnm bla bsk bru bbo bdi bda bdk bdt bdp bno), (eA0 bto cTo 5 fTo), (eA4 bnm cNm 5 (fun k => some (Nm k))), (eA0 (Nm 3) cNr 12 (fNm 3)), (eO3a lx lby lfi lco lxe u_4.1 u_4.2.1 u_4.2.2.1 u_4.2.2.2.1 u_4.2.2.2.2), (eA0 lby cBy 900 fBy), (eA0 lco cCo 23 fCo), (eO7a pa lx bk 3 u_4.2.2.1 psk phe phr phs pop)] hP hD rfl
        obtain ⟨hP9, hD9⟩ := zsub2 (ws' := [(eO7a pa lx bk 3 u_4.2.2.1 psk phe phr phs pop), (eO3a lx lby lfi lco lxe u_4.1 u_4.2.1 u_4.2.2.1 u_4.2.2.2.1 u_4.2.2.2.2), (eA0 lby cBy 900 fBy), (eA0 lco cCo 23 fCo), (eO0a bk bto bnm bla bsk bru bbo bdi bda bdk bdt bdp bno), (eA0 bto cTo 5 fTo), (eA4 bnm cNm 5 (fun k => some (Nm k))), (eA0 (Nm 3) cNr 12 (fNm 3))]) hP hD [7, 4, 5, 6, 0, 1, 2, 3] (by decide +kernel) rfl
        have hK9 := hK.sub (tys' := []) [] rfl
        exact vx_widen (k := 1) (n := 6) (Nat.le_of_ble_eq_true rfl) (Nat.le_of_ble_eq_true rfl) (vx_out (fun x h9 => (hex x h9).elim) hlocks hcell hcv hcl (fun t ht hal => ⟨(3, u_4.2.2.1, u_4.1, u_4.2.1, u_4.2.2.1, u_4.2.2.2.1, u_4.2.2.2.2, fNm), ((fun e9 => ⟨by rw [e9], by rw [e9]⟩ : fp_beginNamed3 pfa pfp lxe lxa lxt lxp lxn lxl fBy fCo fTo fNm = ((1 : Int32), (0 : Int32), (3 : Int32), u_4.2.2.1, u_4.1, u_4.2.1, u_4.2.2.1, u_4.2.2.2.1, u_4.2.2.2.2, fNm) → _) ((by rw [fp_beginNamed3]; (try rw [if_pos c_1]); (try rw [← hq_u_4]); (try rw [xL_eq]); (try rw [if_pos c_11]); (try rw [← hq_r_13]); (try rw [xL_eq]); (try rw [if_neg c_14]); try rfl))), ⟨rfl, by rw [ht]; exact hP9, va_K.moved hal hK9, hD9⟩, hS.F ht⟩) hS.2.2 (Nat.le_of_ble_eq_true rfl) (Nat.le_of_ble_eq_true rfl))
    · refine lv_iconst (v := 1) hx hb dX7_beginNamed_56 (by decide) ?_
      refine lv_goto (tgt := 61) hx hb dX7_beginNamed_57 (by decide) ?_
      refine lv_iconst (v := 1) hx hb dX7_beginNamed_61 (by decide) ?_
      refine lv_aload_n hx hb dX7_beginNamed_62 rfl (lv_at hl 1 rfl) ?_
      refine va_get (D := (dC, dI)) (ci := 7) (v := .ref lx) (C := RX7) (T := TX7) (N := 9) hx hb htw inlX7 hown hK hP 0 rfl rfl 0 (by decide) (htw _ (ck_3 _ (List.mem_of_getElem? (i := 5) rfl))) (fun _ h9 => h9) rfl dX7_beginNamed_63 ?_
      refine va_get (D := (dC, dI)) (ci := 3) (v := .int u_4.2.2.1) (C := RX3) (T := TX3) (N := 9) hx hb htw inlX3 hown hK hP 5 rfl rfl 6 (by decide) (htw _ (ck_15 _ (List.mem_of_getElem? (i := 13) rfl))) (fun _ h9 => h9) rfl dX7_beginNamed_66 ?_
      refine xs_size (fun hHz => ?_)
      obtain ⟨hPc, hDc, hFc, hCc⟩ := zsub3 (ws' := [(eO7a pa lx bk pfa pfp psk phe phr phs pop)]) hP hD hS hA [0] (by decide) rfl
      have hKc := hK.sub (tys' := []) [] rfl
      refine vx_callv (vx_runV (As := [.int 1, .int 1, .int u_4.2.2.1]) (rest := []) ⟨hx, hb, hml, hown, htw⟩ (gp_refT l hst dC dI pa lx bk pfa pfp psk phe phr phs pop (1 : Int32) (1 : Int32) u_4.2.2.1 sL H.size (gp_beginNamed3_s10 )) (cwV 3 htw (xg_V (ck_16 _ (List.mem_of_getElem? (i := 6) rfl)) (ck_16 _ (List.mem_of_getElem? (i := 7) rfl)) (ck_16 _ (List.mem_of_getElem? (i := 8) rfl)) (ck_1 _ (List.mem_of_getElem? (i := 16) rfl)) (ck_16 _ (List.mem_of_getElem? (i := 9) rfl))) rfl rfl rfl (by exact ⟨rfl, hdc_15.1, hdc_15.2, hdd_48⟩) ⟨Nat.le_of_ble_eq_true rfl, Nat.le_of_ble_eq_true rfl⟩) ⟨fun a U g mk q => by obtain ⟨q0, q1, qP, qK, qD, qx0⟩ := q; exact ⟨q0, q1, qP, va_K.moved (u := U) (U := U.calling g mk a) (Vm.Alike.refl U.vm) qK, qD, xl.calling qx0⟩, va_recv hKc hPc (ci := 7) (q0 := 0) rfl rfl, fun U hU hW => ⟨rfl, by rw [hU], by rw [hU]; exact hPc, va_K.moved hW.alike hKc, hDc.weaken (fun _ _ _ _ => trivial), by rw [hU]; exact xl.warm hW ((xl.kept hXL hS.2.1).narrow hFc)⟩⟩ rfl rfl hl.1 rfl (lv_room (Nat.le_of_ble_eq_true rfl)) dX7_beginNamed_69 ⟨Nat.le_of_ble_eq_true rfl, Nat.le_of_ble_eq_true rfl⟩) hS (fun q _ h => hFc q h) hFc (fun q _ h => hFc q h) (fun E ce q9 u_28 t H1 locs ht hvm hw hB hz1 hk1 hS hcell hcv hcl => ?_) (fun u_30 t H1 locs ht hvm hw hB hz1 hk1 hS => hw.elim)
      obtain ⟨hE9, hB⟩ := hB
      subst hE9
      obtain ⟨hP1, hK1, hD1⟩ := hB
      rw [ht] at hP1
      have hK1 := va_K.moved hvm.symm hK1
      have hK1 : va_K (dC, dI) vwCl [] s := hK1
      obtain ⟨hP, hD⟩ := va_join (wr := [(eO0a bk bto bnm bla bsk bru bbo bdi bda bdk bdt bdp bno), (eA0 bto cTo 5 fTo), (eA4 bnm cNm 5 (fun k => some (Nm k))), (eA0 (Nm 3) cNr 12 (fNm 3)), (eO3a lx lby lfi lco lxe u_4.1 u_4.2.1 u_4.2.2.1 u_4.2.2.2.1 u_4.2.2.2.2), (eA0 lby cBy 900 fBy), (eA0 lco cCo 23 fCo)]) (w1 := [(eO7a pa lx bk 1 u_4.2.2.1 psk phe phr phs pop)]) hP hD [0] [1, 2, 3, 4, 5, 6, 7] hCc rfl (by decide) (by decide) hk1 hFc hP1 hD1
      generalize H1 = H at hP hS hcell ⊢
      obtain ⟨hP, hD⟩ := zre [(eO0a bk bto bnm bla bsk bru bbo bdi bda bdk bdt bdp bno), (eA0 bto cTo 5 fTo), (eA4 bnm cNm 5 (fun k => some (Nm k))), (eA0 (Nm 3) cNr 12 (fNm 3)), (eO3a lx lby lfi lco lxe u_4.1 u_4.2.1 u_4.2.2.1 u_4.2.2.2.1 u_4.2.2.2.2), (eA0 lby cBy 900 fBy), (eA0 lco cCo 23 fCo), (eO7a pa lx bk 1 u_4.2.2.1 psk phe phr phs pop)] hP hD rfl
      obtain ⟨hP9, hD9⟩ := zsub2 (ws' := [(eO7a pa lx bk 1 u_4.2.2.1 psk phe phr phs pop), (eO3a lx lby lfi lco lxe u_4.1 u_4.2.1 u_4.2.2.1 u_4.2.2.2.1 u_4.2.2.2.2), (eA0 lby cBy 900 fBy), (eA0 lco cCo 23 fCo), (eO0a bk bto bnm bla bsk bru bbo bdi bda bdk bdt bdp bno), (eA0 bto cTo 5 fTo), (eA4 bnm cNm 5 (fun k => some (Nm k))), (eA0 (Nm 3) cNr 12 (fNm 3))]) hP hD [7, 4, 5, 6, 0, 1, 2, 3] (by decide +kernel) rfl
      have hK9 := hK.sub (tys' := []) [] rfl
      exact vx_widen (k := 1) (n := 6) (Nat.le_of_ble_eq_true rfl) (Nat.le_of_ble_eq_true rfl) (vx_out (fun x h9 => (hex x h9).elim) hlocks hcell hcv hcl (fun t ht hal => ⟨(1, u_4.2.2.1, u_4.1, u_4.2.1, u_4.2.2.1, u_4.2.2.2.1, u_4.2.2.2.2, fNm), ((fun e9 => ⟨by rw [e9], by rw [e9]⟩ : fp_beginNamed3 pfa pfp lxe lxa lxt lxp lxn lxl fBy fCo fTo fNm = ((1 : Int32), (0 : Int32), (1 : Int32), u_4.2.2.1, u_4.1, u_4.2.1, u_4.2.2.1, u_4.2.2.2.1, u_4.2.2.2.2, fNm) → _) ((by rw [fp_beginNamed3]; (try rw [if_pos c_1]); (try rw [← hq_u_4]); (try rw [xL_eq]); (try rw [if_neg c_11]); try rfl))), ⟨rfl, by rw [ht]; exact hP9, va_K.moved hal hK9, hD9⟩, hS.F ht⟩) hS.2.2 (Nat.le_of_ble_eq_true rfl) (Nat.le_of_ble_eq_true rfl))
  · refine lv_iconst (v := 1) hx hb dX7_beginNamed_20 (by decide) ?_
    refine lv_goto (tgt := 25) hx hb dX7_beginNamed_21 (by decide) ?_
    refine lv_iconst (v := 2) hx hb dX7_beginNamed_25 (by decide) ?_
    refine lv_aload_n hx hb dX7_beginNamed_26 rfl (lv_at hl 1 rfl) ?_
    refine va_get (D := (dC, dI)) (ci := 7) (v := .ref lx) (C := RX7) (T := TX7) (N := 9) hx hb htw inlX7 hown hK hP 0 rfl rfl 0 (by decide) (htw _ (ck_3 _ (List.mem_of_getElem? (i := 5) rfl))) (fun _ h9 => h9) rfl dX7_beginNamed_27 ?_
    refine va_get (D := (dC, dI)) (ci := 3) (v := .int lxp) (C := RX3) (T := TX3) (N := 9) hx hb htw inlX3 hown hK hP 1 rfl rfl 6 (by decide) (htw _ (ck_15 _ (List.mem_of_getElem? (i := 13) rfl))) (fun _ h9 => h9) rfl dX7_beginNamed_30 ?_
    refine xs_size (fun hHz => ?_)
    obtain ⟨hPc, hDc, hFc, hCc⟩ := zsub3 (ws' := [(eO7a pa lx bk pfa pfp psk phe phr phs pop)]) hP hD hS hA [0] (by decide) rfl
    have hKc := hK.sub (tys' := []) [] rfl
    refine vx_callv (vx_runV (As := [.int 1, .int 2, .int lxp]) (rest := []) ⟨hx, hb, hml, hown, htw⟩ (gp_refT l hst dC dI pa lx bk pfa pfp psk phe phr phs pop (1 : Int32) (2 : Int32) lxp sL H.size (gp_beginNamed3_s11 )) (cwV 3 htw (xg_V (ck_16 _ (List.mem_of_getElem? (i := 6) rfl)) (ck_16 _ (List.mem_of_getElem? (i := 7) rfl)) (ck_16 _ (List.mem_of_getElem? (i := 8) rfl)) (ck_1 _ (List.mem_of_getElem? (i := 16) rfl)) (ck_16 _ (List.mem_of_getElem? (i := 9) rfl))) rfl rfl rfl (by exact ⟨rfl, hdc_15.1, hdc_15.2, hdd_48⟩) ⟨Nat.le_of_ble_eq_true rfl, Nat.le_of_ble_eq_true rfl⟩) ⟨fun a U g mk q => by obtain ⟨q0, q1, qP, qK, qD, qx0⟩ := q; exact ⟨q0, q1, qP, va_K.moved (u := U) (U := U.calling g mk a) (Vm.Alike.refl U.vm) qK, qD, xl.calling qx0⟩, va_recv hKc hPc (ci := 7) (q0 := 0) rfl rfl, fun U hU hW => ⟨rfl, by rw [hU], by rw [hU]; exact hPc, va_K.moved hW.alike hKc, hDc.weaken (fun _ _ _ _ => trivial), by rw [hU]; exact xl.warm hW ((xl.kept hXL hS.2.1).narrow hFc)⟩⟩ rfl rfl hl.1 rfl (lv_room (Nat.le_of_ble_eq_true rfl)) dX7_beginNamed_33 ⟨Nat.le_of_ble_eq_true rfl, Nat.le_of_ble_eq_true rfl⟩) hS (fun q _ h => hFc q h) hFc (fun q _ h => hFc q h) (fun E ce q9 u_31 t H1 locs ht hvm hw hB hz1 hk1 hS hcell hcv hcl => ?_) (fun u_33 t H1 locs ht hvm hw hB hz1 hk1 hS => hw.elim)
    obtain ⟨hE9, hB⟩ := hB
    subst hE9
    obtain ⟨hP1, hK1, hD1⟩ := hB
    rw [ht] at hP1
    have hK1 := va_K.moved hvm.symm hK1
    have hK1 : va_K (dC, dI) vwCl [] s := hK1
    obtain ⟨hP, hD⟩ := va_join (wr := [(eO3a lx lby lfi lco lxe lxa lxt lxp lxn lxl), (eA0 lby cBy 900 fBy), (eA0 lco cCo 23 fCo), (eO0a bk bto bnm bla bsk bru bbo bdi bda bdk bdt bdp bno), (eA0 bto cTo 5 fTo), (eA4 bnm cNm 5 (fun k => some (Nm k))), (eA0 (Nm 3) cNr 12 (fNm 3))]) (w1 := [(eO7a pa lx bk 2 lxp psk phe phr phs pop)]) hP hD [0] [1, 2, 3, 4, 5, 6, 7] hCc rfl (by decide) (by decide) hk1 hFc hP1 hD1
    generalize H1 = H at hP hS hcell ⊢
    obtain ⟨hP, hD⟩ := zre [(eO3a lx lby lfi lco lxe lxa lxt lxp lxn lxl), (eA0 lby cBy 900 fBy), (eA0 lco cCo 23 fCo), (eO0a bk bto bnm bla bsk bru bbo bdi bda bdk bdt bdp bno), (eA0 bto cTo 5 fTo), (eA4 bnm cNm 5 (fun k => some (Nm k))), (eA0 (Nm 3) cNr 12 (fNm 3)), (eO7a pa lx bk 2 lxp psk phe phr phs pop)] hP hD rfl
    obtain ⟨hP9, hD9⟩ := zsub2 (ws' := [(eO7a pa lx bk 2 lxp psk phe phr phs pop), (eO3a lx lby lfi lco lxe lxa lxt lxp lxn lxl), (eA0 lby cBy 900 fBy), (eA0 lco cCo 23 fCo), (eO0a bk bto bnm bla bsk bru bbo bdi bda bdk bdt bdp bno), (eA0 bto cTo 5 fTo), (eA4 bnm cNm 5 (fun k => some (Nm k))), (eA0 (Nm 3) cNr 12 (fNm 3))]) hP hD [7, 0, 1, 2, 3, 4, 5, 6] (by decide +kernel) rfl
    have hK9 := hK.sub (tys' := []) [] rfl
    exact vx_widen (k := 1) (n := 6) (Nat.le_of_ble_eq_true rfl) (Nat.le_of_ble_eq_true rfl) (vx_out (fun x h9 => (hex x h9).elim) hlocks hcell hcv hcl (fun t ht hal => ⟨(2, lxp, lxa, lxt, lxp, lxn, lxl, fNm), ((fun e9 => ⟨by rw [e9], by rw [e9]⟩ : fp_beginNamed3 pfa pfp lxe lxa lxt lxp lxn lxl fBy fCo fTo fNm = ((1 : Int32), (0 : Int32), (2 : Int32), lxp, lxa, lxt, lxp, lxn, lxl, fNm) → _) ((by rw [fp_beginNamed3]; (try rw [if_neg c_1]); try rfl))), ⟨rfl, by rw [ht]; exact hP9, va_K.moved hal hK9, hD9⟩, hS.F ht⟩) hS.2.2 (Nat.le_of_ble_eq_true rfl) (Nat.le_of_ble_eq_true rfl))

def fp_beginNamed4 (pfa : Int32) (pfp : Int32) (lxe : Int32) (lxa : Int32) (lxt : Int32) (lxp : Int32) (lxn : Int32) (lxl : Int32) (fBy : Nat → Int32) (fCo : Nat → Int32) (fTo : Nat → Int32) (fNm : Nat → Nat → Int32) : Int32 × Int32 × (Int32) × (Int32) × (Int32) × (Int32) × (Int32) × (Int32) × (Int32) × (Nat → Nat → Int32) := (if fTo ((4 : Int32).toNatClampNeg) < 6 then (xL ((fe_advance lxe lxa lxn lxl fBy fCo)) (fun u_4 => (if u_4.2.1 = 23 then (xL ((fb_find4 fTo fNm u_4.2.2.2.2)) (fun r_13 => (if r_13 = (-1) then (xL ((fe_advance lxe u_4.1 u_4.2.2.2.1 u_4.2.2.2.2 fBy fCo)) (fun u_18 => ((0 : Int32), fTo ((4 : Int32).toNatClampNeg), pfa, pfp, u_18.1, u_18.2.1, u_18.2.2.1, u_18.2.2.2.1, u_18.2.2.2.2, (va_up fNm 4 (upd (fNm 4) ((fTo ((4 : Int32).toNatClampNeg)).toNatClampNeg) u_4.2.2.2.2))))) else ((1 : Int32), (0 : Int32), (3 : Int32), u_4.2.2.1, u_4.1, u_4.2.1, u_4.2.2.1, u_4.2.2.2.1, u_4.2.2.2.2, fNm)))) else ((1 : Int32), (0 : Int32), (1 : Int32), u_4.2.2.1, u_4.1, u_4.2.1, u_4.2.2.1, u_4.2.2.2.1, u_4.2.2.2.2, fNm)))) else ((1 : Int32), (0 : Int32), (2 : Int32), lxp, lxa, lxt, lxp, lxn, lxl, fNm))
theorem gp_beginNamed4_s0  : (0 : Int32) = 0 := (by decide)
theorem gp_beginNamed4_s1  : (0 : Int32) = 0 := (by decide)
theorem gp_beginNamed4_s2  : (0 : Int32) = 0 := (by decide)
theorem gp_beginNamed4_s3 {y0 : Int32} (h0 : y0 < 6) (h1 : ¬ (y0 < 0)) (h2 : y0 ≤ 6) : ¬ (y0 < 0) ∧ ¬ (12 ≤ y0) := by lia
theorem gp_beginNamed4_s4 {y0 : Int32} (h0 : ¬ (y0 < 0)) : ¬ (y0 < 0) := h0
theorem gp_beginNamed4_s5 {y0 : Int32} (h0 : ¬ (y0 < 0)) : ¬ (y0 < 0) := h0
theorem gp_beginNamed4_s6 {y0 : Int32} (h0 : y0 < 6) (h1 : ¬ (y0 < 0)) (h2 : y0 ≤ 6) : ¬ (y0 < 0) := h1
theorem gp_beginNamed4_s7 {y0 : Int32} (h0 : y0 < 6) (h1 : ¬ (y0 < 0)) (h2 : y0 ≤ 6) : y0 < 6 := h0
theorem gp_beginNamed4_s8 {y0 : Int32} (h0 : y0 < 6) (h1 : ¬ (y0 < 0)) (h2 : y0 ≤ 6) : y0 = y0 := by lia
theorem gp_beginNamed4_s9  : ¬ ((1 : Int32) = 0) := (by decide)
theorem gp_beginNamed4_s10  : ¬ ((1 : Int32) = 0) := (by decide)
theorem gp_beginNamed4_s11  : ¬ ((1 : Int32) = 0) := (by decide)
set_option maxHeartbeats 4000000 in
set_option maxRecDepth 100000 in
theorem gp_beginNamed4 (l : Launch) (hst : l.stackTraces = false) (dC : Nat → ClassId) (dI : Nat → Nat → Nat) (pa : Nat) (lx : Nat) (bk : Nat) (pfa : Int32) (pfp : Int32) (psk : Int32) (phe : Nat) (phr : Nat) (phs : Int32) (pop : Int32) (lby : Nat) (lfi : Int32) (lco : Nat) (lxe : Int32) (lxa : Int32) (lxt : Int32) (lxp : Int32) (lxn : Int32) (lxl : Int32) (cBy : ClassId) (fBy : Nat → Int32) (cCo : ClassId) (fCo : Nat → Int32) (bto : Nat) (bnm : Nat) (bla : Nat) (bsk : Nat) (bru : Nat) (bbo : Nat) (bdi : Nat) (bda : Nat) (bdk : Nat) (bdt : Nat) (bdp : Nat) (bno : Nat) (cTo : ClassId) (fTo : Nat → Int32) (cNm : ClassId) (Nm : Nat → Nat) (cNr : ClassId) (fNm : Nat → Nat → Int32) (sL : Nat → Nat) (sz : Nat) (h0_lxa : ¬ lxa < 0) (h9_lxe : lxe ≤ 900) (hT : xT fTo) : vx_Met l yX7_beginNamed (Cond.code yX7_beginNamed cX7_beginNamed 3 (some .int) :: wsL_law) ({ frames := 7, cells := 1, slots := 6, locals := 105 }) (va_Pc [.ref pa, .int 4] (fun U => U.heap.size = sz ∧ va_P (dC, dI) vwCl [(eO7a pa lx bk pfa pfp psk phe phr phs pop), (eO3a lx lby lfi lco lxe lxa lxt lxp lxn lxl), (eA0 lby cBy 900 fBy), (eA0 lco cCo 23 fCo), (eO0a bk bto bnm bla bsk bru bbo bdi bda bdk bdt bdp bno), (eA0 bto cTo 5 fTo), (eA4 bnm cNm 5 (fun k => some (Nm k))), (eA0 (Nm 4) cNr 12 (fNm 4))] U.heap ∧ va_K (dC, dI) vwCl [(cBy, .byte), (cCo, .int), (cTo, .int), (cNm, .array .int), (cNr, .int)] U ∧ va_D (fun _ => True) [(eO7a pa lx bk pfa pfp psk phe phr phs pop), (eO3a lx lby lfi lco lxe lxa lxt lxp lxn lxl), (eA0 lby cBy 900 fBy), (eA0 lco cCo 23 fCo), (eO0a bk bto bnm bla bsk bru bbo bdi bda bdk bdt bdp bno), (eA0 bto cTo 5 fTo), (eA4 bnm cNm 5 (fun k => some (Nm k))), (eA0 (Nm 4) cNr 12 (fNm 4))] ∧ xl sL (va_A [(eO7a pa lx bk pfa pfp psk phe phr phs pop), (eO3a lx lby lfi lco lxe lxa lxt lxp lxn lxl), (eA0 lby cBy 900 fBy), (eA0 lco cCo 23 fCo), (eO0a bk bto bnm bla bsk bru bbo bdi bda bdk bdt bdp bno), (eA0 bto cTo 5 fTo), (eA4 bnm cNm 5 (fun k => some (Nm k))), (eA0 (Nm 4) cNr 12 (fNm 4))] sz) U U.heap)) (va_Qi (fun (r : Int32) (u : (Int32) × (Int32) × (Int32) × (Int32) × (Int32) × (Int32) × (Int32) × (Nat → Nat → Int32)) => ((fp_beginNamed4 pfa pfp lxe lxa lxt lxp lxn lxl fBy fCo fTo fNm).1 = 0 ∧ r = (fp_beginNamed4 pfa pfp lxe lxa lxt lxp lxn lxl fBy fCo fTo fNm).2.1 ∧ u = (fp_beginNamed4 pfa pfp lxe lxa lxt lxp lxn lxl fBy fCo fTo fNm).2.2) ∧ (¬ u.2.2.1 < 0) ∧ (¬ r < 0) ∧ (r < 6) ∧ (r = fTo ((4 : Int32).toNatClampNeg))) (fun (u : (Int32) × (Int32) × (Int32) × (Int32) × (Int32) × (Int32) × (Int32) × (Nat → Nat → Int32)) t => (va_P (dC, dI) vwCl [(eO7a pa lx bk u.1 u.2.1 psk phe phr phs pop), (eO3a lx lby lfi lco lxe u.2.2.1 u.2.2.2.1 u.2.2.2.2.1 u.2.2.2.2.2.1 u.2.2.2.2.2.2.1), (eA0 lby cBy 900 fBy), (eA0 lco cCo 23 fCo), (eO0a bk bto bnm bla bsk bru bbo bdi bda bdk bdt bdp bno), (eA0 bto cTo 5 fTo), (eA4 bnm cNm 5 (fun k => some (Nm k))), (eA0 (Nm 4) cNr 12 (u.2.2.2.2.2.2.2 4))] t.heap ∧ va_K (dC, dI) vwCl [] t ∧ va_D (va_A [(eO7a pa lx bk pfa pfp psk phe phr phs pop), (eO3a lx lby lfi lco lxe lxa lxt lxp lxn lxl), (eA0 lby cBy 900 fBy), (eA0 lco cCo 23 fCo), (eO0a bk bto bnm bla bsk bru bbo bdi bda bdk bdt bdp bno), (eA0 bto cTo 5 fTo), (eA4 bnm cNm 5 (fun k => some (Nm k))), (eA0 (Nm 4) cNr 12 (fNm 4))] sz) [(eO7a pa lx bk u.1 u.2.1 psk phe phr phs pop), (eO3a lx lby lfi lco lxe u.2.2.1 u.2.2.2.1 u.2.2.2.2.1 u.2.2.2.2.2.1 u.2.2.2.2.2.2.1), (eA0 lby cBy 900 fBy), (eA0 lco cCo 23 fCo), (eO0a bk bto bnm bla bsk bru bbo bdi bda bdk bdt bdp bno), (eA0 bto cTo 5 fTo), (eA4 bnm cNm 5 (fun k => some (Nm k))), (eA0 (Nm 4) cNr 12 (u.2.2.2.2.2.2.2 4))]) ∧ t.heap.size = sz) (va_A [(eO7a pa lx bk pfa pfp psk phe phr phs pop), (eO3a lx lby lfi lco lxe lxa lxt lxp lxn lxl), (eA0 lby cBy 900 fBy), (eA0 lco cCo 23 fCo), (eO0a bk bto bnm bla bsk bru bbo bdi bda bdk bdt bdp bno), (eA0 bto cTo 5 fTo), (eA4 bnm cNm 5 (fun k => some (Nm k))), (eA0 (Nm 4) cNr 12 (fNm 4))] sz)) (vx_X (fun (u : (Int32) × (Int32) × (Int32) × (Int32) × (Int32) × (Int32) × (Int32) × (Nat → Nat → Int32)) => (fp_beginNamed4 pfa pfp lxe lxa lxt lxp lxn lxl fBy fCo fTo fNm).1 = 1 ∧ u = (fp_beginNamed4 pfa pfp lxe lxa lxt lxp lxn lxl fBy fCo fTo fNm).2.2) (fun (E : String) (u : (Int32) × (Int32) × (Int32) × (Int32) × (Int32) × (Int32) × (Int32) × (Nat → Nat → Int32)) (t : State) => E = "java/lang/IllegalStateException" ∧ va_P (dC, dI) vwCl [(eO7a pa lx bk u.1 u.2.1 psk phe phr phs pop), (eO3a lx lby lfi lco lxe u.2.2.1 u.2.2.2.1 u.2.2.2.2.1 u.2.2.2.2.2.1 u.2.2.2.2.2.2.1), (eA0 lby cBy 900 fBy), (eA0 lco cCo 23 fCo), (eO0a bk bto bnm bla bsk bru bbo bdi bda bdk bdt bdp bno), (eA0 bto cTo 5 fTo), (eA4 bnm cNm 5 (fun k => some (Nm k))), (eA0 (Nm 4) cNr 12 (u.2.2.2.2.2.2.2 4))] t.heap ∧ va_K (dC, dI) vwCl [] t ∧ va_D (va_A [(eO7a pa lx bk pfa pfp psk phe phr phs pop), (eO3a lx lby lfi lco lxe lxa lxt lxp lxn lxl), (eA0 lby cBy 900 fBy), (eA0 lco cCo 23 fCo), (eO0a bk bto bnm bla bsk bru bbo bdi bda bdk bdt bdp bno), (eA0 bto cTo 5 fTo), (eA4 bnm cNm 5 (fun k => some (Nm k))), (eA0 (Nm 4) cNr 12 (fNm 4))] sz) [(eO7a pa lx bk u.1 u.2.1 psk phe phr phs pop), (eO3a lx lby lfi lco lxe u.2.2.1 u.2.2.2.1 u.2.2.2.2.1 u.2.2.2.2.2.1 u.2.2.2.2.2.2.1), (eA0 lby cBy 900 fBy), (eA0 lco cCo 23 fCo), (eO0a bk bto bnm bla bsk bru bbo bdi bda bdk bdt bdp bno), (eA0 bto cTo 5 fTo), (eA4 bnm cNm 5 (fun k => some (Nm k))), (eA0 (Nm 4) cNr 12 (u.2.2.2.2.2.2.2 4))]) (va_A [(eO7a pa lx bk pfa pfp psk phe phr phs pop), (eO3a lx lby lfi lco lxe lxa lxt lxp lxn lxl), (eA0 lby cBy 900 fBy), (eA0 lco cCo 23 fCo), (eO0a bk bto bnm bla bsk bru bbo bdi bda bdk bdt bdp bno), (eA0 bto cTo 5 fTo), (eA4 bnm cNm 5 (fun k => some (Nm k))), (eA0 (Nm 4) cNr 12 (fNm 4))] sz)) 1 6 (va_A [(eO7a pa lx bk pfa pfp psk phe phr phs pop), (eO3a lx lby lfi lco lxe lxa lxt lxp lxn lxl), (eA0 lby cBy 900 fBy), (eA0 lco cCo 23 fCo), (eO0a bk bto bnm bla bsk bru bbo bdi bda bdk bdt bdp bno), (eA0 bto cTo 5 fTo), (eA4 bnm cNm 5 (fun k => some (Nm k))), (eA0 (Nm 4) cNr 12 (fNm 4))] sz) := by
  refine vx_ofW (cc := cX7_beginNamed) (maxL := 3) (ret := (some .int)) (by decide) rfl ?_
  intro p e s m args below meth c s₁ B hml hex hv
  obtain ⟨rfl, hsz, hP, hK, hD0, hXL⟩ := hv
  have hx := B.exec
  have hb := B.bytes
  have hr := B.returns
  have hts := atoms_spec (ws := Cond.code yX7_beginNamed cX7_beginNamed 3 (some .int) :: wsL_law) B.pre
  have htw : ∀ w ∈ wsL_law, w.before _ s = true := fun w h => hts w (List.mem_cons_of_mem _ h)
  have hown : s.vm.findClass RX7 = some m.cls := findClass_of_methodNamed B.named
  have hlocks := B.notSynchronized
  subst hsz
  have hD := hD0.self (sz := s.heap.size)
  generalize hAe : va_A [(eO7a pa lx bk pfa pfp psk phe phr phs pop), (eO3a lx lby lfi lco lxe lxa lxt lxp lxn lxl), (eA0 lby cBy 900 fBy), (eA0 lco cCo 23 fCo), (eO0a bk bto bnm bla bsk bru bbo bdi bda bdk bdt bdp bno), (eA0 bto cTo 5 fTo), (eA4 bnm cNm 5 (fun k => some (Nm k))), (eA0 (Nm 4) cNr 12 (fNm 4))] s.heap.size = A at hD hXL ⊢
  have hA : ∀ q : Nat, s.heap.size ≤ q → A q := fun q h => by rw [← hAe]; exact Or.inr h
  obtain ⟨H, rH⟩ : ∃ z : Heap, z = s.heap := ⟨_, rfl⟩
  have hS : va_S A s.heap H [] := by rw [rH]; exact va_S.rf
  have hP : va_P (dC, dI) vwCl [(eO7a pa lx bk pfa pfp psk phe phr phs pop), (eO3a lx lby lfi lco lxe lxa lxt lxp lxn lxl), (eA0 lby cBy 900 fBy), (eA0 lco cCo 23 fCo), (eO0a bk bto bnm bla bsk bru bbo bdi bda bdk bdt bdp bno), (eA0 bto cTo 5 fTo), (eA4 bnm cNm 5 (fun k => some (Nm k))), (eA0 (Nm 4) cNr 12 (fNm 4))] H := by rw [rH]; exact hP
  rw [← rH]
  have hl := lv_entry ([.ref pa, .int 4]) (n := 3) (Nat.le_of_ble_eq_true rfl)
  rw [lg_entry_eq]
  generalize (lg_sl ([.ref pa, .int 4]) ++ List.replicate (3 - (lg_sl ([.ref pa, .int 4])).length) Slot.unset).toArray = ls at hl ⊢
  have hl : lv_has ls 3 [(0, .ref pa), (1, .int 4)] := hl
  refine lv_aload_n hx hb dX7_beginNamed_0 rfl (lv_at hl 0 rfl) ?_
  refine va_get (D := (dC, dI)) (ci := 7) (v := .ref bk) (C := RX7) (T := TX7) (N := 9) hx hb htw inlX7 hown hK hP 0 rfl rfl 1 (by decide) (htw _ (ck_13 _ (List.mem_of_getElem? (i := 6) rfl))) (fun _ h9 => h9) rfl dX7_beginNamed_1 ?_
  refine va_get (D := (dC, dI)) (ci := 0) (v := .ref bto) (C := RX0) (T := TX0) (N := 12) hx hb htw inlX0 hown hK hP 4 rfl rfl 0 (by decide) (htw _ (ck_15 _ (List.mem_of_getElem? (i := 23) rfl))) (fun _ h9 => h9) rfl dX7_beginNamed_4 ?_
  refine lv_iload_n hx hb dX7_beginNamed_7 rfl (lv_at hl 1 rfl) ?_
  refine va_iald hx hb hK hP 5 2 rfl rfl (by unfold vp_in; decide) dX7_beginNamed_8 ?_
  refine lv_istore_n (lv' := [(2, .int (fTo ((4 : Int32).toNatClampNeg))), (0, .ref pa), (1, .int 4)]) hx hb dX7_beginNamed_9 rfl hl (by decide) rfl (fun ls hl => ?_)
  refine lv_aload_n hx hb dX7_beginNamed_10 rfl (lv_at hl 1 rfl) ?_
  refine lv_iload_n hx hb dX7_beginNamed_11 rfl (lv_at hl 0 rfl) ?_
  refine va_getsN hx hb hXL.2.1 hS hown (va_Nw.use rfl (hXL.2.2.2.2.2.2.2.1)) (fun _ h9 => h9) dX7_beginNamed_12 ?_
  refine lv_iload_n hx hb dX7_beginNamed_15 rfl (lv_at hl 2 rfl) ?_
  refine va_ti hx hb hXL.2.2.1 hS (by unfold vp_in; decide) (v := .int 6) rfl dX7_beginNamed_16 ?_
  refine lv_icmp_lt (tgt := 24) hx hb dX7_beginNamed_17 (by decide) (fun c_1 => ?_) (fun c_1 => ?_)
  · refine lv_iconst (v := 0) hx hb dX7_beginNamed_24 (by decide) ?_
    refine lv_iconst (v := 2) hx hb dX7_beginNamed_25 (by decide) ?_
    refine lv_aload_n hx hb dX7_beginNamed_26 rfl (lv_at hl 1 rfl) ?_
    refine va_get (D := (dC, dI)) (ci := 7) (v := .ref lx) (C := RX7) (T := TX7) (N := 9) hx hb htw inlX7 hown hK hP 0 rfl rfl 0 (by decide) (htw _ (ck_3 _ (List.mem_of_getElem? (i := 5) rfl))) (fun _ h9 => h9) rfl dX7_beginNamed_27 ?_
    refine va_get (D := (dC, dI)) (ci := 3) (v := .int lxp) (C := RX3) (T := TX3) (N := 9) hx hb htw inlX3 hown hK hP 1 rfl rfl 6 (by decide) (htw _ (ck_15 _ (List.mem_of_getElem? (i := 13) rfl))) (fun _ h9 => h9) rfl dX7_beginNamed_30 ?_
    have hPc := hP.sub (ws' := []) [] rfl
    have hKc := hK.sub (tys' := []) [] rfl
    refine va_csv (W.runV (As := [.int 0, .int 2, .int lxp]) (rest := []) ⟨hx, hb, hml, hown, htw⟩ (gp_ref0 l dC dI (0 : Int32) (2 : Int32) lxp pa (gp_beginNamed4_s0 )) (cwV 3 htw (xg_V (ck_16 _ (List.mem_of_getElem? (i := 6) rfl)) (ck_16 _ (List.mem_of_getElem? (i := 7) rfl)) (ck_16 _ (List.mem_of_getElem? (i := 8) rfl)) (ck_1 _ (List.mem_of_getElem? (i := 16) rfl)) (ck_16 _ (List.mem_of_getElem? (i := 9) rfl))) rfl rfl rfl (by exact ⟨rfl, hdc_15.1, hdc_15.2, hdd_48⟩) ⟨Nat.le_of_ble_eq_true rfl, Nat.le_of_ble_eq_true rfl⟩) ⟨fun a U g mk q => by obtain ⟨q0, qP, qK⟩ := q; exact ⟨q0, qP, va_K.moved (u := U) (U := U.calling g mk a) (Vm.Alike.refl U.vm) qK⟩, va_recv hK hP (ci := 7) (q0 := 0) rfl rfl, fun U hU hW => ⟨rfl, by rw [hU]; exact hPc, va_K.moved hW.alike hKc⟩⟩ rfl rfl hl.1 rfl (lv_room (Nat.le_of_ble_eq_true rfl)) dX7_beginNamed_33 ⟨Nat.le_of_ble_eq_true rfl, Nat.le_of_ble_eq_true rfl⟩) (fun hw => ?_)
    try dsimp only at hw
    refine lv_aload_n hx hb dX7_beginNamed_36 rfl (lv_at hl 1 rfl) ?_
    refine va_get (D := (dC, dI)) (ci := 7) (v := .ref lx) (C := RX7) (T := TX7) (N := 9) hx hb htw inlX7 hown hK hP 0 rfl rfl 0 (by decide) (htw _ (ck_3 _ (List.mem_of_getElem? (i := 5) rfl))) (fun _ h9 => h9) rfl dX7_beginNamed_37 ?_
    obtain ⟨hPc, hDc, hFc, hCc⟩ := zsub3 (ws' := [(eO3a lx lby lfi lco lxe lxa lxt lxp lxn lxl), (eA0 lby cBy 900 fBy), (eA0 lco cCo 23 fCo)]) hP hD hS hA [1, 2, 3] (by decide) rfl
    have hKc := hK.sub (tys' := [(cBy, .byte), (cCo, .int)]) [0, 1] rfl
    refine va_callv (va_runV (As := []) (rest := []) ⟨hx, hb, hml, hown, htw⟩ (gz_advance l dC dI lx lby lfi lco lxe lxa lxt lxp lxn lxl cBy fBy cCo fCo H.size h0_lxa h9_lxe) (cwV 0 htw (xg_V (ck_16 _ (List.mem_of_getElem? (i := 11) rfl)) (ck_14 _ (List.mem_of_getElem? (i := 13) rfl)) (ck_14 _ (List.mem_of_getElem? (i := 14) rfl)) (ck_3 _ (List.mem_of_getElem? (i := 4) rfl)) (ck_14 _ (List.mem_of_getElem? (i := 15) rfl))) rfl rfl rfl (by exact ⟨rfl, hdc_4.1, hdc_4.2, hdd_13⟩) ⟨Nat.le_of_ble_eq_true rfl, Nat.le_of_ble_eq_true rfl⟩) ⟨fun a U g mk q => by obtain ⟨q0, q1, qP, qK, qD⟩ := q; exact ⟨q0, q1, qP, va_K.moved (u := U) (U := U.calling g mk a) (Vm.Alike.refl U.vm) qK, qD⟩, va_recv hKc hPc (ci := 3) (q0 := 0) rfl rfl, fun U hU hW => ⟨rfl, by rw [hU], by rw [hU]; exact hPc, va_K.moved hW.alike hKc, hDc.weaken (fun _ _ _ _ => trivial)⟩⟩ rfl rfl hl.1 rfl (lv_room (Nat.le_of_ble_eq_true rfl)) dX7_beginNamed_40 ⟨Nat.le_of_ble_eq_true rfl, Nat.le_of_ble_eq_true rfl⟩) hS (fun q _ h => hFc q h) hFc (fun u_4 t H1 locs ht hvm hw hB hz1 hk1 hS => ?_)
    try dsimp only at hw
    obtain ⟨hP1, hK1, hD1⟩ := hB
    rw [ht] at hP1
    have hK1 := va_K.moved hvm.symm hK1
    have hK1 : va_K (dC, dI) vwCl [] s := hK1
    obtain ⟨hP, hD⟩ := va_join (wr := [(eO7a pa lx bk pfa pfp psk phe phr phs pop), (eO0a bk bto bnm bla bsk bru bbo bdi bda bdk bdt bdp bno), (eA0 bto cTo 5 fTo), (eA4 bnm cNm 5 (fun k => some (Nm k))), (eA0 (Nm 4) cNr 12 (fNm 4))]) (w1 := [(eO3a lx lby lfi lco lxe u_4.1 u_4.2.1 u_4.2.2.1 u_4.2.2.2.1 u_4.2.2.2.2), (eA0 lby cBy 900 fBy), (eA0 lco cCo 23 fCo)]) hP hD [1, 2, 3] [0, 4, 5, 6, 7] hCc rfl (by decide) (by decide) hk1 hFc hP1 hD1
    generalize H1 = H at hP hS ⊢
    obtain ⟨hP, hD⟩ := zre [(eO7a pa lx bk pfa pfp psk phe phr phs pop), (eO0a bk bto bnm bla bsk bru bbo bdi bda bdk bdt bdp bno), (eA0 bto cTo 5 fTo), (eA4 bnm cNm 5 (fun k => some (Nm k))), (eA0 (Nm 4) cNr 12 (fNm 4)), (eO3a lx lby lfi lco lxe u_4.1 u_4.2.1 u_4.2.2.1 u_4.2.2.2.1 u_4.2.2.2.2), (eA0 lby cBy 900 fBy), (eA0 lco cCo 23 fCo)] hP hD rfl
    refine W.widen (k := 0) (n := 0) (by omega) (by omega) ?_
    obtain ⟨hw, hp_10⟩ := hw
    have hq_u_4 : u_4 = (fe_advance lxe lxa lxn lxl fBy fCo) := hw
    refine lv_aload_n hx hb dX7_beginNamed_43 rfl (lv_at hl 1 rfl) ?_
    refine lv_aload_n hx hb dX7_beginNamed_44 rfl (lv_at hl 1 rfl) ?_
    refine va_get (D := (dC, dI)) (ci := 7) (v := .ref lx) (C := RX7) (T := TX7) (N := 9) hx hb htw inlX7 hown hK hP 0 rfl rfl 0 (by decide) (htw _ (ck_3 _ (List.mem_of_getElem? (i := 5) rfl))) (fun _ h9 => h9) rfl dX7_beginNamed_45 ?_
    refine va_get (D := (dC, dI)) (ci := 3) (v := .int u_4.2.1) (C := RX3) (T := TX3) (N := 9) hx hb htw inlX3 hown hK hP 5 rfl rfl 5 (by decide) (htw _ (ck_13 _ (List.mem_of_getElem? (i := 9) rfl))) (fun _ h9 => h9) rfl dX7_beginNamed_48 ?_
    refine lv_bipush (v := 23) hx hb dX7_beginNamed_51 (by decide) ?_
    refine lv_icmp_eq (tgt := 60) hx hb dX7_beginNamed_53 (by decide) (fun c_11 => ?_) (fun c_11 => ?_)
    · refine lv_iconst (v := 0) hx hb dX7_beginNamed_60 (by decide) ?_
      refine lv_iconst (v := 1) hx hb dX7_beginNamed_61 (by decide) ?_
      refine lv_aload_n hx hb dX7_beginNamed_62 rfl (lv_at hl 1 rfl) ?_
      refine va_get (D := (dC, dI)) (ci := 7) (v := .ref lx) (C := RX7) (T := TX7) (N := 9) hx hb htw inlX7 hown hK hP 0 rfl rfl 0 (by decide) (htw _ (ck_3 _ (List.mem_of_getElem? (i := 5) rfl))) (fun _ h9 => h9) rfl dX7_beginNamed_63 ?_
      refine va_get (D := (dC, dI)) (ci := 3) (v := .int u_4.2.2.1) (C := RX3) (T := TX3) (N := 9) hx hb htw inlX3 hown hK hP 5 rfl rfl 6 (by decide) (htw _ (ck_15 _ (List.mem_of_getElem? (i := 13) rfl))) (fun _ h9 => h9) rfl dX7_beginNamed_66 ?_
      have hPc := hP.sub (ws' := []) [] rfl
      have hKc := hK.sub (tys' := []) [] rfl
      refine va_csv (W.runV (As := [.int 0, .int 1, .int u_4.2.2.1]) (rest := []) ⟨hx, hb, hml, hown, htw⟩ (gp_ref0 l dC dI (0 : Int32) (1 : Int32) u_4.2.2.1 pa (gp_beginNamed4_s1 )) (cwV 3 htw (xg_V (ck_16 _ (List.mem_of_getElem? (i := 6) rfl)) (ck_16 _ (List.mem_of_getElem? (i := 7) rfl)) (ck_16 _ (List.mem_of_getElem? (i := 8) rfl)) (ck_1 _ (List.mem_of_getElem? (i := 16) rfl)) (ck_16 _ (List.mem_of_getElem? (i := 9) rfl))) rfl rfl rfl (by exact ⟨rfl, hdc_15.1, hdc_15.2, hdd_48⟩) ⟨Nat.le_of_ble_eq_true rfl, Nat.le_of_ble_eq_true rfl⟩) ⟨fun a U g mk q => by obtain ⟨q0, qP, qK⟩ := q; exact ⟨q0, qP, va_K.moved (u := U) (U := U.calling g mk a) (Vm.Alike.refl U.vm) qK⟩, va_recv hK hP (ci := 7) (q0 := 0) rfl rfl, fun U hU hW => ⟨rfl, by rw [hU]; exact hPc, va_K.moved hW.alike hKc⟩⟩ rfl rfl hl.1 rfl (lv_room (Nat.le_of_ble_eq_true rfl)) dX7_beginNamed_69 ⟨Nat.le_of_ble_eq_true rfl, Nat.le_of_ble_eq_true rfl⟩) (fun hw => ?_)
      try dsimp only at hw
      refine lv_aload_n hx hb dX7_beginNamed_72 rfl (lv_at hl 1 rfl) ?_
      refine lv_aload_n hx hb dX7_beginNamed_73 rfl (lv_at hl 1 rfl) ?_
      refine va_get (D := (dC, dI)) (ci := 7) (v := .ref bk) (C := RX7) (T := TX7) (N := 9) hx hb htw inlX7 hown hK hP 0 rfl rfl 1 (by decide) (htw _ (ck_13 _ (List.mem_of_getElem? (i := 6) rfl))) (fun _ h9 => h9) rfl dX7_beginNamed_74 ?_
      refine lv_iload_n hx hb dX7_beginNamed_77 rfl (lv_at hl 2 rfl) ?_
      refine lv_aload_n hx hb dX7_beginNamed_78 rfl (lv_at hl 1 rfl) ?_
      refine va_get (D := (dC, dI)) (ci := 7) (v := .ref lx) (C := RX7) (T := TX7) (N := 9) hx hb htw inlX7 hown hK hP 0 rfl rfl 0 (by decide) (htw _ (ck_3 _ (List.mem_of_getElem? (i := 5) rfl))) (fun _ h9 => h9) rfl dX7_beginNamed_79 ?_
      refine va_get (D := (dC, dI)) (ci := 3) (v := .int u_4.2.2.2.2) (C := RX3) (T := TX3) (N := 9) hx hb htw inlX3 hown hK hP 5 rfl rfl 8 (by decide) (htw _ (ck_16 _ (List.mem_of_getElem? (i := 4) rfl))) (fun _ h9 => h9) rfl dX7_beginNamed_82 ?_
      have hPc := hP.sub (ws' := [(eO0a bk bto bnm bla bsk bru bbo bdi bda bdk bdt bdp bno), (eA0 bto cTo 5 fTo), (eA4 bnm cNm 5 (fun k => some (Nm k))), (eA0 (Nm 4) cNr 12 (fNm 4))]) [1, 2, 3, 4] rfl
      have hKc := hK.sub (tys' := [(cTo, .int), (cNm, .array .int), (cNr, .int)]) [2, 3, 4] rfl
      refine vp_callSi (W.runV (As := [.int 4, .int u_4.2.2.2.2]) (rest := [.ref pa]) ⟨hx, hb, hml, hown, htw⟩ (gb_find4 l dC dI bk bto bnm bla bsk bru bbo bdi bda bdk bdt bdp bno cTo fTo cNm Nm cNr fNm u_4.2.2.2.2) (cwV 2 htw (xg_V (ck_16 _ (List.mem_of_getElem? (i := 12) rfl)) (ck_16 _ (List.mem_of_getElem? (i := 13) rfl)) (ck_16 _ (List.mem_of_getElem? (i := 14) rfl)) (ck_1 _ (List.mem_of_getElem? (i := 20) rfl)) (ck_16 _ (List.mem_of_getElem? (i := 15) rfl))) rfl rfl rfl (by exact ⟨rfl, hdc_6.1, hdc_6.2, hdd_7⟩) ⟨Nat.le_of_ble_eq_true rfl, Nat.le_of_ble_eq_true rfl⟩) ⟨fun a U g mk q => by obtain ⟨q0, qP, qK⟩ := q; exact ⟨q0, qP, va_K.moved (u := U) (U := U.calling g mk a) (Vm.Alike.refl U.vm) qK⟩, va_recv hKc hPc (ci := 0) (q0 := 0) rfl rfl, fun U hU hW => ⟨rfl, by rw [hU]; exact hPc, va_K.moved hW.alike hKc⟩⟩ rfl rfl hl.1 rfl (lv_room (Nat.le_of_ble_eq_true rfl)) dX7_beginNamed_85 ⟨Nat.le_of_ble_eq_true rfl, Nat.le_of_ble_eq_true rfl⟩) (fun r_13 hw => ?_)
      try dsimp only at hw
      have hq_r_13 : r_13 = (fb_find4 fTo fNm u_4.2.2.2.2) := hw
      refine lv_iconst (v := (-1)) hx hb dX7_beginNamed_88 (by decide) ?_
      refine lv_icmp_eq (tgt := 96) hx hb dX7_beginNamed_89 (by decide) (fun c_14 => ?_) (fun c_14 => ?_)
      · refine lv_iconst (v := 0) hx hb dX7_beginNamed_96 (by decide) ?_
        refine lv_iconst (v := 3) hx hb dX7_beginNamed_97 (by decide) ?_
        refine lv_aload_n hx hb dX7_beginNamed_98 rfl (lv_at hl 1 rfl) ?_
        refine va_get (D := (dC, dI)) (ci := 7) (v := .ref lx) (C := RX7) (T := TX7) (N := 9) hx hb htw inlX7 hown hK hP 0 rfl rfl 0 (by decide) (htw _ (ck_3 _ (List.mem_of_getElem? (i := 5) rfl))) (fun _ h9 => h9) rfl dX7_beginNamed_99 ?_
        refine va_get (D := (dC, dI)) (ci := 3) (v := .int u_4.2.2.1) (C := RX3) (T := TX3) (N := 9) hx hb htw inlX3 hown hK hP 5 rfl rfl 6 (by decide) (htw _ (ck_15 _ (List.mem_of_getElem? (i := 13) rfl))) (fun _ h9 => h9) rfl dX7_beginNamed_102 ?_
        have hPc := hP.sub (ws' := []) [] rfl
        have hKc := hK.sub (tys' := []) [] rfl
        refine va_csv (W.runV (As := [.int 0, .int 3, .int u_4.2.2.1]) (rest := []) ⟨hx, hb, hml, hown, htw⟩ (gp_ref0 l dC dI (0 : Int32) (3 : Int32) u_4.2.2.1 pa (gp_beginNamed4_s2 )) (cwV 3 htw (xg_V (ck_16 _ (List.mem_of_getElem? (i := 6) rfl)) (ck_16 _ (List.mem_of_getElem? (i := 7) rfl)) (ck_16 _ (List.mem_of_getElem? (i := 8) rfl)) (ck_1 _ (List.mem_of_getElem? (i := 16) rfl)) (ck_16 _ (List.mem_of_getElem? (i := 9) rfl))) rfl rfl rfl (by exact ⟨rfl, hdc_15.1, hdc_15.2, hdd_48⟩) ⟨Nat.le_of_ble_eq_true rfl, Nat.le_of_ble_eq_true rfl⟩) ⟨fun a U g mk q => by obtain ⟨q0, qP, qK⟩ := q; exact ⟨q0, qP, va_K.moved (u := U) (U := U.calling g mk a) (Vm.Alike.refl U.vm) qK⟩, va_recv hK hP (ci := 7) (q0 := 0) rfl rfl, fun U hU hW => ⟨rfl, by rw [hU]; exact hPc, va_K.moved hW.alike hKc⟩⟩ rfl rfl hl.1 rfl (lv_room (Nat.le_of_ble_eq_true rfl)) dX7_beginNamed_105 ⟨Nat.le_of_ble_eq_true rfl, Nat.le_of_ble_eq_true rfl⟩) (fun hw => ?_)
        try dsimp only at hw
        refine lv_aload_n hx hb dX7_beginNamed_108 rfl (lv_at hl 1 rfl) ?_
        refine va_get (D := (dC, dI)) (ci := 7) (v := .ref bk) (C := RX7) (T := TX7) (N := 9) hx hb htw inlX7 hown hK hP 0 rfl rfl 1 (by decide) (htw _ (ck_13 _ (List.mem_of_getElem? (i := 6) rfl))) (fun _ h9 => h9) rfl dX7_beginNamed_109 ?_
        refine va_get (D := (dC, dI)) (ci := 0) (v := .ref bnm) (C := RX0) (T := TX0) (N := 12) hx hb htw inlX0 hown hK hP 1 rfl rfl 1 (by decide) (htw _ (ck_16 _ (List.mem_of_getElem? (i := 5) rfl))) (fun _ h9 => h9) rfl dX7_beginNamed_112 ?_
        refine lv_iload_n hx hb dX7_beginNamed_115 rfl (lv_at hl 2 rfl) ?_
        refine xg_aldq hx hb hK hP 3 3 rfl rfl rfl (by unfold vp_in; decide) dX7_beginNamed_116 ?_
        refine W.eq (g2 := F0 m 117 ls [.ref (Nm 4)]) rfl ?_
        refine lv_iload_n hx hb dX7_beginNamed_117 rfl (lv_at hl 0 rfl) ?_
        refine lv_aload_n hx hb dX7_beginNamed_118 rfl (lv_at hl 1 rfl) ?_
        refine va_get (D := (dC, dI)) (ci := 7) (v := .ref lx) (C := RX7) (T := TX7) (N := 9) hx hb htw inlX7 hown hK hP 0 rfl rfl 0 (by decide) (htw _ (ck_3 _ (List.mem_of_getElem? (i := 5) rfl))) (fun _ h9 => h9) rfl dX7_beginNamed_119 ?_
        refine va_get (D := (dC, dI)) (ci := 3) (v := .int u_4.2.2.2.2) (C := RX3) (T := TX3) (N := 9) hx hb htw inlX3 hown hK hP 5 rfl rfl 8 (by decide) (htw _ (ck_16 _ (List.mem_of_getElem? (i := 4) rfl))) (fun _ h9 => h9) rfl dX7_beginNamed_122 ?_
        refine va_iast hx hb hK hP hD hS 4 4 rfl rfl (xg_inr (N := 12) rfl (gp_beginNamed4_s3 (y0 := fTo ((4 : Int32).toNatClampNeg)) c_1 hT.2.2.2.2.1 hT.2.2.2.2.2).1 (gp_beginNamed4_s3 (y0 := fTo ((4 : Int32).toNatClampNeg)) c_1 hT.2.2.2.2.1 hT.2.2.2.2.2).2) dX7_beginNamed_125 (fun H locs hP hD hS => ?_)
        obtain ⟨hP, hD⟩ := zre [(eO7a pa lx bk pfa pfp psk phe phr phs pop), (eO0a bk bto bnm bla bsk bru bbo bdi bda bdk bdt bdp bno), (eA0 bto cTo 5 fTo), (eA4 bnm cNm 5 (fun k => some (Nm k))), (eA0 (Nm 4) cNr 12 (upd (fNm 4) ((fTo ((4 : Int32).toNatClampNeg)).toNatClampNeg) u_4.2.2.2.2)), (eO3a lx lby lfi lco lxe u_4.1 u_4.2.1 u_4.2.2.1 u_4.2.2.2.1 u_4.2.2.2.2), (eA0 lby cBy 900 fBy), (eA0 lco cCo 23 fCo)] hP hD rfl
        refine lv_aload_n hx hb dX7_beginNamed_126 rfl (lv_at hl 1 rfl) ?_
        refine va_get (D := (dC, dI)) (ci := 7) (v := .ref lx) (C := RX7) (T := TX7) (N := 9) hx hb htw inlX7 hown hK hP 0 rfl rfl 0 (by decide) (htw _ (ck_3 _ (List.mem_of_getElem? (i := 5) rfl))) (fun _ h9 => h9) rfl dX7_beginNamed_127 ?_
        obtain ⟨hPc, hDc, hFc, hCc⟩ := zsub3 (ws' := [(eO3a lx lby lfi lco lxe u_4.1 u_4.2.1 u_4.2.2.1 u_4.2.2.2.1 u_4.2.2.2.2), (eA0 lby cBy 900 fBy), (eA0 lco cCo 23 fCo)]) hP hD hS hA [5, 6, 7] (by decide) rfl
        have hKc := hK.sub (tys' := [(cBy, .byte), (cCo, .int)]) [0, 1] rfl
        refine va_callv (va_runV (As := []) (rest := []) ⟨hx, hb, hml, hown, htw⟩ (gz_advance l dC dI lx lby lfi lco lxe u_4.1 u_4.2.1 u_4.2.2.1 u_4.2.2.2.1 u_4.2.2.2.2 cBy fBy cCo fCo H.size (gp_beginNamed4_s4 (y0 := u_4.1) hp_10) h9_lxe) (cwV 0 htw (xg_V (ck_16 _ (List.mem_of_getElem? (i := 11) rfl)) (ck_14 _ (List.mem_of_getElem? (i := 13) rfl)) (ck_14 _ (List.mem_of_getElem? (i := 14) rfl)) (ck_3 _ (List.mem_of_getElem? (i := 4) rfl)) (ck_14 _ (List.mem_of_getElem? (i := 15) rfl))) rfl rfl rfl (by exact ⟨rfl, hdc_4.1, hdc_4.2, hdd_13⟩) ⟨Nat.le_of_ble_eq_true rfl, Nat.le_of_ble_eq_true rfl⟩) ⟨fun a U g mk q => by obtain ⟨q0, q1, qP, qK, qD⟩ := q; exact ⟨q0, q1, qP, va_K.moved (u := U) (U := U.calling g mk a) (Vm.Alike.refl U.vm) qK, qD⟩, va_recv hKc hPc (ci := 3) (q0 := 0) rfl rfl, fun U hU hW => ⟨rfl, by rw [hU], by rw [hU]; exact hPc, va_K.moved hW.alike hKc, hDc.weaken (fun _ _ _ _ => trivial)⟩⟩ rfl rfl hl.1 rfl (lv_room (Nat.le_of_ble_eq_true rfl)) dX7_beginNamed_130 ⟨Nat.le_of_ble_eq_true rfl, Nat.le_of_ble_eq_true rfl⟩) hS (fun q _ h => hFc q h) hFc (fun u_18 t H1 locs ht hvm hw hB hz1 hk1 hS => ?_)
        try dsimp only at hw
        obtain ⟨hP1, hK1, hD1⟩ := hB
        rw [ht] at hP1
        have hK1 := va_K.moved hvm.symm hK1
        have hK1 : va_K (dC, dI) vwCl [] s := hK1
        obtain ⟨hP, hD⟩ := va_join (wr := [(eO7a pa lx bk pfa pfp psk phe phr phs pop), (eO0a bk bto bnm bla bsk bru bbo bdi bda bdk bdt bdp bno), (eA0 bto cTo 5 fTo), (eA4 bnm cNm 5 (fun k => some (Nm k))), (eA0 (Nm 4) cNr 12 (upd (fNm 4) ((fTo ((4 : Int32).toNatClampNeg)).toNatClampNeg) u_4.2.2.2.2))]) (w1 := [(eO3a lx lby lfi lco lxe u_18.1 u_18.2.1 u_18.2.2.1 u_18.2.2.2.1 u_18.2.2.2.2), (eA0 lby cBy 900 fBy), (eA0 lco cCo 23 fCo)]) hP hD [5, 6, 7] [0, 1, 2, 3, 4] hCc rfl (by decide) (by decide) hk1 hFc hP1 hD1
        generalize H1 = H at hP hS ⊢
        obtain ⟨hP, hD⟩ := zre [(eO7a pa lx bk pfa pfp psk phe phr phs pop), (eO0a bk bto bnm bla bsk bru bbo bdi bda bdk bdt bdp bno), (eA0 bto cTo 5 fTo), (eA4 bnm cNm 5 (fun k => some (Nm k))), (eA0 (Nm 4) cNr 12 (upd (fNm 4) ((fTo ((4 : Int32).toNatClampNeg)).toNatClampNeg) u_4.2.2.2.2)), (eO3a lx lby lfi lco lxe u_18.1 u_18.2.1 u_18.2.2.1 u_18.2.2.2.1 u_18.2.2.2.2), (eA0 lby cBy 900 fBy), (eA0 lco cCo 23 fCo)] hP hD rfl
        refine W.widen (k := 0) (n := 0) (by omega) (by omega) ?_
        obtain ⟨hw, hp_24⟩ := hw
        have hq_u_18 : u_18 = (fe_advance lxe u_4.1 u_4.2.2.2.1 u_4.2.2.2.2 fBy fCo) := hw
        refine lv_iload_n hx hb dX7_beginNamed_133 rfl (lv_at hl 0 rfl) ?_
        refine xs_size (fun hHz => ?_)
        refine vx_ret ?_
        refine W.widen (k := 1) (n := 6) (by omega) (by omega) ?_
        obtain ⟨hP9, hD9⟩ := zsub2 (ws' := [(eO7a pa lx bk pfa pfp psk phe phr phs pop), (eO3a lx lby lfi lco lxe u_18.1 u_18.2.1 u_18.2.2.1 u_18.2.2.2.1 u_18.2.2.2.2), (eA0 lby cBy 900 fBy), (eA0 lco cCo 23 fCo), (eO0a bk bto bnm bla bsk bru bbo bdi bda bdk bdt bdp bno), (eA0 bto cTo 5 fTo), (eA4 bnm cNm 5 (fun k => some (Nm k))), (eA0 (Nm 4) cNr 12 (upd (fNm 4) ((fTo ((4 : Int32).toNatClampNeg)).toNatClampNeg) u_4.2.2.2.2))]) hP hD [0, 5, 6, 7, 1, 2, 3, 4] (by decide +kernel) rfl
        have hK9 := hK.sub (tys' := []) [] rfl
        exact W.iret (v := fTo ((4 : Int32).toNatClampNeg)) hx hb hr (fun t ht hW => ⟨⟨fTo ((4 : Int32).toNatClampNeg), (pfa, pfp, u_18.1, u_18.2.1, u_18.2.2.1, u_18.2.2.2.1, u_18.2.2.2.2, (va_up fNm 4 (upd (fNm 4) ((fTo ((4 : Int32).toNatClampNeg)).toNatClampNeg) u_4.2.2.2.2))), rfl, ⟨((fun e9 => ⟨by rw [e9], by rw [e9], by rw [e9]⟩ : fp_beginNamed4 pfa pfp lxe lxa lxt lxp lxn lxl fBy fCo fTo fNm = ((0 : Int32), fTo ((4 : Int32).toNatClampNeg), pfa, pfp, u_18.1, u_18.2.1, u_18.2.2.1, u_18.2.2.2.1, u_18.2.2.2.2, (va_up fNm 4 (upd (fNm 4) ((fTo ((4 : Int32).toNatClampNeg)).toNatClampNeg) u_4.2.2.2.2))) → _) ((by rw [fp_beginNamed4]; (try rw [if_pos c_1]); (try rw [← hq_u_4]); (try rw [xL_eq]); (try rw [if_pos c_11]); (try rw [← hq_r_13]); (try rw [xL_eq]); (try rw [if_pos c_14]); (try rw [← hq_u_18]); (try rw [xL_eq]); try rfl))), (gp_beginNamed4_s5 (y0 := u_18.1) hp_24), (gp_beginNamed4_s6 (y0 := fTo ((4 : Int32).toNatClampNeg)) c_1 hT.2.2.2.2.1 hT.2.2.2.2.2), (gp_beginNamed4_s7 (y0 := fTo ((4 : Int32).toNatClampNeg)) c_1 hT.2.2.2.2.1 hT.2.2.2.2.2), (gp_beginNamed4_s8 (y0 := fTo ((4 : Int32).toNatClampNeg)) c_1 hT.2.2.2.2.1 hT.2.2.2.2.2)⟩, ⟨by rw [ht]; exact hP9, va_K.moved hW.alike hK9, hD9⟩, by rw [ht]; first | exact hHz | exact hHz.trans (by rw [rH])⟩, hS.F ht⟩) hS.2.2 dX7_beginNamed_134
      · refine lv_iconst (v := 1) hx hb dX7_beginNamed_92 (by decide) ?_
        refine lv_goto (tgt := 97) hx hb dX7_beginNamed_93 (by decide) ?_
        refine lv_iconst (v := 3) hx hb dX7_beginNamed_97 (by decide) ?_
        refine lv_aload_n hx hb dX7_beginNamed_98 rfl (lv_at hl 1 rfl) ?_
        refine va_get (D := (dC, dI)) (ci := 7) (v := .ref lx) (C := RX7) (T := TX7) (N := 9) hx hb htw inlX7 hown hK hP 0 rfl rfl 0 (by decide) (htw _ (ck_3 _ (List.mem_of_getElem? (i := 5) rfl))) (fun _ h9 => h9) rfl dX7_beginNamed_99 ?_
        refine va_get (D := (dC, dI)) (ci := 3) (v := .int u_4.2.2.1) (C := RX3) (T := TX3) (N := 9) hx hb htw inlX3 hown hK hP 5 rfl rfl 6 (by decide) (htw _ (ck_15 _ (List.mem_of_getElem? (i := 13) rfl))) (fun _ h9 => h9) rfl dX7_beginNamed_102 ?_
        refine xs_size (fun hHz => ?_)
        obtain ⟨hPc, hDc, hFc, hCc⟩ := zsub3 (ws' := [(eO7a pa lx bk pfa pfp psk phe phr phs pop)]) hP hD hS hA [0] (by decide) rfl
        have hKc := hK.sub (tys' := []) [] rfl
        refine vx_callv (vx_runV (As := [.int 1, .int 3, .int u_4.2.2.1]) (rest := []) ⟨hx, hb, hml, hown, htw⟩ (gp_refT l hst dC dI pa lx bk pfa pfp psk phe phr phs pop (1 : Int32) (3 : Int32) u_4.2.2.1 sL H.size (gp_beginNamed4_s9 )) (cwV 3 htw (xg_V (ck_16 _ (List.mem_of_getElem? (i := 6) rfl)) (ck_16 _ (List.mem_of_getElem? (i := 7) rfl)) (ck_16 _ (List.mem_of_getElem? (i := 8) rfl)) (ck_1 _ (List.mem_of_getElem? (i := 16) rfl)) (ck_16 _ (List.mem_of_getElem? (i := 9) rfl))) rfl rfl rfl (by exact ⟨rfl, hdc_15.1, hdc_15.2, hdd_48⟩) ⟨Nat.le_of_ble_eq_true rfl, Nat.le_of_ble_eq_true rfl⟩) ⟨fun a U g mk q => by obtain ⟨q0, q1, qP, qK, qD, qx0⟩ := q; exact ⟨q0, q1, qP, va_K.moved (u := U) (U := U.calling g mk a) (Vm.Alike.refl U.vm) qK, qD, xl.calling qx0⟩, va_recv hKc hPc (ci := 7) (q0 := 0) rfl rfl, fun U hU hW => ⟨rfl, by rw [hU], by rw [hU]; exact hPc, va_K.moved hW.alike hKc, hDc.weaken (fun _ _ _ _ => trivial), by rw [hU]; exact xl.warm hW ((xl.kept hXL hS.2.1).narrow hFc)⟩⟩ rfl rfl hl.1 rfl (lv_room (Nat.le_of_ble_eq_true rfl)) dX7_beginNamed_105 ⟨Nat.le_of_ble_eq_true rfl, Nat.le_of_ble_eq_true rfl⟩) hS (fun q _ h => hFc q h) hFc (fun q _ h => hFc q h) (fun E ce q9 u_25 t H1 locs ht hvm hw hB hz1 hk1 hS hcell hcv hcl => ?_) (fun u_27 t H1 locs ht hvm hw hB hz1 hk1 hS => hw.elim)
        obtain ⟨hE9, hB⟩ := hB
        subst hE9
        obtain ⟨hP1, hK1, hD1⟩ := hB
        rw [ht] at hP1
        have hK1 := va_K.moved hvm.symm hK1
        have hK1 : va_K (dC, dI) vwCl [] s := hK1
        obtain ⟨hP, hD⟩ := va_join (wr := [(eO0a bk bto bnm bla bsk bru bbo bdi bda bdk bdt bdp bno), (eA0 bto cTo 5 fTo), (eA4 bnm cNm 5 (fun k => some (Nm k))), (eA0 (Nm 4) cNr 12 (fNm 4)), (eO3a lx lby lfi lco lxe u_4.1 u_4.2.1 u_4.2.2.1 u_4.2.2.2.1 u_4.2.2.2.2), (eA0 lby cBy 900 fBy), (eA0 lco cCo 23 fCo)]) (w1 := [(eO7a pa lx bk 3 u_4.2.2.1 psk phe phr phs pop)]) hP hD [0] [1, 2, 3, 4, 5, 6, 7] hCc rfl (by decide) (by decide) hk1 hFc hP1 hD1
        generalize H1 = H at hP hS hcell ⊢
        obtain ⟨hP, hD⟩ := zre [(eO0a bk bto bnm bla bsk bru bbo bdi bda bdk bdt bdp bno), (eA0 bto cTo 5 fTo), (eA4 bnm cNm 5 (fun k => some (Nm k))), (eA0 (Nm 4) cNr 12 (fNm 4)), (eO3a lx lby lfi lco lxe u_4.1 u_4.2.1 u_4.2.2.1 u_4.2.2.2.1 u_4.2.2.2.2), (eA0 lby cBy 900 fBy), (eA0 lco cCo 23 fCo), (eO7a pa lx bk 3 u_4.2.2.1 psk phe phr phs pop)] hP hD rfl
        obtain ⟨hP9, hD9⟩ := zsub2 (ws' := [(eO7a pa lx bk 3 u_4.2.2.1 psk phe phr phs pop), (eO3a lx lby lfi lco lxe u_4.1 u_4.2.1 u_4.2.2.1 u_4.2.2.2.1 u_4.2.2.2.2), (eA0 lby cBy 900 fBy), (eA0 lco cCo 23 fCo), (eO0a bk bto bnm bla bsk bru bbo bdi bda bdk bdt bdp bno), (eA0 bto cTo 5 fTo), (eA4 bnm cNm 5 (fun k => some (Nm k))), (eA0 (Nm 4) cNr 12 (fNm 4))]) hP hD [7, 4, 5, 6, 0, 1, 2, 3] (by decide +kernel) rfl
        have hK9 := hK.sub (tys' := []) [] rfl
        exact vx_widen (k := 1) (n := 6) (Nat.le_of_ble_eq_true rfl) (Nat.le_of_ble_eq_true rfl) (vx_out (fun x h9 => (hex x h9).elim) hlocks hcell hcv hcl (fun t ht hal => ⟨(3, u_4.2.2.1, u_4.1, u_4.2.1, u_4.2.2.1, u_4.2.2.2.1, u_4.2.2.2.2, fNm), ((fun e9 => ⟨by rw [e9], by rw [e9]⟩ : fp_beginNamed4 pfa pfp lxe lxa lxt lxp lxn lxl fBy fCo fTo fNm = ((1 : Int32), (0 : Int32), (3 : Int32), u_4.2.2.1, u_4.1, u_4.2.1, u_4.2.2.1, u_4.2.2.2.1, u_4.2.2.2.2, fNm) → _) ((by rw [fp_beginNamed4]; (try rw [if_pos c_1]); (try rw [← hq_u_4]); (try rw [xL_eq]); (try rw [if_pos c_11]); (try rw [← hq_r_13]); (try rw [xL_eq]); (try rw [if_neg c_14]); try rfl))), ⟨rfl, by rw [ht]; exact hP9, va_K.moved hal hK9, hD9⟩, hS.F ht⟩) hS.2.2 (Nat.le_of_ble_eq_true rfl) (Nat.le_of_ble_eq_true rfl))
    · refine lv_iconst (v := 1) hx hb dX7_beginNamed_56 (by decide) ?_
      refine lv_goto (tgt := 61) hx hb dX7_beginNamed_57 (by decide) ?_
      refine lv_iconst (v := 1) hx hb dX7_beginNamed_61 (by decide) ?_
      refine lv_aload_n hx hb dX7_beginNamed_62 rfl (lv_at hl 1 rfl) ?_
      refine va_get (D := (dC, dI)) (ci := 7) (v := .ref lx) (C := RX7) (T := TX7) (N := 9) hx hb htw inlX7 hown hK hP 0 rfl rfl 0 (by decide) (htw _ (ck_3 _ (List.mem_of_getElem? (i := 5) rfl))) (fun _ h9 => h9) rfl dX7_beginNamed_63 ?_
      refine va_get (D := (dC, dI)) (ci := 3) (v := .int u_4.2.2.1) (C := RX3) (T := TX3) (N := 9) hx hb htw inlX3 hown hK hP 5 rfl rfl 6 (by decide) (htw _ (ck_15 _ (List.mem_of_getElem? (i := 13) rfl))) (fun _ h9 => h9) rfl dX7_beginNamed_66 ?_
      refine xs_size (fun hHz => ?_)
      obtain ⟨hPc, hDc, hFc, hCc⟩ := zsub3 (ws' := [(eO7a pa lx bk pfa pfp psk phe phr phs pop)]) hP hD hS hA [0] (by decide) rfl
      have hKc := hK.sub (tys' := []) [] rfl
      refine vx_callv (vx_runV (As := [.int 1, .int 1, .int u_4.2.2.1]) (rest := []) ⟨hx, hb, hml, hown, htw⟩ (gp_refT l hst dC dI pa lx bk pfa pfp psk phe phr phs pop (1 : Int32) (1 : Int32) u_4.2.2.1 sL H.size (gp_beginNamed4_s10 )) (cwV 3 htw (xg_V (ck_16 _ (List.mem_of_getElem? (i := 6) rfl)) (ck_16 _ (List.mem_of_getElem? (i := 7) rfl)) (ck_16 _ (List.mem_of_getElem? (i := 8) rfl)) (ck_1 _ (List.mem_of_getElem? (i := 16) rfl)) (ck_16 _ (List.mem_of_getElem? (i := 9) rfl))) rfl rfl rfl (by exact ⟨rfl, hdc_15.1, hdc_15.2, hdd_48⟩) ⟨Nat.le_of_ble_eq_true rfl, Nat.le_of_ble_eq_true rfl⟩) ⟨fun a U g mk q => by obtain ⟨q0, q1, qP, qK, qD, qx0⟩ := q; exact ⟨q0, q1, qP, va_K.moved (u := U) (U := U.calling g mk a) (Vm.Alike.refl U.vm) qK, qD, xl.calling qx0⟩, va_recv hKc hPc (ci := 7) (q0 := 0) rfl rfl, fun U hU hW => ⟨rfl, by rw [hU], by rw [hU]; exact hPc, va_K.moved hW.alike hKc, hDc.weaken (fun _ _ _ _ => trivial), by rw [hU]; exact xl.warm hW ((xl.kept hXL hS.2.1).narrow hFc)⟩⟩ rfl rfl hl.1 rfl (lv_room (Nat.le_of_ble_eq_true rfl)) dX7_beginNamed_69 ⟨Nat.le_of_ble_eq_true rfl, Nat.le_of_ble_eq_true rfl⟩) hS (fun q _ h => hFc q h) hFc (fun q _ h => hFc q h) (fun E ce q9 u_28 t H1 locs ht hvm hw hB hz1 hk1 hS hcell hcv hcl => ?_) (fun u_30 t H1 locs ht hvm hw hB hz1 hk1 hS => hw.elim)
      obtain ⟨hE9, hB⟩ := hB
      subst hE9
      obtain ⟨hP1, hK1, hD1⟩ := hB
      rw [ht] at hP1
      have hK1 := va_K.moved hvm.symm hK1
      have hK1 : va_K (dC, dI) vwCl [] s := hK1
      obtain ⟨hP, hD⟩ := va_join (wr := [(eO0a bk bto bnm bla bsk bru bbo bdi bda bdk bdt bdp bno), (eA0 bto cTo 5 fTo), (eA4 bnm cNm 5 (fun k => some (Nm k))), (eA0 (Nm 4) cNr 12 (fNm 4)), (eO3a lx lby lfi lco lxe u_4.1 u_4.2.1 u_4.2.2.1 u_4.2.2.2.1 u_4.2.2.2.2), (eA0 lby cBy 900 fBy), (eA0 lco cCo 23 fCo)]) (w1 := [(eO7a pa lx bk 1 u_4.2.2.1 psk phe phr phs pop)]) hP hD [0] [1, 2, 3, 4, 5, 6, 7] hCc rfl (by decide) (by decide) hk1 hFc hP1 hD1
      generalize H1 = H at hP hS hcell ⊢
      obtain ⟨hP, hD⟩ := zre [(eO0a bk bto bnm bla bsk bru bbo bdi bda bdk bdt bdp bno), (eA0 bto cTo 5 fTo), (eA4 bnm cNm 5 (fun k => some (Nm k))), (eA0 (Nm 4) cNr 12 (fNm 4)), (eO3a lx lby lfi lco lxe u_4.1 u_4.2.1 u_4.2.2.1 u_4.2.2.2.1 u_4.2.2.2.2), (eA0 lby cBy 900 fBy), (eA0 lco cCo 23 fCo), (eO7a pa lx bk 1 u_4.2.2.1 psk phe phr phs pop)] hP hD rfl
      obtain ⟨hP9, hD9⟩ := zsub2 (ws' := [(eO7a pa lx bk 1 u_4.2.2.1 psk phe phr phs pop), (eO3a lx lby lfi lco lxe u_4.1 u_4.2.1 u_4.2.2.1 u_4.2.2.2.1 u_4.2.2.2.2), (eA0 lby cBy 900 fBy), (eA0 lco cCo 23 fCo), (eO0a bk bto bnm bla bsk bru bbo bdi bda bdk bdt bdp bno), (eA0 bto cTo 5 fTo), (eA4 bnm cNm 5 (fun k => some (Nm k))), (eA0 (Nm 4) cNr 12 (fNm 4))]) hP hD [7, 4, 5, 6, 0, 1, 2, 3] (by decide +kernel) rfl
      have hK9 := hK.sub (tys' := []) [] rfl
      exact vx_widen (k := 1) (n := 6) (Nat.le_of_ble_eq_true rfl) (Nat.le_of_ble_eq_true rfl) (vx_out (fun x h9 => (hex x h9).elim) hlocks hcell hcv hcl (fun t ht hal => ⟨(1, u_4.2.2.1, u_4.1, u_4.2.1, u_4.2.2.1, u_4.2.2.2.1, u_4.2.2.2.2, fNm), ((fun e9 => ⟨by rw [e9], by rw [e9]⟩ : fp_beginNamed4 pfa pfp lxe lxa lxt lxp lxn lxl fBy fCo fTo fNm = ((1 : Int32), (0 : Int32), (1 : Int32), u_4.2.2.1, u_4.1, u_4.2.1, u_4.2.2.1, u_4.2.2.2.1, u_4.2.2.2.2, fNm) → _) ((by rw [fp_beginNamed4]; (try rw [if_pos c_1]); (try rw [← hq_u_4]); (try rw [xL_eq]); (try rw [if_neg c_11]); try rfl))), ⟨rfl, by rw [ht]; exact hP9, va_K.moved hal hK9, hD9⟩, hS.F ht⟩) hS.2.2 (Nat.le_of_ble_eq_true rfl) (Nat.le_of_ble_eq_true rfl))
  · refine lv_iconst (v := 1) hx hb dX7_beginNamed_20 (by decide) ?_
    refine lv_goto (tgt := 25) hx hb dX7_beginNamed_21 (by decide) ?_
    refine lv_iconst (v := 2) hx hb dX7_beginNamed_25 (by decide) ?_
    refine lv_aload_n hx hb dX7_beginNamed_26 rfl (lv_at hl 1 rfl) ?_
    refine va_get (D := (dC, dI)) (ci := 7) (v := .ref lx) (C := RX7) (T := TX7) (N := 9) hx hb htw inlX7 hown hK hP 0 rfl rfl 0 (by decide) (htw _ (ck_3 _ (List.mem_of_getElem? (i := 5) rfl))) (fun _ h9 => h9) rfl dX7_beginNamed_27 ?_
    refine va_get (D := (dC, dI)) (ci := 3) (v := .int lxp) (C := RX3) (T := TX3) (N := 9) hx hb htw inlX3 hown hK hP 1 rfl rfl 6 (by decide) (htw _ (ck_15 _ (List.mem_of_getElem? (i := 13) rfl))) (fun _ h9 => h9) rfl dX7_beginNamed_30 ?_
    refine xs_size (fun hHz => ?_)
    obtain ⟨hPc, hDc, hFc, hCc⟩ := zsub3 (ws' := [(eO7a pa lx bk pfa pfp psk phe phr phs pop)]) hP hD hS hA [0] (by decide) rfl
    have hKc := hK.sub (tys' := []) [] rfl
    refine vx_callv (vx_runV (As := [.int 1, .int 2, .int lxp]) (rest := []) ⟨hx, hb, hml, hown, htw⟩ (gp_refT l hst dC dI pa lx bk pfa pfp psk phe phr phs pop (1 : Int32) (2 : Int32) lxp sL H.size (gp_beginNamed4_s11 )) (cwV 3 htw (xg_V (ck_16 _ (List.mem_of_getElem? (i := 6) rfl)) (ck_16 _ (List.mem_of_getElem? (i := 7) rfl)) (ck_16 _ (List.mem_of_getElem? (i := 8) rfl)) (ck_1 _ (List.mem_of_getElem? (i := 16) rfl)) (ck_16 _ (List.mem_of_getElem? (i := 9) rfl))) rfl rfl rfl (by exact ⟨rfl, hdc_15.1, hdc_15.2, hdd_48⟩) ⟨Nat.le_of_ble_eq_true rfl, Nat.le_of_ble_eq_true rfl⟩) ⟨fun a U g mk q => by obtain ⟨q0, q1, qP, qK, qD, qx0⟩ := q; exact ⟨q0, q1, qP, va_K.moved (u := U) (U := U.calling g mk a) (Vm.Alike.refl U.vm) qK, qD, xl.calling qx0⟩, va_recv hKc hPc (ci := 7) (q0 := 0) rfl rfl, fun U hU hW => ⟨rfl, by rw [hU], by rw [hU]; exact hPc, va_K.moved hW.alike hKc, hDc.weaken (fun _ _ _ _ => trivial), by rw [hU]; exact xl.warm hW ((xl.kept hXL hS.2.1).narrow hFc)⟩⟩ rfl rfl hl.1 rfl (lv_room (Nat.le_of_ble_eq_true rfl)) dX7_beginNamed_33 ⟨Nat.le_of_ble_eq_true rfl, Nat.le_of_ble_eq_true rfl⟩) hS (fun q _ h => hFc q h) hFc (fun q _ h => hFc q h) (fun E ce q9 u_31 t H1 locs ht hvm hw hB hz1 hk1 hS hcell hcv hcl => ?_) (fun u_33 t H1 locs ht hvm hw hB hz1 hk1 hS => hw.elim)
    obtain ⟨hE9, hB⟩ := hB
    subst hE9
    obtain ⟨hP1, hK1, hD1⟩ := hB
    rw [ht] at hP1
    have hK1 := va_K.moved hvm.symm hK1
    have hK1 : va_K (dC, dI) vwCl [] s := hK1
    obtain ⟨hP, hD⟩ := va_join (wr := [(eO3a lx lby lfi lco lxe lxa lxt lxp lxn lxl), (eA0 lby cBy 900 fBy), (eA0 lco cCo 23 fCo), (eO0a bk bto bnm bla bsk bru bbo bdi bda bdk bdt bdp bno), (eA0 bto cTo 5 fTo), (eA4 bnm cNm 5 (fun k => some (Nm k))), (eA0 (Nm 4) cNr 12 (fNm 4))]) (w1 := [(eO7a pa lx bk 2 lxp psk phe phr phs pop)]) hP hD [0] [1, 2, 3, 4, 5, 6, 7] hCc rfl (by decide) (by decide) hk1 hFc hP1 hD1
    generalize H1 = H at hP hS hcell ⊢
    obtain ⟨hP, hD⟩ := zre [(eO3a lx lby lfi lco lxe lxa lxt lxp lxn lxl), (eA0 lby cBy 900 fBy), (eA0 lco cCo 23 fCo), (eO0a bk bto bnm bla bsk bru bbo bdi bda bdk bdt bdp bno), (eA0 bto cTo 5 fTo), (eA4 bnm cNm 5 (fun k => some (Nm k))), (eA0 (Nm 4) cNr 12 (fNm 4)), (eO7a pa lx bk 2 lxp psk phe phr phs pop)] hP hD rfl
    obtain ⟨hP9, hD9⟩ := zsub2 (ws' := [(eO7a pa lx bk 2 lxp psk phe phr phs pop), (eO3a lx lby lfi lco lxe lxa lxt lxp lxn lxl), (eA0 lby cBy 900 fBy), (eA0 lco cCo 23 fCo), (eO0a bk bto bnm bla bsk bru bbo bdi bda bdk bdt bdp bno), (eA0 bto cTo 5 fTo), (eA4 bnm cNm 5 (fun k => some (Nm k))), (eA0 (Nm 4) cNr 12 (fNm 4))]) hP hD [7, 0, 1, 2, 3, 4, 5, 6] (by decide +kernel) rfl
    have hK9 := hK.sub (tys' := []) [] rfl
    exact vx_widen (k := 1) (n := 6) (Nat.le_of_ble_eq_true rfl) (Nat.le_of_ble_eq_true rfl) (vx_out (fun x h9 => (hex x h9).elim) hlocks hcell hcv hcl (fun t ht hal => ⟨(2, lxp, lxa, lxt, lxp, lxn, lxl, fNm), ((fun e9 => ⟨by rw [e9], by rw [e9]⟩ : fp_beginNamed4 pfa pfp lxe lxa lxt lxp lxn lxl fBy fCo fTo fNm = ((1 : Int32), (0 : Int32), (2 : Int32), lxp, lxa, lxt, lxp, lxn, lxl, fNm) → _) ((by rw [fp_beginNamed4]; (try rw [if_neg c_1]); try rfl))), ⟨rfl, by rw [ht]; exact hP9, va_K.moved hal hK9, hD9⟩, hS.F ht⟩) hS.2.2 (Nat.le_of_ble_eq_true rfl) (Nat.le_of_ble_eq_true rfl))

def fp_known1 (pfa : Int32) (pfp : Int32) (lxe : Int32) (lxa : Int32) (lxt : Int32) (lxp : Int32) (lxn : Int32) (lxl : Int32) (fBy : Nat → Int32) (fCo : Nat → Int32) (fTo : Nat → Int32) (fNm : Nat → Nat → Int32) : Int32 × Int32 × (Int32) × (Int32) × (Int32) × (Int32) × (Int32) × (Int32) × (Int32) := (if lxt = 23 then (xL ((fb_find1 fTo fNm lxl)) (fun r_3 => (if r_3 = (-1) then ((1 : Int32), (0 : Int32), (4 : Int32), lxp, lxa, lxt, lxp, lxn, lxl) else (xL ((fe_advance lxe lxa lxn lxl fBy fCo)) (fun u_7 => ((0 : Int32), r_3, pfa, pfp, u_7.1, u_7.2.1, u_7.2.2.1, u_7.2.2.2.1, u_7.2.2.2.2)))))) else ((1 : Int32), (0 : Int32), (1 : Int32), lxp, lxa, lxt, lxp, lxn, lxl))
theorem gp_known1_s0  : (0 : Int32) = 0 := (by decide)
theorem gp_known1_s1  : (0 : Int32) = 0 := (by decide)
theorem gp_known1_s2 {y0 : Int32} (h0 : ¬ (y0 < 0)) : ¬ (y0 < 0) := h0
theorem gp_known1_s3  : ¬ ((1 : Int32) = 0) := (by decide)
theorem gp_known1_s4  : ¬ ((1 : Int32) = 0) := (by decide)
theorem dX7_known_0 : decode cX7_known 0 = .ok (.aload_n 0, 1) := zk_42 (by decide +kernel)
theorem dX7_known_1 : decode cX7_known 1 = .ok (.aload_n 0, 1) := zk_42 (by decide +kernel)
theorem dX7_known_2 : decode cX7_known 2 = .ok (.getfield 12, 3) := zk_180 (by decide +kernel)
theorem dX7_known_5 : decode cX7_known 5 = .ok (.getfield 50, 3) := zk_180 (by decide +kernel)
theorem dX7_known_8 : decode cX7_known 8 = .ok (.bipush 23, 2) := zk_16 (by decide +kernel)
theorem dX7_known_10 : decode cX7_known 10 = .ok (.if_icmp .eq 7, 3) := zk_159 (by decide +kernel)
theorem dX7_known_17 : decode cX7_known 17 = .ok (.iconst 0, 1) := zk_3 (by decide +kernel)
theorem dX7_known_18 : decode cX7_known 18 = .ok (.iconst 1, 1) := zk_4 (by decide +kernel)
theorem dX7_known_19 : decode cX7_known 19 = .ok (.aload_n 0, 1) := zk_42 (by decide +kernel)
theorem dX7_known_20 : decode cX7_known 20 = .ok (.getfield 12, 3) := zk_180 (by decide +kernel)
theorem dX7_known_23 : decode cX7_known 23 = .ok (.getfield 87, 3) := zk_180 (by decide +kernel)
theorem dX7_known_26 : decode cX7_known 26 = .ok (.invokevirtual 90, 3) := zk_182 (by decide +kernel)
theorem dX7_known_29 : decode cX7_known 29 = .ok (.aload_n 0, 1) := zk_42 (by decide +kernel)
theorem dX7_known_30 : decode cX7_known 30 = .ok (.getfield 31, 3) := zk_180 (by decide +kernel)
theorem dX7_known_33 : decode cX7_known 33 = .ok (.iload_n 1, 1) := zk_27 (by decide +kernel)
theorem dX7_known_34 : decode cX7_known 34 = .ok (.aload_n 0, 1) := zk_42 (by decide +kernel)
theorem dX7_known_35 : decode cX7_known 35 = .ok (.getfield 12, 3) := zk_180 (by decide +kernel)
theorem dX7_known_38 : decode cX7_known 38 = .ok (.getfield 294, 3) := zk_180 (by decide +kernel)
theorem dX7_known_41 : decode cX7_known 41 = .ok (.invokevirtual 297, 3) := zk_182 (by decide +kernel)
theorem dX7_known_44 : decode cX7_known 44 = .ok (.istore_n 2, 1) := zk_61 (by decide +kernel)
theorem dX7_known_45 : decode cX7_known 45 = .ok (.aload_n 0, 1) := zk_42 (by decide +kernel)
theorem dX7_known_46 : decode cX7_known 46 = .ok (.iload_n 2, 1) := zk_28 (by decide +kernel)
theorem dX7_known_47 : decode cX7_known 47 = .ok (.iconst (-1), 1) := zk_2 (by decide +kernel)
theorem dX7_known_48 : decode cX7_known 48 = .ok (.if_icmp .ne 7, 3) := zk_160 (by decide +kernel)
theorem dX7_known_55 : decode cX7_known 55 = .ok (.iconst 0, 1) := zk_3 (by decide +kernel)
theorem dX7_known_56 : decode cX7_known 56 = .ok (.iconst 4, 1) := zk_7 (by decide +kernel)
theorem dX7_known_57 : decode cX7_known 57 = .ok (.aload_n 0, 1) := zk_42 (by decide +kernel)
theorem dX7_known_58 : decode cX7_known 58 = .ok (.getfield 12, 3) := zk_180 (by decide +kernel)
theorem dX7_known_61 : decode cX7_known 61 = .ok (.getfield 87, 3) := zk_180 (by decide +kernel)
theorem dX7_known_64 : decode cX7_known 64 = .ok (.invokevirtual 90, 3) := zk_182 (by decide +kernel)
theorem dX7_known_67 : decode cX7_known 67 = .ok (.aload_n 0, 1) := zk_42 (by decide +kernel)
theorem dX7_known_68 : decode cX7_known 68 = .ok (.getfield 12, 3) := zk_180 (by decide +kernel)
theorem dX7_known_71 : decode cX7_known 71 = .ok (.invokevirtual 123, 3) := zk_182 (by decide +kernel)
theorem dX7_known_74 : decode cX7_known 74 = .ok (.iload_n 2, 1) := zk_28 (by decide +kernel)
theorem dX7_known_75 : decode cX7_known 75 = .ok (.ireturn, 1) := zk_172 (by decide +kernel)
theorem dX7_known_51 : decode cX7_known 51 = .ok (.iconst 1, 1) := zk_4 (by decide +kernel)
theorem dX7_known_52 : decode cX7_known 52 = .ok (.goto 4, 3) := zk_167 (by decide +kernel)
theorem dX7_known_13 : decode cX7_known 13 = .ok (.iconst 1, 1) := zk_4 (by decide +kernel)
theorem dX7_known_14 : decode cX7_known 14 = .ok (.goto 4, 3) := zk_167 (by decide +kernel)
set_option maxHeartbeats 4000000 in
set_option maxRecDepth 100000 in
theorem gp_known1 (l : Launch) (hst : l.stackTraces = false) (dC : Nat → ClassId) (dI : Nat → Nat → Nat) (pa : Nat) (lx : Nat) (bk : Nat) (pfa : Int32) (pfp : Int32) (psk : Int32) (phe : Nat) (phr : Nat) (phs : Int32) (pop : Int32) (lby : Nat) (lfi : Int32) (lco : Nat) (lxe : Int32) (lxa : Int32) (lxt : Int32) (lxp : Int32) (lxn : Int32) (lxl : Int32) (cBy : ClassId) (fBy : Nat → Int32) (cCo : ClassId) (fCo : Nat → Int32) (bto : Nat) (bnm : Nat) (bla : Nat) (bsk : Nat) (bru : Nat) (bbo : Nat) (bdi : Nat) (bda : Nat) (bdk : Nat) (bdt : Nat) (bdp : Nat) (bno : Nat) (cTo : ClassId) (fTo : Nat → Int32) (cNm : ClassId) (Nm : Nat → Nat) (cNr : ClassId) (fNm : Nat → Nat → Int32) (sL : Nat → Nat) (sz : Nat) (h0_lxa : ¬ lxa < 0) (h9_lxe : lxe ≤ 900) : vx_Met l yX7_known (Cond.code yX7_known cX7_known 3 (some .int) :: wsL_law) ({ frames := 7, cells := 1, slots := 6, locals := 105 }) (va_Pc [.ref pa, .int 1] (fun U => U.heap.size = sz ∧ va_P (dC, dI) vwCl [(eO7a pa lx bk pfa pfp psk phe phr phs pop), (eO3a lx lby lfi lco lxe lxa lxt lxp lxn lxl), (eA0 lby cBy 900 fBy), (eA0 lco cCo 23 fCo), (eO0a bk bto bnm bla bsk bru bbo bdi bda bdk bdt bdp bno), (eA0 bto cTo 5 fTo), (eA4 bnm cNm 5 (fun k => some (Nm k))), (eA0 (Nm 1) cNr 12 (fNm 1))] U.heap ∧ va_K (dC, dI) vwCl [(cBy, .byte), (cCo, .int), (cTo, .int), (cNm, .array .int), (cNr, .int)] U ∧ va_D (fun _ => True) [(eO7a pa lx bk pfa pfp psk phe phr phs pop), (eO3a lx lby lfi lco lxe lxa lxt lxp lxn lxl), (eA0 lby cBy 900 fBy), (eA0 lco cCo 23 fCo), (eO0a bk bto bnm bla bsk bru bbo bdi bda bdk bdt bdp bno), (eA0 bto cTo 5 fTo), (eA4 bnm cNm 5 (fun k => some (Nm k))), (eA0 (Nm 1) cNr 12 (fNm 1))] ∧ xl sL (va_A [(eO7a pa lx bk pfa pfp psk phe phr phs pop), (eO3a lx lby lfi lco lxe lxa lxt lxp lxn lxl), (eA0 lby cBy 900 fBy), (eA0 lco cCo 23 fCo), (eO0a bk bto bnm bla bsk bru bbo bdi bda bdk bdt bdp bno), (eA0 bto cTo 5 fTo), (eA4 bnm cNm 5 (fun k => some (Nm k))), (eA0 (Nm 1) cNr 12 (fNm 1))] sz) U U.heap)) (va_Qi (fun (r : Int32) (u : (Int32) × (Int32) × (Int32) × (Int32) × (Int32) × (Int32) × (Int32)) => ((fp_known1 pfa pfp lxe lxa lxt lxp lxn lxl fBy fCo fTo fNm).1 = 0 ∧ r = (fp_known1 pfa pfp lxe lxa lxt lxp lxn lxl fBy fCo fTo fNm).2.1 ∧ u = (fp_known1 pfa pfp lxe lxa lxt lxp lxn lxl fBy fCo fTo fNm).2.2) ∧ (¬ u.2.2.1 < 0)) (fun (u : (Int32) × (Int32) × (Int32) × (Int32) × (Int32) × (Int32) × (Int32)) t => (va_P (dC, dI) vwCl [(eO7a pa lx bk u.1 u.2.1 psk phe phr phs pop), (eO3a lx lby lfi lco lxe u.2.2.1 u.2.2.2.1 u.2.2.2.2.1 u.2.2.2.2.2.1 u.2.2.2.2.2.2), (eA0 lby cBy 900 fBy), (eA0 lco cCo 23 fCo), (eO0a bk bto bnm bla bsk bru bbo bdi bda bdk bdt bdp bno), (eA0 bto cTo 5 fTo), (eA4 bnm cNm 5 (fun k => some (Nm k))), (eA0 (Nm 1) cNr 12 (fNm 1))] t.heap ∧ va_K (dC, dI) vwCl [] t ∧ va_D (va_A [(eO7a pa lx bk pfa pfp psk phe phr phs pop), (eO3a lx lby lfi lco lxe lxa lxt lxp lxn lxl), (eA0 lby cBy 900 fBy), (eA0 lco cCo 23 fCo), (eO0a bk bto bnm bla bsk bru bbo bdi bda bdk bdt bdp bno), (eA0 bto cTo 5 fTo), (eA4 bnm cNm 5 (fun k => some (Nm k))), (eA0 (Nm 1) cNr 12 (fNm 1))] sz) [(eO7a pa lx bk u.1 u.2.1 psk phe phr phs pop), (eO3a lx lby lfi lco lxe u.2.2.1 u.2.2.2.1 u.2.2.2.2.1 u.2.2.2.2.2.1 u.2.2.2.2.2.2), (eA0 lby cBy 900 fBy), (eA0 lco cCo 23 fCo), (eO0a bk bto bnm bla bsk bru bbo bdi bda bdk bdt bdp bno), (eA0 bto cTo 5 fTo), (eA4 bnm cNm 5 (fun k => some (Nm k))), (eA0 (Nm 1) cNr 12 (fNm 1))]) ∧ t.heap.size = sz) (va_A [(eO7a pa lx bk pfa pfp psk phe phr phs pop), (eO3a lx lby lfi lco lxe lxa lxt lxp lxn lxl), (eA0 lby cBy 900 fBy), (eA0 lco cCo 23 fCo), (eO0a bk bto bnm bla bsk bru bbo bdi bda bdk bdt bdp bno), (eA0 bto cTo 5 fTo), (eA4 bnm cNm 5 (fun k => some (Nm k))), (eA0 (Nm 1) cNr 12 (fNm 1))] sz)) (vx_X (fun (u : (Int32) × (Int32) × (Int32) × (Int32) × (Int32) × (Int32) × (Int32)) => (fp_known1 pfa pfp lxe lxa lxt lxp lxn lxl fBy fCo fTo fNm).1 = 1 ∧ u = (fp_known1 pfa pfp lxe lxa lxt lxp lxn lxl fBy fCo fTo fNm).2.2) (fun (E : String) (u : (Int32) × (Int32) × (Int32) × (Int32) × (Int32) × (Int32) × (Int32)) (t : State) => E = "java/lang/IllegalStateException" ∧ va_P (dC, dI) vwCl [(eO7a pa lx bk u.1 u.2.1 psk phe phr phs pop), (eO3a lx lby lfi lco lxe u.2.2.1 u.2.2.2.1 u.2.2.2.2.1 u.2.2.2.2.2.1 u.2.2.2.2.2.2), (eA0 lby cBy 900 fBy), (eA0 lco cCo 23 fCo), (eO0a bk bto bnm bla bsk bru bbo bdi bda bdk bdt bdp bno), (eA0 bto cTo 5 fTo), (eA4 bnm cNm 5 (fun k => some (Nm k))), (eA0 (Nm 1) cNr 12 (fNm 1))] t.heap ∧ va_K (dC, dI) vwCl [] t ∧ va_D (va_A [(eO7a pa lx bk pfa pfp psk phe phr phs pop), (eO3a lx lby lfi lco lxe lxa lxt lxp lxn lxl), (eA0 lby cBy 900 fBy), (eA0 lco cCo 23 fCo), (eO0a bk bto bnm bla bsk bru bbo bdi bda bdk bdt bdp bno), (eA0 bto cTo 5 fTo), (eA4 bnm cNm 5 (fun k => some (Nm k))), (eA0 (Nm 1) cNr 12 (fNm 1))] sz) [(eO7a pa lx bk u.1 u.2.1 psk phe phr phs pop), (eO3a lx lby lfi lco lxe u.2.2.1 u.2.2.2.1 u.2.2.2.2.1 u.2.2.2.2.2.1 u.2.2.2.2.2.2), (eA0 lby cBy 900 fBy), (eA0 lco cCo 23 fCo), (eO0a bk bto bnm bla bsk bru bbo bdi bda bdk bdt bdp bno), (eA0 bto cTo 5 fTo), (eA4 bnm cNm 5 (fun k => some (Nm k))), (eA0 (Nm 1) cNr 12 (fNm 1))]) (va_A [(eO7a pa lx bk pfa pfp psk phe phr phs pop), (eO3a lx lby lfi lco lxe lxa lxt lxp lxn lxl), (eA0 lby cBy 900 fBy), (eA0 lco cCo 23 fCo), (eO0a bk bto bnm bla bsk bru bbo bdi bda bdk bdt bdp bno), (eA0 bto cTo 5 fTo), (eA4 bnm cNm 5 (fun k => some (Nm k))), (eA0 (Nm 1) cNr 12 (fNm 1))] sz)) 1 6 (va_A [(eO7a pa lx bk pfa pfp psk phe phr phs pop), (eO3a lx lby lfi lco lxe lxa lxt lxp lxn lxl), (eA0 lby cBy 900 fBy), (eA0 lco cCo 23 fCo), (eO0a bk bto bnm bla bsk bru bbo bdi bda bdk bdt bdp bno), (eA0 bto cTo 5 fTo), (eA4 bnm cNm 5 (fun k => some (Nm k))), (eA0 (Nm 1) cNr 12 (fNm 1))] sz) := by
  refine vx_ofW (cc := cX7_known) (maxL := 3) (ret := (some .int)) (by decide) rfl ?_
  intro p e s m args below meth c s₁ B hml hex hv
  obtain ⟨rfl, hsz, hP, hK, hD0, hXL⟩ := hv
  have hx := B.exec
  have hb := B.bytes
  have hr := B.returns
  have hts := atoms_spec (ws := Cond.code yX7_known cX7_known 3 (some .int) :: wsL_law) B.pre
  have htw : ∀ w ∈ wsL_law, w.before _ s = true := fun w h => hts w (List.mem_cons_of_mem _ h)
  have hown : s.vm.findClass RX7 = some m.cls := findClass_of_methodNamed B.named
  have hlocks := B.notSynchronized
  subst hsz
  have hD := hD0.self (sz := s.heap.size)
  generalize hAe : va_A [(eO7a pa lx bk pfa pfp psk phe phr phs pop), (eO3a lx lby lfi lco lxe lxa lxt lxp lxn lxl), (eA0 lby cBy 900 fBy), (eA0 lco cCo 23 fCo), (eO0a bk bto bnm bla bsk bru bbo bdi bda bdk bdt bdp bno), (eA0 bto cTo 5 fTo), (eA4 bnm cNm 5 (fun k => some (Nm k))), (eA0 (Nm 1) cNr 12 (fNm 1))] s.heap.size = A at hD hXL ⊢
  have hA : ∀ q : Nat, s.heap.size ≤ q → A q := fun q h => by rw [← hAe]; exact Or.inr h
  obtain ⟨H, rH⟩ : ∃ z : Heap, z = s.heap := ⟨_, rfl⟩
  have hS : va_S A s.heap H [] := by rw [rH]; exact va_S.rf
  have hP : va_P (dC, dI) vwCl [(eO7a pa lx bk pfa pfp psk phe phr phs pop), (eO3a lx lby lfi lco lxe lxa lxt lxp lxn lxl), (eA0 lby cBy 900 fBy), (eA0 lco cCo 23 fCo), (eO0a bk bto bnm bla bsk bru bbo bdi bda bdk bdt bdp bno), (eA0 bto cTo 5 fTo), (eA4 bnm cNm 5 (fun k => some (Nm k))), (eA0 (Nm 1) cNr 12 (fNm 1))] H := by rw [rH]; exact hP
  rw [← rH]
  have hl := lv_entry ([.ref pa, .int 1]) (n := 3) (Nat.le_of_ble_eq_true rfl)
  rw [lg_entry_eq]
  generalize (lg_sl ([.ref pa, .int 1]) ++ List.replicate (3 - (lg_sl ([.ref pa, .int 1])).length) Slot.unset).toArray = ls at hl ⊢
  have hl : lv_has ls 3 [(0, .ref pa), (1, .int 1)] := hl
  refine lv_aload_n hx hb dX7_known_0 rfl (lv_at hl 0 rfl) ?_
  refine lv_aload_n hx hb dX7_known_1 rfl (lv_at hl 0 rfl) ?_
  refine va_get (D := (dC, dI)) (ci := 7) (v := .ref lx) (C := RX7) (T := TX7) (N := 9) hx hb htw inlX7 hown hK hP 0 rfl rfl 0 (by decide) (htw _ (ck_3 _ (List.mem_of_getElem? (i := 5) rfl))) (fun _ h9 => h9) rfl dX7_known_2 ?_
  refine va_get (D := (dC, dI)) (ci := 3) (v := .int lxt) (C := RX3) (T := TX3) (N := 9) hx hb htw inlX3 hown hK hP 1 rfl rfl 5 (by decide) (htw _ (ck_13 _ (List.mem_of_getElem? (i := 9) rfl))) (fun _ h9 => h9) rfl dX7_known_5 ?_
  refine lv_bipush (v := 23) hx hb dX7_known_8 (by decide) ?_
  refine lv_icmp_eq (tgt := 17) hx hb dX7_known_10 (by decide) (fun c_1 => ?_) (fun c_1 => ?_)
  · refine lv_iconst (v := 0) hx hb dX7_known_17 (by decide) ?_
    refine lv_iconst (v := 1) hx hb dX7_known_18 (by decide) ?_
    refine lv_aload_n hx hb dX7_known_19 rfl (lv_at hl 0 rfl) ?_
    refine va_get (D := (dC, dI)) (ci := 7) (v := .ref lx) (C := RX7) (T := TX7) (N := 9) hx hb htw inlX7 hown hK hP 0 rfl rfl 0 (by decide) (htw _ (ck_3 _ (List.mem_of_getElem? (i := 5) rfl))) (fun _ h9 => h9) rfl dX7_known_20 ?_
    refine va_get (D := (dC, dI)) (ci := 3) (v := .int lxp) (C := RX3) (T := TX3) (N := 9) hx hb htw inlX3 hown hK hP 1 rfl rfl 6 (by decide) (htw _ (ck_15 _ (List.mem_of_getElem? (i := 13) rfl))) (fun _ h9 => h9) rfl dX7_known_23 ?_
    have hPc := hP.sub (ws' := []) [] rfl
    have hKc := hK.sub (tys' := []) [] rfl
    refine va_csv (W.runV (As := [.int 0, .int 1, .int lxp]) (rest := []) ⟨hx, hb, hml, hown, htw⟩ (gp_ref0 l dC dI (0 : Int32) (1 : Int32) lxp pa (gp_known1_s0 )) (cwV 3 htw (xg_V (ck_16 _ (List.mem_of_getElem? (i := 6) rfl)) (ck_16 _ (List.mem_of_getElem? (i := 7) rfl)) (ck_16 _ (List.mem_of_getElem? (i := 8) rfl)) (ck_1 _ (List.mem_of_getElem? (i := 16) rfl)) (ck_16 _ (List.mem_of_getElem? (i := 9) rfl))) rfl rfl rfl (by exact ⟨rfl, hdc_15.1, hdc_15.2, hdd_48⟩) ⟨Nat.le_of_ble_eq_true rfl, Nat.le_of_ble_eq_true rfl⟩) ⟨fun a U g mk q => by obtain ⟨q0, qP, qK⟩ := q; exact ⟨q0, qP, va_K.moved (u := U) (U := U.calling g mk a) (Vm.Alike.refl U.vm) qK⟩, va_recv hK hP (ci := 7) (q0 := 0) rfl rfl, fun U hU hW => ⟨rfl, by rw [hU]; exact hPc, va_K.moved hW.alike hKc⟩⟩ rfl rfl hl.1 rfl (lv_room (Nat.le_of_ble_eq_true rfl)) dX7_known_26 ⟨Nat.le_of_ble_eq_true rfl, Nat.le_of_ble_eq_true rfl⟩) (fun hw => ?_)
    try dsimp only at hw
    refine lv_aload_n hx hb dX7_known_29 rfl (lv_at hl 0 rfl) ?_
    refine va_get (D := (dC, dI)) (ci := 7) (v := .ref bk) (C := RX7) (T := TX7) (N := 9) hx hb htw inlX7 hown hK hP 0 rfl rfl 1 (by decide) (htw _ (ck_13 _ (List.mem_of_getElem? (i := 6) rfl))) (fun _ h9 => h9) rfl dX7_known_30 ?_
    refine lv_iload_n hx hb dX7_known_33 rfl (lv_at hl 1 rfl) ?_
    refine lv_aload_n hx hb dX7_known_34 rfl (lv_at hl 0 rfl) ?_
    refine va_get (D := (dC, dI)) (ci := 7) (v := .ref lx) (C := RX7) (T := TX7) (N := 9) hx hb htw inlX7 hown hK hP 0 rfl rfl 0 (by decide) (htw _ (ck_3 _ (List.mem_of_getElem? (i := 5) rfl))) (fun _ h9 => h9) rfl dX7_known_35 ?_
    refine va_get (D := (dC, dI)) (ci := 3) (v := .int lxl) (C := RX3) (T := TX3) (N := 9) hx hb htw inlX3 hown hK hP 1 rfl rfl 8 (by decide) (htw _ (ck_16 _ (List.mem_of_getElem? (i := 4) rfl))) (fun _ h9 => h9) rfl dX7_known_38 ?_
    have hPc := hP.sub (ws' := [(eO0a bk bto bnm bla bsk bru bbo bdi bda bdk bdt bdp bno), (eA0 bto cTo 5 fTo), (eA4 bnm cNm 5 (fun k => some (Nm k))), (eA0 (Nm 1) cNr 12 (fNm 1))]) [4, 5, 6, 7] rfl
    have hKc := hK.sub (tys' := [(cTo, .int), (cNm, .array .int), (cNr, .int)]) [2, 3, 4] rfl
    refine vp_callSi (W.runV (As := [.int 1, .int lxl]) (rest := []) ⟨hx, hb, hml, hown, htw⟩ (gb_find1 l dC dI bk bto bnm bla bsk bru bbo bdi bda bdk bdt bdp bno cTo fTo cNm Nm cNr fNm lxl) (cwV 2 htw (xg_V (ck_16 _ (List.mem_of_getElem? (i := 12) rfl)) (ck_16 _ (List.mem_of_getElem? (i := 13) rfl)) (ck_16 _ (List.mem_of_getElem? (i := 14) rfl)) (ck_1 _ (List.mem_of_getElem? (i := 20) rfl)) (ck_16 _ (List.mem_of_getElem? (i := 15) rfl))) rfl rfl rfl (by exact ⟨rfl, hdc_6.1, hdc_6.2, hdd_7⟩) ⟨Nat.le_of_ble_eq_true rfl, Nat.le_of_ble_eq_true rfl⟩) ⟨fun a U g mk q => by obtain ⟨q0, qP, qK⟩ := q; exact ⟨q0, qP, va_K.moved (u := U) (U := U.calling g mk a) (Vm.Alike.refl U.vm) qK⟩, va_recv hKc hPc (ci := 0) (q0 := 0) rfl rfl, fun U hU hW => ⟨rfl, by rw [hU]; exact hPc, va_K.moved hW.alike hKc⟩⟩ rfl rfl hl.1 rfl (lv_room (Nat.le_of_ble_eq_true rfl)) dX7_known_41 ⟨Nat.le_of_ble_eq_true rfl, Nat.le_of_ble_eq_true rfl⟩) (fun r_3 hw => ?_)
    try dsimp only at hw
    have hq_r_3 : r_3 = (fb_find1 fTo fNm lxl) := hw
    refine lv_istore_n (lv' := [(2, .int r_3), (0, .ref pa), (1, .int 1)]) hx hb dX7_known_44 rfl hl (by decide) rfl (fun ls hl => ?_)
    refine lv_aload_n hx hb dX7_known_45 rfl (lv_at hl 1 rfl) ?_
    refine lv_iload_n hx hb dX7_known_46 rfl (lv_at hl 0 rfl) ?_
    refine lv_iconst (v := (-1)) hx hb dX7_known_47 (by decide) ?_
    refine lv_icmp_ne (tgt := 55) hx hb dX7_known_48 (by decide) (fun c_4 => ?_) (fun c_4 => ?_)
    · refine lv_iconst (v := 0) hx hb dX7_known_55 (by decide) ?_
      refine lv_iconst (v := 4) hx hb dX7_known_56 (by decide) ?_
      refine lv_aload_n hx hb dX7_known_57 rfl (lv_at hl 1 rfl) ?_
      refine va_get (D := (dC, dI)) (ci := 7) (v := .ref lx) (C := RX7) (T := TX7) (N := 9) hx hb htw inlX7 hown hK hP 0 rfl rfl 0 (by decide) (htw _ (ck_3 _ (List.mem_of_getElem? (i := 5) rfl))) (fun _ h9 => h9) rfl dX7_known_58 ?_
      refine va_get (D := (dC, dI)) (ci := 3) (v := .int lxp) (C := RX3) (T := TX3) (N := 9) hx hb htw inlX3 hown hK hP 1 rfl rfl 6 (by decide) (htw _ (ck_15 _ (List.mem_of_getElem? (i := 13) rfl))) (fun _ h9 => h9) rfl dX7_known_61 ?_
      have hPc := hP.sub (ws' := []) [] rfl
      have hKc := hK.sub (tys' := []) [] rfl
      refine va_csv (W.runV (As := [.int 0, .int 4, .int lxp]) (rest := []) ⟨hx, hb, hml, hown, htw⟩ (gp_ref0 l dC dI (0 : Int32) (4 : Int32) lxp pa (gp_known1_s1 )) (cwV 3 htw (xg_V (ck_16 _ (List.mem_of_getElem? (i := 6) rfl)) (ck_16 _ (List.mem_of_getElem? (i := 7) rfl)) (ck_16 _ (List.mem_of_getElem? (i := 8) rfl)) (ck_1 _ (List.mem_of_getElem? (i := 16) rfl)) (ck_16 _ (List.mem_of_getElem? (i := 9) rfl))) rfl rfl rfl (by exact ⟨rfl, hdc_15.1, hdc_15.2, hdd_48⟩) ⟨Nat.le_of_ble_eq_true rfl, Nat.le_of_ble_eq_true rfl⟩) ⟨fun a U g mk q => by obtain ⟨q0, qP, qK⟩ := q; exact ⟨q0, qP, va_K.moved (u := U) (U := U.calling g mk a) (Vm.Alike.refl U.vm) qK⟩, va_recv hK hP (ci := 7) (q0 := 0) rfl rfl, fun U hU hW => ⟨rfl, by rw [hU]; exact hPc, va_K.moved hW.alike hKc⟩⟩ rfl rfl hl.1 rfl (lv_room (Nat.le_of_ble_eq_true rfl)) dX7_known_64 ⟨Nat.le_of_ble_eq_true rfl, Nat.le_of_ble_eq_true rfl⟩) (fun hw => ?_)
      try dsimp only at hw
      refine lv_aload_n hx hb dX7_known_67 rfl (lv_at hl 1 rfl) ?_
      refine va_get (D := (dC, dI)) (ci := 7) (v := .ref lx) (C := RX7) (T := TX7) (N := 9) hx hb htw inlX7 hown hK hP 0 rfl rfl 0 (by decide) (htw _ (ck_3 _ (List.mem_of_getElem? (i := 5) rfl))) (fun _ h9 => h9) rfl dX7_known_68 ?_
      obtain ⟨hPc, hDc, hFc, hCc⟩ := zsub3 (ws' := [(eO3a lx lby lfi lco lxe lxa lxt lxp lxn lxl), (eA0 lby cBy 900 fBy), (eA0 lco cCo 23 fCo)]) hP hD hS hA [1, 2, 3] (by decide) rfl
      have hKc := hK.sub (tys' := [(cBy, .byte), (cCo, .int)]) [0, 1] rfl
      refine va_callv (va_runV (As := []) (rest := []) ⟨hx, hb, hml, hown, htw⟩ (gz_advance l dC dI lx lby lfi lco lxe lxa lxt lxp lxn lxl cBy fBy cCo fCo H.size h0_lxa h9_lxe) (cwV 0 htw (xg_V (ck_16 _ (List.mem_of_getElem? (i := 11) rfl)) (ck_14 _ (List.mem_of_getElem? (i := 13) rfl)) (ck_14 _ (List.mem_of_getElem? (i := 14) rfl)) (ck_3 _ (List.mem_of_getElem? (i := 4) rfl)) (ck_14 _ (List.mem_of_getElem? (i := 15) rfl))) rfl rfl rfl (by exact ⟨rfl, hdc_4.1, hdc_4.2, hdd_13⟩) ⟨Nat.le_of_ble_eq_true rfl, Nat.le_of_ble_eq_true rfl⟩) ⟨fun a U g mk q => by obtain ⟨q0, q1, qP, qK, qD⟩ := q; exact ⟨q0, q1, qP, va_K.moved (u := U) (U := U.calling g mk a) (Vm.Alike.refl U.vm) qK, qD⟩, va_recv hKc hPc (ci := 3) (q0 := 0) rfl rfl, fun U hU hW => ⟨rfl, by rw [hU], by rw [hU]; exact hPc, va_K.moved hW.alike hKc, hDc.weaken (fun _ _ _ _ => trivial)⟩⟩ rfl rfl hl.1 rfl (lv_room (Nat.le_of_ble_eq_true rfl)) dX7_known_71 ⟨Nat.le_of_ble_eq_true rfl, Nat.le_of_ble_eq_true rfl⟩) hS (fun q _ h => hFc q h) hFc (fun u_7 t H1 locs ht hvm hw hB hz1 hk1 hS => ?_)
      try dsimp only at hw
      obtain ⟨hP1, hK1, hD1⟩ := hB
      rw [ht] at hP1
      have hK1 := va_K.moved hvm.symm hK1
      have hK1 : va_K (dC, dI) vwCl [] s := hK1
      obtain ⟨hP, hD⟩ := va_join (wr := [(eO7a pa lx bk pfa pfp psk phe phr phs pop), (eO0a bk bto bnm bla bsk bru bbo bdi bda bdk bdt bdp bno), (eA0 bto cTo 5 fTo), (eA4 bnm cNm 5 (fun k => some (Nm k))), (eA0 (Nm 1) cNr 12 (fNm 1))]) (w1 := [(eO3a lx lby lfi lco lxe u_7.1 u_7.2.1 u_7.2.2.1 u_7.2.2.2.1 u_7.2.2.2.2), (eA0 lby cBy 900 fBy), (eA0 lco cCo 23 fCo)]) hP hD [1, 2, 3] [0, 4, 5, 6, 7] hCc rfl (by decide) (by decide) hk1 hFc hP1 hD1
      generalize H1 = H at hP hS ⊢
      obtain ⟨hP, hD⟩ := zre [(eO7a pa lx bk pfa pfp psk phe phr phs pop), (eO0a bk bto bnm bla bsk bru bbo bdi bda bdk bdt bdp bno), (eA0 bto cTo 5 fTo), (eA4 bnm cNm 5 (fun k => some (Nm k))), (eA0 (Nm 1) cNr 12 (fNm 1)), (eO3a lx lby lfi lco lxe u_7.1 u_7.2.1 u_7.2.2.1 u_7.2.2.2.1 u_7.2.2.2.2), (eA0 lby cBy 900 fBy), (eA0 lco cCo 23 fCo)] hP hD rfl
      refine W.widen (k := 0) (n := 0) (by omega) (by omega) ?_
      obtain ⟨hw, hp_13⟩ := hw
      have hq_u_7 : u_7 = (fe_advance lxe lxa lxn lxl fBy fCo) := hw
      refine lv_iload_n hx hb dX7_known_74 rfl (lv_at hl 0 rfl) ?_
      refine xs_size (fun hHz => ?_)
      refine vx_ret ?_
      refine W.widen (k := 1) (n := 6) (by omega) (by omega) ?_
      obtain ⟨hP9, hD9⟩ := zsub2 (ws' := [(eO7a pa lx bk pfa pfp psk phe phr phs pop), (eO3a lx lby lfi lco lxe u_7.1 u_7.2.1 u_7.2.2.1 u_7.2.2.2.1 u_7.2.2.2.2), (eA0 lby cBy 900 fBy), (eA0 lco cCo 23 fCo), (eO0a bk bto bnm bla bsk bru bbo bdi bda bdk bdt bdp bno), (eA0 bto cTo 5 fTo), (eA4 bnm cNm 5 (fun k => some (Nm k))), (eA0 (Nm 1) cNr 12 (fNm 1))]) hP hD [0, 5, 6, 7, 1, 2, 3, 4] (by decide +kernel) rfl
      have hK9 := hK.sub (tys' := []) [] rfl
      exact W.iret (v := r_3) hx hb hr (fun t ht hW => ⟨⟨r_3, (pfa, pfp, u_7.1, u_7.2.1, u_7.2.2.1, u_7.2.2.2.1, u_7.2.2.2.2), rfl, ⟨((fun e9 => ⟨by rw [e9], by rw [e9], by rw [e9]⟩ : fp_known1 pfa pfp lxe lxa lxt lxp lxn lxl fBy fCo fTo fNm = ((0 : Int32), r_3, pfa, pfp, u_7.1, u_7.2.1, u_7.2.2.1, u_7.2.2.2.1, u_7.2.2.2.2) → _) ((by rw [fp_known1]; (try rw [if_pos c_1]); (try rw [← hq_r_3]); (try rw [xL_eq]); (try rw [if_neg c_4]); (try rw [← hq_u_7]); (try rw [xL_eq]); try rfl))), (gp_known1_s2 (y0 := u_7.1) hp_13)⟩, ⟨by rw [ht]; exact hP9, va_K.moved hW.alike hK9, hD9⟩, by rw [ht]; first | exact hHz | exact hHz.trans (by rw [rH])⟩, hS.F ht⟩) hS.2.2 dX7_known_75
    · refine lv_iconst (v := 1) hx hb dX7_known_51 (by decide) ?_
      refine lv_goto (tgt := 56) hx hb dX7_known_52 (by decide) ?_
      refine lv_iconst (v := 4) hx hb dX7_known_56 (by decide) ?_
      refine lv_aload_n hx hb dX7_known_57 rfl (lv_at hl 1 rfl) ?_
      refine va_get (D := (dC, dI)) (ci := 7) (v := .ref lx) (C := RX7) (T := TX7) (N := 9) hx hb htw inlX7 hown hK hP 0 rfl rfl 0 (by decide) (htw _ (ck_3 _ (List.mem_of_getElem? (i := 5) rfl))) (fun _ h9 => h9) rfl dX7_known_58 ?_
      refine va_get (D := (dC, dI)) (ci := 3) (v := .int lxp) (C := RX3) (T := TX3) (N := 9) hx hb htw inlX3 hown hK hP 1 rfl rfl 6 (by decide) (htw _ (ck_15 _ (List.mem_of_getElem? (i := 13) rfl))) (fun _ h9 => h9) rfl dX7_known_61 ?_
      refine xs_size (fun hHz => ?_)
      obtain ⟨hPc, hDc, hFc, hCc⟩ := zsub3 (ws' := [(eO7a pa lx bk pfa pfp psk phe phr phs pop)]) hP hD hS hA [0] (by decide) rfl
      have hKc := hK.sub (tys' := []) [] rfl
      refine vx_callv (vx_runV (As := [.int 1, .int 4, .int lxp]) (rest := []) ⟨hx, hb, hml, hown, htw⟩ (gp_refT l hst dC dI pa lx bk pfa pfp psk phe phr phs pop (1 : Int32) (4 : Int32) lxp sL H.size (gp_known1_s3 )) (cwV 3 htw (xg_V (ck_16 _ (List.mem_of_getElem? (i := 6) rfl)) (ck_16 _ (List.mem_of_getElem? (i := 7) rfl)) (ck_16 _ (List.mem_of_getElem? (i := 8) rfl)) (ck_1 _ (List.mem_of_getElem? (i := 16) rfl)) (ck_16 _ (List.mem_of_getElem? (i := 9) rfl))) rfl rfl rfl (by exact ⟨rfl, hdc_15.1, hdc_15.2, hdd_48⟩) ⟨Nat.le_of_ble_eq_true rfl, Nat.le_of_ble_eq_true rfl⟩) ⟨fun a U g mk q => by obtain ⟨q0, q1, qP, qK, qD, qx0⟩ := q; exact ⟨q0, q1, qP, va_K.moved (u := U) (U := U.calling g mk a) (Vm.Alike.refl U.vm) qK, qD, xl.calling qx0⟩, va_recv hKc hPc (ci := 7) (q0 := 0) rfl rfl, fun U hU hW => ⟨rfl, by rw [hU], by rw [hU]; exact hPc, va_K.moved hW.alike hKc, hDc.weaken (fun _ _ _ _ => trivial), by rw [hU]; exact xl.warm hW ((xl.kept hXL hS.2.1).narrow hFc)⟩⟩ rfl rfl hl.1 rfl (lv_room (Nat.le_of_ble_eq_true rfl)) dX7_known_64 ⟨Nat.le_of_ble_eq_true rfl, Nat.le_of_ble_eq_true rfl⟩) hS (fun q _ h => hFc q h) hFc (fun q _ h => hFc q h) (fun E ce q9 u_14 t H1 locs ht hvm hw hB hz1 hk1 hS hcell hcv hcl => ?_) (fun u_16 t H1 locs ht hvm hw hB hz1 hk1 hS => hw.elim)
      obtain ⟨hE9, hB⟩ := hB
      subst hE9
      obtain ⟨hP1, hK1, hD1⟩ := hB
      rw [ht] at hP1
      have hK1 := va_K.moved hvm.symm hK1
      have hK1 : va_K (dC, dI) vwCl [] s := hK1
      obtain ⟨hP, hD⟩ := va_join (wr := [(eO3a lx lby lfi lco lxe lxa lxt lxp lxn lxl), (eA0 lby cBy 900 fBy), (eA0 lco cCo 23 fCo), (eO0a bk bto bnm bla bsk bru bbo bdi bda bdk bdt bdp bno), (eA0 bto cTo 5 fTo), (eA4 bnm cNm 5 (fun k => some (Nm k))), (eA0 (Nm 1) cNr 12 (fNm 1))]) (w1 := [(eO7a pa lx bk 4 lxp psk phe phr phs pop)]) hP hD [0] [1, 2, 3, 4, 5, 6, 7] hCc rfl (by decide) (by decide) hk1 hFc hP1 hD1
      generalize H1 = H at hP hS hcell ⊢
      obtain ⟨hP, hD⟩ := zre [(eO3a lx lby lfi lco lxe lxa lxt lxp lxn lxl), (eA0 lby cBy 900 fBy), (eA0 lco cCo 23 fCo), (eO0a bk bto bnm bla bsk bru bbo bdi bda bdk bdt bdp bno), (eA0 bto cTo 5 fTo), (eA4 bnm cNm 5 (fun k => some (Nm k))), (eA0 (Nm 1) cNr 12 (fNm 1)), (eO7a pa lx bk 4 lxp psk phe phr phs pop)] hP hD rfl
      obtain ⟨hP9, hD9⟩ := zsub2 (ws' := [(eO7a pa lx bk 4 lxp psk phe phr phs pop), (eO3a lx lby lfi lco lxe lxa lxt lxp lxn lxl), (eA0 lby cBy 900 fBy), (eA0 lco cCo 23 fCo), (eO0a bk bto bnm bla bsk bru bbo bdi bda bdk bdt bdp bno), (eA0 bto cTo 5 fTo), (eA4 bnm cNm 5 (fun k => some (Nm k))), (eA0 (Nm 1) cNr 12 (fNm 1))]) hP hD [7, 0, 1, 2, 3, 4, 5, 6] (by decide +kernel) rfl
      have hK9 := hK.sub (tys' := []) [] rfl
      exact vx_widen (k := 1) (n := 6) (Nat.le_of_ble_eq_true rfl) (Nat.le_of_ble_eq_true rfl) (vx_out (fun x h9 => (hex x h9).elim) hlocks hcell hcv hcl (fun t ht hal => ⟨(4, lxp, lxa, lxt, lxp, lxn, lxl), ((fun e9 => ⟨by rw [e9], by rw [e9]⟩ : fp_known1 pfa pfp lxe lxa lxt lxp lxn lxl fBy fCo fTo fNm = ((1 : Int32), (0 : Int32), (4 : Int32), lxp, lxa, lxt, lxp, lxn, lxl) → _) ((by rw [fp_known1]; (try rw [if_pos c_1]); (try rw [← hq_r_3]); (try rw [xL_eq]); (try rw [if_pos c_4]); try rfl))), ⟨rfl, by rw [ht]; exact hP9, va_K.moved hal hK9, hD9⟩, hS.F ht⟩) hS.2.2 (Nat.le_of_ble_eq_true rfl) (Nat.le_of_ble_eq_true rfl))
  · refine lv_iconst (v := 1) hx hb dX7_known_13 (by decide) ?_
    refine lv_goto (tgt := 18) hx hb dX7_known_14 (by decide) ?_
    refine lv_iconst (v := 1) hx hb dX7_known_18 (by decide) ?_
    refine lv_aload_n hx hb dX7_known_19 rfl (lv_at hl 0 rfl) ?_
    refine va_get (D := (dC, dI)) (ci := 7) (v := .ref lx) (C := RX7) (T := TX7) (N := 9) hx hb htw inlX7 hown hK hP 0 rfl rfl 0 (by decide) (htw _ (ck_3 _ (List.mem_of_getElem? (i := 5) rfl))) (fun _ h9 => h9) rfl dX7_known_20 ?_
    refine va_get (D := (dC, dI)) (ci := 3) (v := .int lxp) (C := RX3) (T := TX3) (N := 9) hx hb htw inlX3 hown hK hP 1 rfl rfl 6 (by decide) (htw _ (ck_15 _ (List.mem_of_getElem? (i := 13) rfl))) (fun _ h9 => h9) rfl dX7_known_23 ?_
    refine xs_size (fun hHz => ?_)
    obtain ⟨hPc, hDc, hFc, hCc⟩ := zsub3 (ws' := [(eO7a pa lx bk pfa pfp psk phe phr phs pop)]) hP hD hS hA [0] (by decide) rfl
    have hKc := hK.sub (tys' := []) [] rfl
    refine vx_callv (vx_runV (As := [.int 1, .int 1, .int lxp]) (rest := []) ⟨hx, hb, hml, hown, htw⟩ (gp_refT l hst dC dI pa lx bk pfa pfp psk phe phr phs pop (1 : Int32) (1 : Int32) lxp sL H.size (gp_known1_s4 )) (cwV 3 htw (xg_V (ck_16 _ (List.mem_of_getElem? (i := 6) rfl)) (ck_16 _ (List.mem_of_getElem? (i := 7) rfl)) (ck_16 _ (List.mem_of_getElem? (i := 8) rfl)) (ck_1 _ (List.mem_of_getElem? (i := 16) rfl)) (ck_16 _ (List.mem_of_getElem? (i := 9) rfl))) rfl rfl rfl (by exact ⟨rfl, hdc_15.1, hdc_15.2, hdd_48⟩) ⟨Nat.le_of_ble_eq_true rfl, Nat.le_of_ble_eq_true rfl⟩) ⟨fun a U g mk q => by obtain ⟨q0, q1, qP, qK, qD, qx0⟩ := q; exact ⟨q0, q1, qP, va_K.moved (u := U) (U := U.calling g mk a) (Vm.Alike.refl U.vm) qK, qD, xl.calling qx0⟩, va_recv hKc hPc (ci := 7) (q0 := 0) rfl rfl, fun U hU hW => ⟨rfl, by rw [hU], by rw [hU]; exact hPc, va_K.moved hW.alike hKc, hDc.weaken (fun _ _ _ _ => trivial), by rw [hU]; exact xl.warm hW ((xl.kept hXL hS.2.1).narrow hFc)⟩⟩ rfl rfl hl.1 rfl (lv_room (Nat.le_of_ble_eq_true rfl)) dX7_known_26 ⟨Nat.le_of_ble_eq_true rfl, Nat.le_of_ble_eq_true rfl⟩) hS (fun q _ h => hFc q h) hFc (fun q _ h => hFc q h) (fun E ce q9 u_17 t H1 locs ht hvm hw hB hz1 hk1 hS hcell hcv hcl => ?_) (fun u_19 t H1 locs ht hvm hw hB hz1 hk1 hS => hw.elim)
    obtain ⟨hE9, hB⟩ := hB
    subst hE9
    obtain ⟨hP1, hK1, hD1⟩ := hB
    rw [ht] at hP1
    have hK1 := va_K.moved hvm.symm hK1
    have hK1 : va_K (dC, dI) vwCl [] s := hK1
    obtain ⟨hP, hD⟩ := va_join (wr := [(eO3a lx lby lfi lco lxe lxa lxt lxp lxn lxl), (eA0 lby cBy 900 fBy), (eA0 lco cCo 23 fCo), (eO0a bk bto bnm bla bsk bru bbo bdi bda bdk bdt bdp bno), (eA0 bto cTo 5 fTo), (eA4 bnm cNm 5 (fun k => some (Nm k))), (eA0 (Nm 1) cNr 12 (fNm 1))]) (w1 := [(eO7a pa lx bk 1 lxp psk phe phr phs pop)]) hP hD [0] [1, 2, 3, 4, 5, 6, 7] hCc rfl (by decide) (by decide) hk1 hFc hP1 hD1
    generalize H1 = H at hP hS hcell ⊢
    obtain ⟨hP, hD⟩ := zre [(eO3a lx lby lfi lco lxe lxa lxt lxp lxn lxl), (eA0 lby cBy 900 fBy), (eA0 lco cCo 23 fCo), (eO0a bk bto bnm bla bsk bru bbo bdi bda bdk bdt bdp bno), (eA0 bto cTo 5 fTo), (eA4 bnm cNm 5 (fun k => some (Nm k))), (eA0 (Nm 1) cNr 12 (fNm 1)), (eO7a pa lx bk 1 lxp psk phe phr phs pop)] hP hD rfl
    obtain ⟨hP9, hD9⟩ := zsub2 (ws' := [(eO7a pa lx bk 1 lxp psk phe phr phs pop), (eO3a lx lby lfi lco lxe lxa lxt lxp lxn lxl), (eA0 lby cBy 900 fBy), (eA0 lco cCo 23 fCo), (eO0a bk bto bnm bla bsk bru bbo bdi bda bdk bdt bdp bno), (eA0 bto cTo 5 fTo), (eA4 bnm cNm 5 (fun k => some (Nm k))), (eA0 (Nm 1) cNr 12 (fNm 1))]) hP hD [7, 0, 1, 2, 3, 4, 5, 6] (by decide +kernel) rfl
    have hK9 := hK.sub (tys' := []) [] rfl
    exact vx_widen (k := 1) (n := 6) (Nat.le_of_ble_eq_true rfl) (Nat.le_of_ble_eq_true rfl) (vx_out (fun x h9 => (hex x h9).elim) hlocks hcell hcv hcl (fun t ht hal => ⟨(1, lxp, lxa, lxt, lxp, lxn, lxl), ((fun e9 => ⟨by rw [e9], by rw [e9]⟩ : fp_known1 pfa pfp lxe lxa lxt lxp lxn lxl fBy fCo fTo fNm = ((1 : Int32), (0 : Int32), (1 : Int32), lxp, lxa, lxt, lxp, lxn, lxl) → _) ((by rw [fp_known1]; (try rw [if_neg c_1]); try rfl))), ⟨rfl, by rw [ht]; exact hP9, va_K.moved hal hK9, hD9⟩, hS.F ht⟩) hS.2.2 (Nat.le_of_ble_eq_true rfl) (Nat.le_of_ble_eq_true rfl))

def fp_known2 (pfa : Int32) (pfp : Int32) (lxe : Int32) (lxa : Int32) (lxt : Int32) (lxp : Int32) (lxn : Int32) (lxl : Int32) (fBy : Nat → Int32) (fCo : Nat → Int32) (fTo : Nat → Int32) (fNm : Nat → Nat → Int32) : Int32 × Int32 × (Int32) × (Int32) × (Int32) × (Int32) × (Int32) × (Int32) × (Int32) := (if lxt = 23 then (xL ((fb_find2 fTo fNm lxl)) (fun r_3 => (if r_3 = (-1) then ((1 : Int32), (0 : Int32), (4 : Int32), lxp, lxa, lxt, lxp, lxn, lxl) else (xL ((fe_advance lxe lxa lxn lxl fBy fCo)) (fun u_7 => ((0 : Int32), r_3, pfa, pfp, u_7.1, u_7.2.1, u_7.2.2.1, u_7.2.2.2.1, u_7.2.2.2.2)))))) else ((1 : Int32), (0 : Int32), (1 : Int32), lxp, lxa, lxt, lxp, lxn, lxl))
theorem gp_known2_s0  : (0 : Int32) = 0 := (by decide)
theorem gp_known2_s1  : (0 : Int32) = 0 := (by decide)
theorem gp_known2_s2 {y0 : Int32} (h0 : ¬ (y0 < 0)) : ¬ (y0 < 0) := h0
theorem gp_known2_s3  : ¬ ((1 : Int32) = 0) := (by decide)
theorem gp_known2_s4  : ¬ ((1 : Int32) = 0) := (by decide)
set_option maxHeartbeats 4000000 in
set_option maxRecDepth 100000 in
theorem gp_known2 (l : Launch) (hst : l.stackTraces = false) (dC : Nat → ClassId) (dI : Nat → Nat → Nat) (pa : Nat) (lx : Nat) (bk : Nat) (pfa : Int32) (pfp : Int32) (psk : Int32) (phe : Nat) (phr : Nat) (phs : Int32) (pop : Int32) (lby : Nat) (lfi : Int32) (lco : Nat) (lxe : Int32) (lxa : Int32) (lxt : Int32) (lxp : Int32) (lxn : Int32) (lxl : Int32) (cBy : ClassId) (fBy : Nat → Int32) (cCo : ClassId) (fCo : Nat → Int32) (bto : Nat) (bnm : Nat) (bla : Nat) (bsk : Nat) (bru : Nat) (bbo : Nat) (bdi : Nat) (bda : Nat) (bdk : Nat) (bdt : Nat) (bdp : Nat) (bno : Nat) (cTo : ClassId) (fTo : Nat → Int32) (cNm : ClassId) (Nm : Nat → Nat) (cNr : ClassId) (fNm : Nat → Nat → Int32) (sL : Nat → Nat) (sz : Nat) (h0_lxa : ¬ lxa < 0) (h9_lxe : lxe ≤ 900) : vx_Met l yX7_known (Cond.code yX7_known cX7_known 3 (some .int) :: wsL_law) ({ frames := 7, cells := 1, slots := 6, locals := 105 }) (va_Pc [.ref pa, .int 2] (fun U => U.heap.size = sz ∧ va_P (dC, dI) vwCl [(eO7a pa lx bk pfa pfp psk phe phr phs pop), (eO3a lx lby lfi lco lxe lxa lxt lxp lxn lxl), (eA0 lby cBy 900 fBy), (eA0 lco cCo 23 fCo), (eO0a bk bto bnm bla bsk bru bbo bdi bda bdk bdt bdp bno), (eA0 bto cTo 5 fTo), (eA4 bnm cNm 5 (fun k => some (Nm k))), (eA0 (Nm 2) cNr 12 (fNm 2))] U.heap ∧ va_K (dC, dI) vwCl [(cBy, .byte), (cCo, .int), (cTo, .int), (cNm, .array .int), (cNr, .int)] U ∧ va_D (fun _ => True) [(eO7a pa lx bk pfa pfp psk phe phr phs pop), (eO3a lx lby lfi lco lxe lxa lxt lxp lxn lxl), (eA0 lby cBy 900 fBy), (eA0 lco cCo 23 fCo), (eO0a bk bto bnm bla bsk bru bbo bdi bda bdk bdt bdp bno), (eA0 bto cTo 5 fTo), (eA4 bnm cNm 5 (fun k => some (Nm k))), (eA0 (Nm 2) cNr 12 (fNm 2))] ∧ xl sL (va_A [(eO7a pa lx bk pfa pfp psk phe phr phs pop), (eO3a lx lby lfi lco lxe lxa lxt lxp lxn lxl), (eA0 lby cBy 900 fBy), (eA0 lco cCo 23 fCo), (eO0a bk bto bnm bla bsk bru bbo bdi bda bdk bdt bdp bno), (eA0 bto cTo 5 fTo), (eA4 bnm cNm 5 (fun k => some (Nm k))), (eA0 (Nm 2) cNr 12 (fNm 2))] sz) U U.heap)) (va_Qi (fun (r : Int32) (u : (Int32) × (Int32) × (Int32) × (Int32) × (Int32) × (Int32) × (Int32)) => ((fp_known2 pfa pfp lxe lxa lxt lxp lxn lxl fBy fCo fTo fNm).1 = 0 ∧ r = (fp_known2 pfa pfp lxe lxa lxt lxp lxn lxl fBy fCo fTo fNm).2.1 ∧ u = (fp_known2 pfa pfp lxe lxa lxt lxp lxn lxl fBy fCo fTo fNm).2.2) ∧ (¬ u.2.2.1 < 0)) (fun (u : (Int32) × (Int32) × (Int32) × (Int32) × (Int32) × (Int32) × (Int32)) t => (va_P (dC, dI) vwCl [(eO7a pa lx bk u.1 u.2.1 psk phe phr phs pop), (eO3a lx lby lfi lco lxe u.2.2.1 u.2.2.2.1 u.2.2.2.2.1 u.2.2.2.2.2.1 u.2.2.2.2.2.2), (eA0 lby cBy 900 fBy), (eA0 lco cCo 23 fCo), (eO0a bk bto bnm bla bsk bru bbo bdi bda bdk bdt bdp bno), (eA0 bto cTo 5 fTo), (eA4 bnm cNm 5 (fun k => some (Nm k))), (eA0 (Nm 2) cNr 12 (fNm 2))] t.heap ∧ va_K (dC, dI) vwCl [] t ∧ va_D (va_A [(eO7a pa lx bk pfa pfp psk phe phr phs pop), (eO3a lx lby lfi lco lxe lxa lxt lxp lxn lxl), (eA0 lby cBy 900 fBy), (eA0 lco cCo 23 fCo), (eO0a bk bto bnm bla bsk bru bbo bdi bda bdk bdt bdp bno), (eA0 bto cTo 5 fTo), (eA4 bnm cNm 5 (fun k => some (Nm k))), (eA0 (Nm 2) cNr 12 (fNm 2))] sz) [(eO7a pa lx bk u.1 u.2.1 psk phe phr phs pop), (eO3a lx lby lfi lco lxe u.2.2.1 u.2.2.2.1 u.2.2.2.2.1 u.2.2.2.2.2.1 u.2.2.2.2.2.2), (eA0 lby cBy 900 fBy), (eA0 lco cCo 23 fCo), (eO0a bk bto bnm bla bsk bru bbo bdi bda bdk bdt bdp bno), (eA0 bto cTo 5 fTo), (eA4 bnm cNm 5 (fun k => some (Nm k))), (eA0 (Nm 2) cNr 12 (fNm 2))]) ∧ t.heap.size = sz) (va_A [(eO7a pa lx bk pfa pfp psk phe phr phs pop), (eO3a lx lby lfi lco lxe lxa lxt lxp lxn lxl), (eA0 lby cBy 900 fBy), (eA0 lco cCo 23 fCo), (eO0a bk bto bnm bla bsk bru bbo bdi bda bdk bdt bdp bno), (eA0 bto cTo 5 fTo), (eA4 bnm cNm 5 (fun k => some (Nm k))), (eA0 (Nm 2) cNr 12 (fNm 2))] sz)) (vx_X (fun (u : (Int32) × (Int32) × (Int32) × (Int32) × (Int32) × (Int32) × (Int32)) => (fp_known2 pfa pfp lxe lxa lxt lxp lxn lxl fBy fCo fTo fNm).1 = 1 ∧ u = (fp_known2 pfa pfp lxe lxa lxt lxp lxn lxl fBy fCo fTo fNm).2.2) (fun (E : String) (u : (Int32) × (Int32) × (Int32) × (Int32) × (Int32) × (Int32) × (Int32)) (t : State) => E = "java/lang/IllegalStateException" ∧ va_P (dC, dI) vwCl [(eO7a pa lx bk u.1 u.2.1 psk phe phr phs pop), (eO3a lx lby lfi lco lxe u.2.2.1 u.2.2.2.1 u.2.2.2.2.1 u.2.2.2.2.2.1 u.2.2.2.2.2.2), (eA0 lby cBy 900 fBy), (eA0 lco cCo 23 fCo), (eO0a bk bto bnm bla bsk bru bbo bdi bda bdk bdt bdp bno), (eA0 bto cTo 5 fTo), (eA4 bnm cNm 5 (fun k => some (Nm k))), (eA0 (Nm 2) cNr 12 (fNm 2))] t.heap ∧ va_K (dC, dI) vwCl [] t ∧ va_D (va_A [(eO7a pa lx bk pfa pfp psk phe phr phs pop), (eO3a lx lby lfi lco lxe lxa lxt lxp lxn lxl), (eA0 lby cBy 900 fBy), (eA0 lco cCo 23 fCo), (eO0a bk bto bnm bla bsk bru bbo bdi bda bdk bdt bdp bno), (eA0 bto cTo 5 fTo), (eA4 bnm cNm 5 (fun k => some (Nm k))), (eA0 (Nm 2) cNr 12 (fNm 2))] sz) [(eO7a pa lx bk u.1 u.2.1 psk phe phr phs pop), (eO3a lx lby lfi lco lxe u.2.2.1 u.2.2.2.1 u.2.2.2.2.1 u.2.2.2.2.2.1 u.2.2.2.2.2.2), (eA0 lby cBy 900 fBy), (eA0 lco cCo 23 fCo), (eO0a bk bto bnm bla bsk bru bbo bdi bda bdk bdt bdp bno), (eA0 bto cTo 5 fTo), (eA4 bnm cNm 5 (fun k => some (Nm k))), (eA0 (Nm 2) cNr 12 (fNm 2))]) (va_A [(eO7a pa lx bk pfa pfp psk phe phr phs pop), (eO3a lx lby lfi lco lxe lxa lxt lxp lxn lxl), (eA0 lby cBy 900 fBy), (eA0 lco cCo 23 fCo), (eO0a bk bto bnm bla bsk bru bbo bdi bda bdk bdt bdp bno), (eA0 bto cTo 5 fTo), (eA4 bnm cNm 5 (fun k => some (Nm k))), (eA0 (Nm 2) cNr 12 (fNm 2))] sz)) 1 6 (va_A [(eO7a pa lx bk pfa pfp psk phe phr phs pop), (eO3a lx lby lfi lco lxe lxa lxt lxp lxn lxl), (eA0 lby cBy 900 fBy), (eA0 lco cCo 23 fCo), (eO0a bk bto bnm bla bsk bru bbo bdi bda bdk bdt bdp bno), (eA0 bto cTo 5 fTo), (eA4 bnm cNm 5 (fun k => some (Nm k))), (eA0 (Nm 2) cNr 12 (fNm 2))] sz) := by
  refine vx_ofW (cc := cX7_known) (maxL := 3) (ret := (some .int)) (by decide) rfl ?_
  intro p e s m args below meth c s₁ B hml hex hv
  obtain ⟨rfl, hsz, hP, hK, hD0, hXL⟩ := hv
  have hx := B.exec
  have hb := B.bytes
  have hr := B.returns
  have hts := atoms_spec (ws := Cond.code yX7_known cX7_known 3 (some .int) :: wsL_law) B.pre
  have htw : ∀ w ∈ wsL_law, w.before _ s = true := fun w h => hts w (List.mem_cons_of_mem _ h)
  have hown : s.vm.findClass RX7 = some m.cls := findClass_of_methodNamed B.named
  have hlocks := B.notSynchronized
  subst hsz
  have hD := hD0.self (sz := s.heap.size)
  generalize hAe : va_A [(eO7a pa lx bk pfa pfp psk phe phr phs pop), (eO3a lx lby lfi lco lxe lxa lxt lxp lxn lxl), (eA0 lby cBy 900 fBy), (eA0 lco cCo 23 fCo), (eO0a bk bto bnm bla bsk bru bbo bdi bda bdk bdt bdp bno), (eA0 bto cTo 5 fTo), (eA4 bnm cNm 5 (fun k => some (Nm k))), (eA0 (Nm 2) cNr 12 (fNm 2))] s.heap.size = A at hD hXL ⊢
  have hA : ∀ q : Nat, s.heap.size ≤ q → A q := fun q h => by rw [← hAe]; exact Or.inr h
  obtain ⟨H, rH⟩ : ∃ z : Heap, z = s.heap := ⟨_, rfl⟩
  have hS : va_S A s.heap H [] := by rw [rH]; exact va_S.rf
  have hP : va_P (dC, dI) vwCl [(eO7a pa lx bk pfa pfp psk phe phr phs pop), (eO3a lx lby lfi lco lxe lxa lxt lxp lxn lxl), (eA0 lby cBy 900 fBy), (eA0 lco cCo 23 fCo), (eO0a bk bto bnm bla bsk bru bbo bdi bda bdk bdt bdp bno), (eA0 bto cTo 5 fTo), (eA4 bnm cNm 5 (fun k => some (Nm k))), (eA0 (Nm 2) cNr 12 (fNm 2))] H := by rw [rH]; exact hP
  rw [← rH]
  have hl := lv_entry ([.ref pa, .int 2]) (n := 3) (Nat.le_of_ble_eq_true rfl)
  rw [lg_entry_eq]
  generalize (lg_sl ([.ref pa, .int 2]) ++ List.replicate (3 - (lg_sl ([.ref pa, .int 2])).length) Slot.unset).toArray = ls at hl ⊢
  have hl : lv_has ls 3 [(0, .ref pa), (1, .int 2)] := hl
  refine lv_aload_n hx hb dX7_known_0 rfl (lv_at hl 0 rfl) ?_
  refine lv_aload_n hx hb dX7_known_1 rfl (lv_at hl 0 rfl) ?_
  refine va_get (D := (dC, dI)) (ci := 7) (v := .ref lx) (C := RX7) (T := TX7) (N := 9) hx hb htw inlX7 hown hK hP 0 rfl rfl 0 (by decide) (htw _ (ck_3 _ (List.mem_of_getElem? (i := 5) rfl))) (fun _ h9 => h9) rfl dX7_known_2 ?_
  refine va_get (D := (dC, dI)) (ci := 3) (v := .int lxt) (C := RX3) (T := TX3) (N := 9) hx hb htw inlX3 hown hK hP 1 rfl rfl 5 (by decide) (htw _ (ck_13 _ (List.mem_of_getElem? (i := 9) rfl))) (fun _ h9 => h9) rfl dX7_known_5 ?_
  refine lv_bipush (v := 23) hx hb dX7_known_8 (by decide) ?_
  refine lv_icmp_eq (tgt := 17) hx hb dX7_known_10 (by decide) (fun c_1 => ?_) (fun c_1 => ?_)
  · refine lv_iconst (v := 0) hx hb dX7_known_17 (by decide) ?_
    refine lv_iconst (v := 1) hx hb dX7_known_18 (by decide) ?_
    refine lv_aload_n hx hb dX7_known_19 rfl (lv_at hl 0 rfl) ?_
    refine va_get (D := (dC, dI)) (ci := 7) (v := .ref lx) (C := RX7) (T := TX7) (N := 9) hx hb htw inlX7 hown hK hP 0 rfl rfl 0 (by decide) (htw _ (ck_3 _ (List.mem_of_getElem? (i := 5) rfl))) (fun _ h9 => h9) rfl dX7_known_20 ?_
    refine va_get (D := (dC, dI)) (ci := 3) (v := .int lxp) (C := RX3) (T := TX3) (N := 9) hx hb htw inlX3 hown hK hP 1 rfl rfl 6 (by decide) (htw _ (ck_15 _ (List.mem_of_getElem? (i := 13) rfl))) (fun _ h9 => h9) rfl dX7_known_23 ?_
    have hPc := hP.sub (ws' := []) [] rfl
    have hKc := hK.sub (tys' := []) [] rfl
    refine va_csv (W.runV (As := [.int 0, .int 1, .int lxp]) (rest := []) ⟨hx, hb, hml, hown, htw⟩ (gp_ref0 l dC dI (0 : Int32) (1 : Int32) lxp pa (gp_known2_s0 )) (cwV 3 htw (xg_V (ck_16 _ (List.mem_of_getElem? (i := 6) rfl)) (ck_16 _ (List.mem_of_getElem? (i := 7) rfl)) (ck_16 _ (List.mem_of_getElem? (i := 8) rfl)) (ck_1 _ (List.mem_of_getElem? (i := 16) rfl)) (ck_16 _ (List.mem_of_getElem? (i := 9) rfl))) rfl rfl rfl (by exact ⟨rfl, hdc_15.1, hdc_15.2, hdd_48⟩) ⟨Nat.le_of_ble_eq_true rfl, Nat.le_of_ble_eq_true rfl⟩) ⟨fun a U g mk q => by obtain ⟨q0, qP, qK⟩ := q; exact ⟨q0, qP, va_K.moved (u := U) (U := U.calling g mk a) (Vm.Alike.refl U.vm) qK⟩, va_recv hK hP (ci := 7) (q0 := 0) rfl rfl, fun U hU hW => ⟨rfl, by rw [hU]; exact hPc, va_K.moved hW.alike hKc⟩⟩ rfl rfl hl.1 rfl (lv_room (Nat.le_of_ble_eq_true rfl)) dX7_known_26 ⟨Nat.le_of_ble_eq_true rfl, Nat.le_of_ble_eq_true rfl⟩) (fun hw => ?_)
    try dsimp only at hw
    refine lv_aload_n hx hb dX7_known_29 rfl (lv_at hl 0 rfl) ?_
    refine va_get (D := (dC, dI)) (ci := 7) (v := .ref bk) (C := RX7) (T := TX7) (N := 9) hx hb htw inlX7 hown hK hP 0 rfl rfl 1 (by decide) (htw _ (ck_13 _ (List.mem_of_getElem? (i := 6) rfl))) (fun _ h9 => h9) rfl dX7_known_30 ?_
    refine lv_iload_n hx hb dX7_known_33 rfl (lv_at hl 1 rfl) ?_
    refine lv_aload_n hx hb dX7_known_34 rfl (lv_at hl 0 rfl) ?_
    refine va_get (D := (dC, dI)) (ci := 7) (v := .ref lx) (C := RX7) (T := TX7) (N := 9) hx hb htw inlX7 hown hK hP 0 rfl rfl 0 (by decide) (htw _ (ck_3 _ (List.mem_of_getElem? (i := 5) rfl))) (fun _ h9 => h9) rfl dX7_known_35 ?_
    refine va_get (D := (dC, dI)) (ci := 3) (v := .int lxl) (C := RX3) (T := TX3) (N := 9) hx hb htw inlX3 hown hK hP 1 rfl rfl 8 (by decide) (htw _ (ck_16 _ (List.mem_of_getElem? (i := 4) rfl))) (fun _ h9 => h9) rfl dX7_known_38 ?_
    have hPc := hP.sub (ws' := [(eO0a bk bto bnm bla bsk bru bbo bdi bda bdk bdt bdp bno), (eA0 bto cTo 5 fTo), (eA4 bnm cNm 5 (fun k => some (Nm k))), (eA0 (Nm 2) cNr 12 (fNm 2))]) [4, 5, 6, 7] rfl
    have hKc := hK.sub (tys' := [(cTo, .int), (cNm, .array .int), (cNr, .int)]) [2, 3, 4] rfl
    refine vp_callSi (W.runV (As := [.int 2, .int lxl]) (rest := []) ⟨hx, hb, hml, hown, htw⟩ (gb_find2 l dC dI bk bto bnm bla bsk bru bbo bdi bda bdk bdt bdp bno cTo fTo cNm Nm cNr fNm lxl) (cwV 2 htw (xg_V (ck_16 _ (List.mem_of_getElem? (i := 12) rfl)) (ck_16 _ (List.mem_of_getElem? (i := 13) rfl)) (ck_16 _ (List.mem_of_getElem? (i := 14) rfl)) (ck_1 _ (List.mem_of_getElem? (i := 20) rfl)) (ck_16 _ (List.mem_of_getElem? (i := 15) rfl))) rfl rfl rfl (by exact ⟨rfl, hdc_6.1, hdc_6.2, hdd_7⟩) ⟨Nat.le_of_ble_eq_true rfl, Nat.le_of_ble_eq_true rfl⟩) ⟨fun a U g mk q => by obtain ⟨q0, qP, qK⟩ := q; exact ⟨q0, qP, va_K.moved (u := U) (U := U.calling g mk a) (Vm.Alike.refl U.vm) qK⟩, va_recv hKc hPc (ci := 0) (q0 := 0) rfl rfl, fun U hU hW => ⟨rfl, by rw [hU]; exact hPc, va_K.moved hW.alike hKc⟩⟩ rfl rfl hl.1 rfl (lv_room (Nat.le_of_ble_eq_true rfl)) dX7_known_41 ⟨Nat.le_of_ble_eq_true rfl, Nat.le_of_ble_eq_true rfl⟩) (fun r_3 hw => ?_)
    try dsimp only at hw
    have hq_r_3 : r_3 = (fb_find2 fTo fNm lxl) := hw
    refine lv_istore_n (lv' := [(2, .int r_3), (0, .ref pa), (1, .int 2)]) hx hb dX7_known_44 rfl hl (by decide) rfl (fun ls hl => ?_)
    refine lv_aload_n hx hb dX7_known_45 rfl (lv_at hl 1 rfl) ?_
    refine lv_iload_n hx hb dX7_known_46 rfl (lv_at hl 0 rfl) ?_
    refine lv_iconst (v := (-1)) hx hb dX7_known_47 (by decide) ?_
    refine lv_icmp_ne (tgt := 55) hx hb dX7_known_48 (by decide) (fun c_4 => ?_) (fun c_4 => ?_)
    · refine lv_iconst (v := 0) hx hb dX7_known_55 (by decide) ?_
      refine lv_iconst (v := 4) hx hb dX7_known_56 (by decide) ?_
      refine lv_aload_n hx hb dX7_known_57 rfl (lv_at hl 1 rfl) ?_
      refine va_get (D := (dC, dI)) (ci := 7) (v := .ref lx) (C := RX7) (T := TX7) (N := 9) hx hb htw inlX7 hown hK hP 0 rfl rfl 0 (by decide) (htw _ (ck_3 _ (List.mem_of_getElem? (i := 5) rfl))) (fun _ h9 => h9) rfl dX7_known_58 ?_
      refine va_get (D := (dC, dI)) (ci := 3) (v := .int lxp) (C := RX3) (T := TX3) (N := 9) hx hb htw inlX3 hown hK hP 1 rfl rfl 6 (by decide) (htw _ (ck_15 _ (List.mem_of_getElem? (i := 13) rfl))) (fun _ h9 => h9) rfl dX7_known_61 ?_
      have hPc := hP.sub (ws' := []) [] rfl
      have hKc := hK.sub (tys' := []) [] rfl
      refine va_csv (W.runV (As := [.int 0, .int 4, .int lxp]) (rest := []) ⟨hx, hb, hml, hown, htw⟩ (gp_ref0 l dC dI (0 : Int32) (4 : Int32) lxp pa (gp_known2_s1 )) (cwV 3 htw (xg_V (ck_16 _ (List.mem_of_getElem? (i := 6) rfl)) (ck_16 _ (List.mem_of_getElem? (i := 7) rfl)) (ck_16 _ (List.mem_of_getElem? (i := 8) rfl)) (ck_1 _ (List.mem_of_getElem? (i := 16) rfl)) (ck_16 _ (List.mem_of_getElem? (i := 9) rfl))) rfl rfl rfl (by exact ⟨rfl, hdc_15.1, hdc_15.2, hdd_48⟩) ⟨Nat.le_of_ble_eq_true rfl, Nat.le_of_ble_eq_true rfl⟩) ⟨fun a U g mk q => by obtain ⟨q0, qP, qK⟩ := q; exact ⟨q0, qP, va_K.moved (u := U) (U := U.calling g mk a) (Vm.Alike.refl U.vm) qK⟩, va_recv hK hP (ci := 7) (q0 := 0) rfl rfl, fun U hU hW => ⟨rfl, by rw [hU]; exact hPc, va_K.moved hW.alike hKc⟩⟩ rfl rfl hl.1 rfl (lv_room (Nat.le_of_ble_eq_true rfl)) dX7_known_64 ⟨Nat.le_of_ble_eq_true rfl, Nat.le_of_ble_eq_true rfl⟩) (fun hw => ?_)
      try dsimp only at hw
      refine lv_aload_n hx hb dX7_known_67 rfl (lv_at hl 1 rfl) ?_
      refine va_get (D := (dC, dI)) (ci := 7) (v := .ref lx) (C := RX7) (T := TX7) (N := 9) hx hb htw inlX7 hown hK hP 0 rfl rfl 0 (by decide) (htw _ (ck_3 _ (List.mem_of_getElem? (i := 5) rfl))) (fun _ h9 => h9) rfl dX7_known_68 ?_
      obtain ⟨hPc, hDc, hFc, hCc⟩ := zsub3 (ws' := [(eO3a lx lby lfi lco lxe lxa lxt lxp lxn lxl), (eA0 lby cBy 900 fBy), (eA0 lco cCo 23 fCo)]) hP hD hS hA [1, 2, 3] (by decide) rfl
      have hKc := hK.sub (tys' := [(cBy, .byte), (cCo, .int)]) [0, 1] rfl
      refine va_callv (va_runV (As := []) (rest := []) ⟨hx, hb, hml, hown, htw⟩ (gz_advance l dC dI lx lby lfi lco lxe lxa lxt lxp lxn lxl cBy fBy cCo fCo H.size h0_lxa h9_lxe) (cwV 0 htw (xg_V (ck_16 _ (List.mem_of_getElem? (i := 11) rfl)) (ck_14 _ (List.mem_of_getElem? (i := 13) rfl)) (ck_14 _ (List.mem_of_getElem? (i := 14) rfl)) (ck_3 _ (List.mem_of_getElem? (i := 4) rfl)) (ck_14 _ (List.mem_of_getElem? (i := 15) rfl))) rfl rfl rfl (by exact ⟨rfl, hdc_4.1, hdc_4.2, hdd_13⟩) ⟨Nat.le_of_ble_eq_true rfl, Nat.le_of_ble_eq_true rfl⟩) ⟨fun a U g mk q => by obtain ⟨q0, q1, qP, qK, qD⟩ := q; exact ⟨q0, q1, qP, va_K.moved (u := U) (U := U.calling g mk a) (Vm.Alike.refl U.vm) qK, qD⟩, va_recv hKc hPc (ci := 3) (q0 := 0) rfl rfl, fun U hU hW => ⟨rfl, by rw [hU], by rw [hU]; exact hPc, va_K.moved hW.alike hKc, hDc.weaken (fun _ _ _ _ => trivial)⟩⟩ rfl rfl hl.1 rfl (lv_room (Nat.le_of_ble_eq_true rfl)) dX7_known_71 ⟨Nat.le_of_ble_eq_true rfl, Nat.le_of_ble_eq_true rfl⟩) hS (fun q _ h => hFc q h) hFc (fun u_7 t H1 locs ht hvm hw hB hz1 hk1 hS => ?_)
      try dsimp only at hw
      obtain ⟨hP1, hK1, hD1⟩ := hB
      rw [ht] at hP1
      have hK1 := va_K.moved hvm.symm hK1
      have hK1 : va_K (dC, dI) vwCl [] s := hK1
      obtain ⟨hP, hD⟩ := va_join (wr := [(eO7a pa lx bk pfa pfp psk phe phr phs pop), (eO0a bk bto bnm bla bsk bru bbo bdi bda bdk bdt bdp bno), (eA0 bto cTo 5 fTo), (eA4 bnm cNm 5 (fun k => some (Nm k))), (eA0 (Nm 2) cNr 12 (fNm 2))]) (w1 := [(eO3a lx lby lfi lco lxe u_7.1 u_7.2.1 u_7.2.2.1 u_7.2.2.2.1 u_7.2.2.2.2), (eA0 lby cBy 900 fBy), (eA0 lco cCo 23 fCo)]) hP hD [1, 2, 3] [0, 4, 5, 6, 7] hCc rfl (by decide) (by decide) hk1 hFc hP1 hD1
      generalize H1 = H at hP hS ⊢
      obtain ⟨hP, hD⟩ := zre [(eO7a pa lx bk pfa pfp psk phe phr phs pop), (eO0a bk bto bnm bla bsk bru bbo bdi bda bdk bdt bdp bno), (eA0 bto cTo 5 fTo), (eA4 bnm cNm 5 (fun k => some (Nm k))), (eA0 (Nm 2) cNr 12 (fNm 2)), (eO3a lx lby lfi lco lxe u_7.1 u_7.2.1 u_7.2.2.1 u_7.2.2.2.1 u_7.2.2.2.2), (eA0 lby cBy 900 fBy), (eA0 lco cCo 23 fCo)] hP hD rfl
      refine W.widen (k := 0) (n := 0) (by omega) (by omega) ?_
      obtain ⟨hw, hp_13⟩ := hw
      have hq_u_7 : u_7 = (fe_advance lxe lxa lxn lxl fBy fCo) := hw
      refine lv_iload_n hx hb dX7_known_74 rfl (lv_at hl 0 rfl) ?_
      refine xs_size (fun hHz => ?_)
      refine vx_ret ?_
      refine W.widen (k := 1) (n := 6) (by omega) (by omega) ?_
      obtain ⟨hP9, hD9⟩ := zsub2 (ws' := [(eO7a pa lx bk pfa pfp psk phe phr phs pop), (eO3a lx lby lfi lco lxe u_7.1 u_7.2.1 u_7.2.2.1 u_7.2.2.2.1 u_7.2.2.2.2), (eA0 lby cBy 900 fBy), (eA0 lco cCo 23 fCo), (eO0a bk bto bnm bla bsk bru bbo bdi bda bdk bdt bdp bno), (eA0 bto cTo 5 fTo), (eA4 bnm cNm 5 (fun k => some (Nm k))), (eA0 (Nm 2) cNr 12 (fNm 2))]) hP hD [0, 5, 6, 7, 1, 2, 3, 4] (by decide +kernel) rfl
      have hK9 := hK.sub (tys' := []) [] rfl
      exact W.iret (v := r_3) hx hb hr (fun t ht hW => ⟨⟨r_3, (pfa, pfp, u_7.1, u_7.2.1, u_7.2.2.1, u_7.2.2.2.1, u_7.2.2.2.2), rfl, ⟨((fun e9 => ⟨by rw [e9], by rw [e9], by rw [e9]⟩ : fp_known2 pfa pfp lxe lxa lxt lxp lxn lxl fBy fCo fTo fNm = ((0 : Int32), r_3, pfa, pfp, u_7.1, u_7.2.1, u_7.2.2.1, u_7.2.2.2.1, u_7.2.2.2.2) → _) ((by rw [fp_known2]; (try rw [if_pos c_1]); (try rw [← hq_r_3]); (try rw [xL_eq]); (try rw [if_neg c_4]); (try rw [← hq_u_7]); (try rw [xL_eq]); try rfl))), (gp_known2_s2 (y0 := u_7.1) hp_13)⟩, ⟨by rw [ht]; exact hP9, va_K.moved hW.alike hK9, hD9⟩, by rw [ht]; first | exact hHz | exact hHz.trans (by rw [rH])⟩, hS.F ht⟩) hS.2.2 dX7_known_75
    · refine lv_iconst (v := 1) hx hb dX7_known_51 (by decide) ?_
      refine lv_goto (tgt := 56) hx hb dX7_known_52 (by decide) ?_
      refine lv_iconst (v := 4) hx hb dX7_known_56 (by decide) ?_
      refine lv_aload_n hx hb dX7_known_57 rfl (lv_at hl 1 rfl) ?_
      refine va_get (D := (dC, dI)) (ci := 7) (v := .ref lx) (C := RX7) (T := TX7) (N := 9) hx hb htw inlX7 hown hK hP 0 rfl rfl 0 (by decide) (htw _ (ck_3 _ (List.mem_of_getElem? (i := 5) rfl))) (fun _ h9 => h9) rfl dX7_known_58 ?_
      refine va_get (D := (dC, dI)) (ci := 3) (v := .int lxp) (C := RX3) (T := TX3) (N := 9) hx hb htw inlX3 hown hK hP 1 rfl rfl 6 (by decide) (htw _ (ck_15 _ (List.mem_of_getElem? (i := 13) rfl))) (fun _ h9 => h9) rfl dX7_known_61 ?_
      refine xs_size (fun hHz => ?_)
      obtain ⟨hPc, hDc, hFc, hCc⟩ := zsub3 (ws' := [(eO7a pa lx bk pfa pfp psk phe phr phs pop)]) hP hD hS hA [0] (by decide) rfl
      have hKc := hK.sub (tys' := []) [] rfl
      refine vx_callv (vx_runV (As := [.int 1, .int 4, .int lxp]) (rest := []) ⟨hx, hb, hml, hown, htw⟩ (gp_refT l hst dC dI pa lx bk pfa pfp psk phe phr phs pop (1 : Int32) (4 : Int32) lxp sL H.size (gp_known2_s3 )) (cwV 3 htw (xg_V (ck_16 _ (List.mem_of_getElem? (i := 6) rfl)) (ck_16 _ (List.mem_of_getElem? (i := 7) rfl)) (ck_16 _ (List.mem_of_getElem? (i := 8) rfl)) (ck_1 _ (List.mem_of_getElem? (i := 16) rfl)) (ck_16 _ (List.mem_of_getElem? (i := 9) rfl))) rfl rfl rfl (by exact ⟨rfl, hdc_15.1, hdc_15.2, hdd_48⟩) ⟨Nat.le_of_ble_eq_true rfl, Nat.le_of_ble_eq_true rfl⟩) ⟨fun a U g mk q => by obtain ⟨q0, q1, qP, qK, qD, qx0⟩ := q; exact ⟨q0, q1, qP, va_K.moved (u := U) (U := U.calling g mk a) (Vm.Alike.refl U.vm) qK, qD, xl.calling qx0⟩, va_recv hKc hPc (ci := 7) (q0 := 0) rfl rfl, fun U hU hW => ⟨rfl, by rw [hU], by rw [hU]; exact hPc, va_K.moved hW.alike hKc, hDc.weaken (fun _ _ _ _ => trivial), by rw [hU]; exact xl.warm hW ((xl.kept hXL hS.2.1).narrow hFc)⟩⟩ rfl rfl hl.1 rfl (lv_room (Nat.le_of_ble_eq_true rfl)) dX7_known_64 ⟨Nat.le_of_ble_eq_true rfl, Nat.le_of_ble_eq_true rfl⟩) hS (fun q _ h => hFc q h) hFc (fun q _ h => hFc q h) (fun E ce q9 u_14 t H1 locs ht hvm hw hB hz1 hk1 hS hcell hcv hcl => ?_) (fun u_16 t H1 locs ht hvm hw hB hz1 hk1 hS => hw.elim)
      obtain ⟨hE9, hB⟩ := hB
      subst hE9
      obtain ⟨hP1, hK1, hD1⟩ := hB
      rw [ht] at hP1
      have hK1 := va_K.moved hvm.symm hK1
      have hK1 : va_K (dC, dI) vwCl [] s := hK1
      obtain ⟨hP, hD⟩ := va_join (wr := [(eO3a lx lby lfi lco lxe lxa lxt lxp lxn lxl), (eA0 lby cBy 900 fBy), (eA0 lco cCo 23 fCo), (eO0a bk bto bnm bla bsk bru bbo bdi bda bdk bdt bdp bno), (eA0 bto cTo 5 fTo), (eA4 bnm cNm 5 (fun k => some (Nm k))), (eA0 (Nm 2) cNr 12 (fNm 2))]) (w1 := [(eO7a pa lx bk 4 lxp psk phe phr phs pop)]) hP hD [0] [1, 2, 3, 4, 5, 6, 7] hCc rfl (by decide) (by decide) hk1 hFc hP1 hD1
      generalize H1 = H at hP hS hcell ⊢
      obtain ⟨hP, hD⟩ := zre [(eO3a lx lby lfi lco lxe lxa lxt lxp lxn lxl), (eA0 lby cBy 900 fBy), (eA0 lco cCo 23 fCo), (eO0a bk bto bnm bla bsk bru bbo bdi bda bdk bdt bdp bno), (eA0 bto cTo 5 fTo), (eA4 bnm cNm 5 (fun k => some (Nm k))), (eA0 (Nm 2) cNr 12 (fNm 2)), (eO7a pa lx bk 4 lxp psk phe phr phs pop)] hP hD rfl
      obtain ⟨hP9, hD9⟩ := zsub2 (ws' := [(eO7a pa lx bk 4 lxp psk phe phr phs pop), (eO3a lx lby lfi lco lxe lxa lxt lxp lxn lxl), (eA0 lby cBy 900 fBy), (eA0 lco cCo 23 fCo), (eO0a bk bto bnm bla bsk bru bbo bdi bda bdk bdt bdp bno), (eA0 bto cTo 5 fTo), (eA4 bnm cNm 5 (fun k => some (Nm k))), (eA0 (Nm 2) cNr 12 (fNm 2))]) hP hD [7, 0, 1, 2, 3, 4, 5, 6] (by decide +kernel) rfl
      have hK9 := hK.sub (tys' := []) [] rfl
      exact vx_widen (k := 1) (n := 6) (Nat.le_of_ble_eq_true rfl) (Nat.le_of_ble_eq_true rfl) (vx_out (fun x h9 => (hex x h9).elim) hlocks hcell hcv hcl (fun t ht hal => ⟨(4, lxp, lxa, lxt, lxp, lxn, lxl), ((fun e9 => ⟨by rw [e9], by rw [e9]⟩ : fp_known2 pfa pfp lxe lxa lxt lxp lxn lxl fBy fCo fTo fNm = ((1 : Int32), (0 : Int32), (4 : Int32), lxp, lxa, lxt, lxp, lxn, lxl) → _) ((by rw [fp_known2]; (try rw [if_pos c_1]); (try rw [← hq_r_3]); (try rw [xL_eq]); (try rw [if_pos c_4]); try rfl))), ⟨rfl, by rw [ht]; exact hP9, va_K.moved hal hK9, hD9⟩, hS.F ht⟩) hS.2.2 (Nat.le_of_ble_eq_true rfl) (Nat.le_of_ble_eq_true rfl))
  · refine lv_iconst (v := 1) hx hb dX7_known_13 (by decide) ?_
    refine lv_goto (tgt := 18) hx hb dX7_known_14 (by decide) ?_
    refine lv_iconst (v := 1) hx hb dX7_known_18 (by decide) ?_
    refine lv_aload_n hx hb dX7_known_19 rfl (lv_at hl 0 rfl) ?_
    refine va_get (D := (dC, dI)) (ci := 7) (v := .ref lx) (C := RX7) (T := TX7) (N := 9) hx hb htw inlX7 hown hK hP 0 rfl rfl 0 (by decide) (htw _ (ck_3 _ (List.mem_of_getElem? (i := 5) rfl))) (fun _ h9 => h9) rfl dX7_known_20 ?_
    refine va_get (D := (dC, dI)) (ci := 3) (v := .int lxp) (C := RX3) (T := TX3) (N := 9) hx hb htw inlX3 hown hK hP 1 rfl rfl 6 (by decide) (htw _ (ck_15 _ (List.mem_of_getElem? (i := 13) rfl))) (fun _ h9 => h9) rfl dX7_known_23 ?_
    refine xs_size (fun hHz => ?_)
    obtain ⟨hPc, hDc, hFc, hCc⟩ := zsub3 (ws' := [(eO7a pa lx bk pfa pfp psk phe phr phs pop)]) hP hD hS hA [0] (by decide) rfl
    have hKc := hK.sub (tys' := []) [] rfl
    refine vx_callv (vx_runV (As := [.int 1, .int 1, .int lxp]) (rest := []) ⟨hx, hb, hml, hown, htw⟩ (gp_refT l hst dC dI pa lx bk pfa pfp psk phe phr phs pop (1 : Int32) (1 : Int32) lxp sL H.size (gp_known2_s4 )) (cwV 3 htw (xg_V (ck_16 _ (List.mem_of_getElem? (i := 6) rfl)) (ck_16 _ (List.mem_of_getElem? (i := 7) rfl)) (ck_16 _ (List.mem_of_getElem? (i := 8) rfl)) (ck_1 _ (List.mem_of_getElem? (i := 16) rfl)) (ck_16 _ (List.mem_of_getElem? (i := 9) rfl))) rfl rfl rfl (by exact ⟨rfl, hdc_15.1, hdc_15.2, hdd_48⟩) ⟨Nat.le_of_ble_eq_true rfl, Nat.le_of_ble_eq_true rfl⟩) ⟨fun a U g mk q => by obtain ⟨q0, q1, qP, qK, qD, qx0⟩ := q; exact ⟨q0, q1, qP, va_K.moved (u := U) (U := U.calling g mk a) (Vm.Alike.refl U.vm) qK, qD, xl.calling qx0⟩, va_recv hKc hPc (ci := 7) (q0 := 0) rfl rfl, fun U hU hW => ⟨rfl, by rw [hU], by rw [hU]; exact hPc, va_K.moved hW.alike hKc, hDc.weaken (fun _ _ _ _ => trivial), by rw [hU]; exact xl.warm hW ((xl.kept hXL hS.2.1).narrow hFc)⟩⟩ rfl rfl hl.1 rfl (lv_room (Nat.le_of_ble_eq_true rfl)) dX7_known_26 ⟨Nat.le_of_ble_eq_true rfl, Nat.le_of_ble_eq_true rfl⟩) hS (fun q _ h => hFc q h) hFc (fun q _ h => hFc q h) (fun E ce q9 u_17 t H1 locs ht hvm hw hB hz1 hk1 hS hcell hcv hcl => ?_) (fun u_19 t H1 locs ht hvm hw hB hz1 hk1 hS => hw.elim)
    obtain ⟨hE9, hB⟩ := hB
    subst hE9
    obtain ⟨hP1, hK1, hD1⟩ := hB
    rw [ht] at hP1
    have hK1 := va_K.moved hvm.symm hK1
    have hK1 : va_K (dC, dI) vwCl [] s := hK1
    obtain ⟨hP, hD⟩ := va_join (wr := [(eO3a lx lby lfi lco lxe lxa lxt lxp lxn lxl), (eA0 lby cBy 900 fBy), (eA0 lco cCo 23 fCo), (eO0a bk bto bnm bla bsk bru bbo bdi bda bdk bdt bdp bno), (eA0 bto cTo 5 fTo), (eA4 bnm cNm 5 (fun k => some (Nm k))), (eA0 (Nm 2) cNr 12 (fNm 2))]) (w1 := [(eO7a pa lx bk 1 lxp psk phe phr phs pop)]) hP hD [0] [1, 2, 3, 4, 5, 6, 7] hCc rfl (by decide) (by decide) hk1 hFc hP1 hD1
    generalize H1 = H at hP hS hcell ⊢
    obtain ⟨hP, hD⟩ := zre [(eO3a lx lby lfi lco lxe lxa lxt lxp lxn lxl), (eA0 lby cBy 900 fBy), (eA0 lco cCo 23 fCo), (eO0a bk bto bnm bla bsk bru bbo bdi bda bdk bdt bdp bno), (eA0 bto cTo 5 fTo), (eA4 bnm cNm 5 (fun k => some (Nm k))), (eA0 (Nm 2) cNr 12 (fNm 2)), (eO7a pa lx bk 1 lxp psk phe phr phs pop)] hP hD rfl
    obtain ⟨hP9, hD9⟩ := zsub2 (ws' := [(eO7a pa lx bk 1 lxp psk phe phr phs pop), (eO3a lx lby lfi lco lxe lxa lxt lxp lxn lxl), (eA0 lby cBy 900 fBy), (eA0 lco cCo 23 fCo), (eO0a bk bto bnm bla bsk bru bbo bdi bda bdk bdt bdp bno), (eA0 bto cTo 5 fTo), (eA4 bnm cNm 5 (fun k => some (Nm k))), (eA0 (Nm 2) cNr 12 (fNm 2))]) hP hD [7, 0, 1, 2, 3, 4, 5, 6] (by decide +kernel) rfl
    have hK9 := hK.sub (tys' := []) [] rfl
    exact vx_widen (k := 1) (n := 6) (Nat.le_of_ble_eq_true rfl) (Nat.le_of_ble_eq_true rfl) (vx_out (fun x h9 => (hex x h9).elim) hlocks hcell hcv hcl (fun t ht hal => ⟨(1, lxp, lxa, lxt, lxp, lxn, lxl), ((fun e9 => ⟨by rw [e9], by rw [e9]⟩ : fp_known2 pfa pfp lxe lxa lxt lxp lxn lxl fBy fCo fTo fNm = ((1 : Int32), (0 : Int32), (1 : Int32), lxp, lxa, lxt, lxp, lxn, lxl) → _) ((by rw [fp_known2]; (try rw [if_neg c_1]); try rfl))), ⟨rfl, by rw [ht]; exact hP9, va_K.moved hal hK9, hD9⟩, hS.F ht⟩) hS.2.2 (Nat.le_of_ble_eq_true rfl) (Nat.le_of_ble_eq_true rfl))

def fp_known4 (pfa : Int32) (pfp : Int32) (lxe : Int32) (lxa : Int32) (lxt : Int32) (lxp : Int32) (lxn : Int32) (lxl : Int32) (fBy : Nat → Int32) (fCo : Nat → Int32) (fTo : Nat → Int32) (fNm : Nat → Nat → Int32) : Int32 × Int32 × (Int32) × (Int32) × (Int32) × (Int32) × (Int32) × (Int32) × (Int32) := (if lxt = 23 then (xL ((fb_find4 fTo fNm lxl)) (fun r_3 => (if r_3 = (-1) then ((1 : Int32), (0 : Int32), (4 : Int32), lxp, lxa, lxt, lxp, lxn, lxl) else (xL ((fe_advance lxe lxa lxn lxl fBy fCo)) (fun u_7 => ((0 : Int32), r_3, pfa, pfp, u_7.1, u_7.2.1, u_7.2.2.1, u_7.2.2.2.1, u_7.2.2.2.2)))))) else ((1 : Int32), (0 : Int32), (1 : Int32), lxp, lxa, lxt, lxp, lxn, lxl))
theorem gp_known4_s0  : (0 : Int32) = 0 := (by decide)
theorem gp_known4_s1  : (0 : Int32) = 0 := (by decide)
theorem gp_known4_s2 {y0 : Int32} (h0 : ¬ (y0 < 0)) : ¬ (y0 < 0) := h0
theorem gp_known4_s3  : ¬ ((1 : Int32) = 0) := (by decide)
theorem gp_known4_s4  : ¬ ((1 : Int32) = 0) := (by decide)
set_option maxHeartbeats 4000000 in
set_option maxRecDepth 100000 in
theorem gp_known4 (l : Launch) (hst : l.stackTraces = false) (dC : Nat → ClassId) (dI : Nat → Nat → Nat) (pa : Nat) (lx : Nat) (bk : Nat) (pfa : Int32) (pfp : Int32) (psk : Int32) (phe : Nat) (phr : Nat) (phs : Int32) (pop : Int32) (lby : Nat) (lfi : Int32) (lco : Nat) (lxe : Int32) (lxa : Int32) (lxt : Int32) (lxp : Int32) (lxn : Int32) (lxl : Int32) (cBy : ClassId) (fBy : Nat → Int32) (cCo : ClassId) (fCo : Nat → Int32) (bto : Nat) (bnm : Nat) (bla : Nat) (bsk : Nat) (bru : Nat) (bbo : Nat) (bdi : Nat) (bda : Nat) (bdk : Nat) (bdt : Nat) (bdp : Nat) (bno : Nat) (cTo : ClassId) (fTo : Nat → Int32) (cNm : ClassId) (Nm : Nat → Nat) (cNr : ClassId) (fNm : Nat → Nat → Int32) (sL : Nat → Nat) (sz : Nat) (h0_lxa : ¬ lxa < 0) (h9_lxe : lxe ≤ 900) : vx_Met l yX7_known (Cond.code yX7_known cX7_known 3 (some .int) :: wsL_law) ({ frames := 7, cells := 1, slots := 6, locals := 105 }) (va_Pc [.ref pa, .int 4] (fun U => U.heap.size = sz ∧ va_P (dC, dI) vwCl [(eO7a pa lx bk pfa pfp psk phe phr phs pop), (eO3a lx lby lfi lco lxe lxa lxt lxp lxn lxl), (eA0 lby cBy 900 fBy), (eA0 lco cCo 23 fCo), (eO0a bk bto bnm bla bsk bru bbo bdi bda bdk bdt bdp bno), (eA0 bto cTo 5 fTo), (eA4 bnm cNm 5 (fun k => some (Nm k))), (eA0 (Nm 4) cNr 12 (fNm 4))] U.heap ∧ va_K (dC, dI) vwCl [(cBy, .byte), (cCo, .int), (cTo, .int), (cNm, .array .int), (cNr, .int)] U ∧ va_D (fun _ => True) [(eO7a pa lx bk pfa pfp psk phe phr phs pop), (eO3a lx lby lfi lco lxe lxa lxt lxp lxn lxl), (eA0 lby cBy 900 fBy), (eA0 lco cCo 23 fCo), (eO0a bk bto bnm bla bsk bru bbo bdi bda bdk bdt bdp bno), (eA0 bto cTo 5 fTo), (eA4 bnm cNm 5 (fun k => some (Nm k))), (eA0 (Nm 4) cNr 12 (fNm 4))] ∧ xl sL (va_A [(eO7a pa lx bk pfa pfp psk phe phr phs pop), (eO3a lx lby lfi lco lxe lxa lxt lxp lxn lxl), (eA0 lby cBy 900 fBy), (eA0 lco cCo 23 fCo), (eO0a bk bto bnm bla bsk bru bbo bdi bda bdk bdt bdp bno), (eA0 bto cTo 5 fTo), (eA4 bnm cNm 5 (fun k => some (Nm k))), (eA0 (Nm 4) cNr 12 (fNm 4))] sz) U U.heap)) (va_Qi (fun (r : Int32) (u : (Int32) × (Int32) × (Int32) × (Int32) × (Int32) × (Int32) × (Int32)) => ((fp_known4 pfa pfp lxe lxa lxt lxp lxn lxl fBy fCo fTo fNm).1 = 0 ∧ r = (fp_known4 pfa pfp lxe lxa lxt lxp lxn lxl fBy fCo fTo fNm).2.1 ∧ u = (fp_known4 pfa pfp lxe lxa lxt lxp lxn lxl fBy fCo fTo fNm).2.2) ∧ (¬ u.2.2.1 < 0)) (fun (u : (Int32) × (Int32) × (Int32) × (Int32) × (Int32) × (Int32) × (Int32)) t => (va_P (dC, dI) vwCl [(eO7a pa lx bk u.1 u.2.1 psk phe phr phs pop), (eO3a lx lby lfi lco lxe u.2.2.1 u.2.2.2.1 u.2.2.2.2.1 u.2.2.2.2.2.1 u.2.2.2.2.2.2), (eA0 lby cBy 900 fBy), (eA0 lco cCo 23 fCo), (eO0a bk bto bnm bla bsk bru bbo bdi bda bdk bdt bdp bno), (eA0 bto cTo 5 fTo), (eA4 bnm cNm 5 (fun k => some (Nm k))), (eA0 (Nm 4) cNr 12 (fNm 4))] t.heap ∧ va_K (dC, dI) vwCl [] t ∧ va_D (va_A [(eO7a pa lx bk pfa pfp psk phe phr phs pop), (eO3a lx lby lfi lco lxe lxa lxt lxp lxn lxl), (eA0 lby cBy 900 fBy), (eA0 lco cCo 23 fCo), (eO0a bk bto bnm bla bsk bru bbo bdi bda bdk bdt bdp bno), (eA0 bto cTo 5 fTo), (eA4 bnm cNm 5 (fun k => some (Nm k))), (eA0 (Nm 4) cNr 12 (fNm 4))] sz) [(eO7a pa lx bk u.1 u.2.1 psk phe phr phs pop), (eO3a lx lby lfi lco lxe u.2.2.1 u.2.2.2.1 u.2.2.2.2.1 u.2.2.2.2.2.1 u.2.2.2.2.2.2), (eA0 lby cBy 900 fBy), (eA0 lco cCo 23 fCo), (eO0a bk bto bnm bla bsk bru bbo bdi bda bdk bdt bdp bno), (eA0 bto cTo 5 fTo), (eA4 bnm cNm 5 (fun k => some (Nm k))), (eA0 (Nm 4) cNr 12 (fNm 4))]) ∧ t.heap.size = sz) (va_A [(eO7a pa lx bk pfa pfp psk phe phr phs pop), (eO3a lx lby lfi lco lxe lxa lxt lxp lxn lxl), (eA0 lby cBy 900 fBy), (eA0 lco cCo 23 fCo), (eO0a bk bto bnm bla bsk bru bbo bdi bda bdk bdt bdp bno), (eA0 bto cTo 5 fTo), (eA4 bnm cNm 5 (fun k => some (Nm k))), (eA0 (Nm 4) cNr 12 (fNm 4))] sz)) (vx_X (fun (u : (Int32) × (Int32) × (Int32) × (Int32) × (Int32) × (Int32) × (Int32)) => (fp_known4 pfa pfp lxe lxa lxt lxp lxn lxl fBy fCo fTo fNm).1 = 1 ∧ u = (fp_known4 pfa pfp lxe lxa lxt lxp lxn lxl fBy fCo fTo fNm).2.2) (fun (E : String) (u : (Int32) × (Int32) × (Int32) × (Int32) × (Int32) × (Int32) × (Int32)) (t : State) => E = "java/lang/IllegalStateException" ∧ va_P (dC, dI) vwCl [(eO7a pa lx bk u.1 u.2.1 psk phe phr phs pop), (eO3a lx lby lfi lco lxe u.2.2.1 u.2.2.2.1 u.2.2.2.2.1 u.2.2.2.2.2.1 u.2.2.2.2.2.2), (eA0 lby cBy 900 fBy), (eA0 lco cCo 23 fCo), (eO0a bk bto bnm bla bsk bru bbo bdi bda bdk bdt bdp bno), (eA0 bto cTo 5 fTo), (eA4 bnm cNm 5 (fun k => some (Nm k))), (eA0 (Nm 4) cNr 12 (fNm 4))] t.heap ∧ va_K (dC, dI) vwCl [] t ∧ va_D (va_A [(eO7a pa lx bk pfa pfp psk phe phr phs pop), (eO3a lx lby lfi lco lxe lxa lxt lxp lxn lxl), (eA0 lby cBy 900 fBy), (eA0 lco cCo 23 fCo), (eO0a bk bto bnm bla bsk bru bbo bdi bda bdk bdt bdp bno), (eA0 bto cTo 5 fTo), (eA4 bnm cNm 5 (fun k => some (Nm k))), (eA0 (Nm 4) cNr 12 (fNm 4))] sz) [(eO7a pa lx bk u.1 u.2.1 psk phe phr phs pop), (eO3a lx lby lfi lco lxe u.2.2.1 u.2.2.2.1 u.2.2.2.2.1 u.2.2.2.2.2.1 u.2.2.2.2.2.2), (eA0 lby cBy 900 fBy), (eA0 lco cCo 23 fCo), (eO0a bk bto bnm bla bsk bru bbo bdi bda bdk bdt bdp bno), (eA0 bto cTo 5 fTo), (eA4 bnm cNm 5 (fun k => some (Nm k))), (eA0 (Nm 4) cNr 12 (fNm 4))]) (va_A [(eO7a pa lx bk pfa pfp psk phe phr phs pop), (eO3a lx lby lfi lco lxe lxa lxt lxp lxn lxl), (eA0 lby cBy 900 fBy), (eA0 lco cCo 23 fCo), (eO0a bk bto bnm bla bsk bru bbo bdi bda bdk bdt bdp bno), (eA0 bto cTo 5 fTo), (eA4 bnm cNm 5 (fun k => some (Nm k))), (eA0 (Nm 4) cNr 12 (fNm 4))] sz)) 1 6 (va_A [(eO7a pa lx bk pfa pfp psk phe phr phs pop), (eO3a lx lby lfi lco lxe lxa lxt lxp lxn lxl), (eA0 lby cBy 900 fBy), (eA0 lco cCo 23 fCo), (eO0a bk bto bnm bla bsk bru bbo bdi bda bdk bdt bdp bno), (eA0 bto cTo 5 fTo), (eA4 bnm cNm 5 (fun k => some (Nm k))), (eA0 (Nm 4) cNr 12 (fNm 4))] sz) := by
  refine vx_ofW (cc := cX7_known) (maxL := 3) (ret := (some .int)) (by decide) rfl ?_
  intro p e s m args below meth c s₁ B hml hex hv
  obtain ⟨rfl, hsz, hP, hK, hD0, hXL⟩ := hv
  have hx := B.exec
  have hb := B.bytes
  have hr := B.returns
  have hts := atoms_spec (ws := Cond.code yX7_known cX7_known 3 (some .int) :: wsL_law) B.pre
  have htw : ∀ w ∈ wsL_law, w.before _ s = true := fun w h => hts w (List.mem_cons_of_mem _ h)
  have hown : s.vm.findClass RX7 = some m.cls := findClass_of_methodNamed B.named
  have hlocks := B.notSynchronized
  subst hsz
  have hD := hD0.self (sz := s.heap.size)
  generalize hAe : va_A [(eO7a pa lx bk pfa pfp psk phe phr phs pop), (eO3a lx lby lfi lco lxe lxa lxt lxp lxn lxl), (eA0 lby cBy 900 fBy), (eA0 lco cCo 23 fCo), (eO0a bk bto bnm bla bsk bru bbo bdi bda bdk bdt bdp bno), (eA0 bto cTo 5 fTo), (eA4 bnm cNm 5 (fun k => some (Nm k))), (eA0 (Nm 4) cNr 12 (fNm 4))] s.heap.size = A at hD hXL ⊢
  have hA : ∀ q : Nat, s.heap.size ≤ q → A q := fun q h => by rw [← hAe]; exact Or.inr h
  obtain ⟨H, rH⟩ : ∃ z : Heap, z = s.heap := ⟨_, rfl⟩
  have hS : va_S A s.heap H [] := by rw [rH]; exact va_S.rf
  have hP : va_P (dC, dI) vwCl [(eO7a pa lx bk pfa pfp psk phe phr phs pop), (eO3a lx lby lfi lco lxe lxa lxt lxp lxn lxl), (eA0 lby cBy 900 fBy), (eA0 lco cCo 23 fCo), (eO0a bk bto bnm bla bsk bru bbo bdi bda bdk bdt bdp bno), (eA0 bto cTo 5 fTo), (eA4 bnm cNm 5 (fun k => some (Nm k))), (eA0 (Nm 4) cNr 12 (fNm 4))] H := by rw [rH]; exact hP
  rw [← rH]
  have hl := lv_entry ([.ref pa, .int 4]) (n := 3) (Nat.le_of_ble_eq_true rfl)
  rw [lg_entry_eq]
  generalize (lg_sl ([.ref pa, .int 4]) ++ List.replicate (3 - (lg_sl ([.ref pa, .int 4])).length) Slot.unset).toArray = ls at hl ⊢
  have hl : lv_has ls 3 [(0, .ref pa), (1, .int 4)] := hl
  refine lv_aload_n hx hb dX7_known_0 rfl (lv_at hl 0 rfl) ?_
  refine lv_aload_n hx hb dX7_known_1 rfl (lv_at hl 0 rfl) ?_
  refine va_get (D := (dC, dI)) (ci := 7) (v := .ref lx) (C := RX7) (T := TX7) (N := 9) hx hb htw inlX7 hown hK hP 0 rfl rfl 0 (by decide) (htw _ (ck_3 _ (List.mem_of_getElem? (i := 5) rfl))) (fun _ h9 => h9) rfl dX7_known_2 ?_
  refine va_get (D := (dC, dI)) (ci := 3) (v := .int lxt) (C := RX3) (T := TX3) (N := 9) hx hb htw inlX3 hown hK hP 1 rfl rfl 5 (by decide) (htw _ (ck_13 _ (List.mem_of_getElem? (i := 9) rfl))) (fun _ h9 => h9) rfl dX7_known_5 ?_
  refine lv_bipush (v := 23) hx hb dX7_known_8 (by decide) ?_
  refine lv_icmp_eq (tgt := 17) hx hb dX7_known_10 (by decide) (fun c_1 => ?_) (fun c_1 => ?_)
  · refine lv_iconst (v := 0) hx hb dX7_known_17 (by decide) ?_
    refine lv_iconst (v := 1) hx hb dX7_known_18 (by decide) ?_
    refine lv_aload_n hx hb dX7_known_19 rfl (lv_at hl 0 rfl) ?_
    refine va_get (D := (dC, dI)) (ci := 7) (v := .ref lx) (C := RX7) (T := TX7) (N := 9) hx hb htw inlX7 hown hK hP 0 rfl rfl 0 (by decide) (htw _ (ck_3 _ (List.mem_of_getElem? (i := 5) rfl))) (fun _ h9 => h9) rfl dX7_known_20 ?_
    refine va_get (D := (dC, dI)) (ci := 3) (v := .int lxp) (C := RX3) (T := TX3) (N := 9) hx hb htw inlX3 hown hK hP 1 rfl rfl 6 (by decide) (htw _ (ck_15 _ (List.mem_of_getElem? (i := 13) rfl))) (fun _ h9 => h9) rfl dX7_known_23 ?_
    have hPc := hP.sub (ws' := []) [] rfl
    have hKc := hK.sub (tys' := []) [] rfl
    refine va_csv (W.runV (As := [.int 0, .int 1, .int lxp]) (rest := []) ⟨hx, hb, hml, hown, htw⟩ (gp_ref0 l dC dI (0 : Int32) (1 : Int32) lxp pa (gp_known4_s0 )) (cwV 3 htw (xg_V (ck_16 _ (List.mem_of_getElem? (i := 6) rfl)) (ck_16 _ (List.mem_of_getElem? (i := 7) rfl)) (ck_16 _ (List.mem_of_getElem? (i := 8) rfl)) (ck_1 _ (List.mem_of_getElem? (i := 16) rfl)) (ck_16 _ (List.mem_of_getElem? (i := 9) rfl))) rfl rfl rfl (by exact ⟨rfl, hdc_15.1, hdc_15.2, hdd_48⟩) ⟨Nat.le_of_ble_eq_true rfl, Nat.le_of_ble_eq_true rfl⟩) ⟨fun a U g mk q => by obtain ⟨q0, qP, qK⟩ := q; exact ⟨q0, qP, va_K.moved (u := U) (U := U.calling g mk a) (Vm.Alike.refl U.vm) qK⟩, va_recv hK hP (ci := 7) (q0 := 0) rfl rfl, fun U hU hW => ⟨rfl, by rw [hU]; exact hPc, va_K.moved hW.alike hKc⟩⟩ rfl rfl hl.1 rfl (lv_room (Nat.le_of_ble_eq_true rfl)) dX7_known_26 ⟨Nat.le_of_ble_eq_true rfl, Nat.le_of_ble_eq_true rfl⟩) (fun hw => ?_)
    try dsimp only at hw
    refine lv_aload_n hx hb dX7_known_29 rfl (lv_at hl 0 rfl) ?_
    refine va_get (D := (dC, dI)) (ci := 7) (v := .ref bk) (C := RX7) (T := TX7) (N := 9) hx hb htw inlX7 hown hK hP 0 rfl rfl 1 (by decide) (htw _ (ck_13 _ (List.mem_of_getElem? (i := 6) rfl))) (fun _ h9 => h9) rfl dX7_known_30 ?_
    refine lv_iload_n hx hb dX7_known_33 rfl (lv_at hl 1 rfl) ?_
    refine lv_aload_n hx hb dX7_known_34 rfl (lv_at hl 0 rfl) ?_
    refine va_get (D := (dC, dI)) (ci := 7) (v := .ref lx) (C := RX7) (T := TX7) (N := 9) hx hb htw inlX7 hown hK hP 0 rfl rfl 0 (by decide) (htw _ (ck_3 _ (List.mem_of_getElem? (i := 5) rfl))) (fun _ h9 => h9) rfl dX7_known_35 ?_
    refine va_get (D := (dC, dI)) (ci := 3) (v := .int lxl) (C := RX3) (T := TX3) (N := 9) hx hb htw inlX3 hown hK hP 1 rfl rfl 8 (by decide) (htw _ (ck_16 _ (List.mem_of_getElem? (i := 4) rfl))) (fun _ h9 => h9) rfl dX7_known_38 ?_
    have hPc := hP.sub (ws' := [(eO0a bk bto bnm bla bsk bru bbo bdi bda bdk bdt bdp bno), (eA0 bto cTo 5 fTo), (eA4 bnm cNm 5 (fun k => some (Nm k))), (eA0 (Nm 4) cNr 12 (fNm 4))]) [4, 5, 6, 7] rfl
    have hKc := hK.sub (tys' := [(cTo, .int), (cNm, .array .int), (cNr, .int)]) [2, 3, 4] rfl
    refine vp_callSi (W.runV (As := [.int 4, .int lxl]) (rest := []) ⟨hx, hb, hml, hown, htw⟩ (gb_find4 l dC dI bk bto bnm bla bsk bru bbo bdi bda bdk bdt bdp bno cTo fTo cNm Nm cNr fNm lxl) (cwV 2 htw (xg_V (ck_16 _ (List.mem_of_getElem? (i := 12) rfl)) (ck_16 _ (List.mem_of_getElem? (i := 13) rfl)) (ck_16 _ (List.mem_of_getElem? (i := 14) rfl)) (ck_1 _ (List.mem_of_getElem? (i := 20) rfl)) (ck_16 _ (List.mem_of_getElem? (i := 15) rfl))) rfl rfl rfl (by exact ⟨rfl, hdc_6.1, hdc_6.2, hdd_7⟩) ⟨Nat.le_of_ble_eq_true rfl, Nat.le_of_ble_eq_true rfl⟩) ⟨fun a U g mk q => by obtain ⟨q0, qP, qK⟩ := q; exact ⟨q0, qP, va_K.moved (u := U) (U := U.calling g mk a) (Vm.Alike.refl U.vm) qK⟩, va_recv hKc hPc (ci := 0) (q0 := 0) rfl rfl, fun U hU hW => ⟨rfl, by rw [hU]; exact hPc, va_K.moved hW.alike hKc⟩⟩ rfl rfl hl.1 rfl (lv_room (Nat.le_of_ble_eq_true rfl)) dX7_known_41 ⟨Nat.le_of_ble_eq_true rfl, Nat.le_of_ble_eq_true rfl⟩) (fun r_3 hw => ?_)
    try dsimp only at hw
    have hq_r_3 : r_3 = (fb_find4 fTo fNm lxl) := hw
    refine lv_istore_n (lv' := [(2, .int r_3), (0, .ref pa), (1, .int 4)]) hx hb dX7_known_44 rfl hl (by decide) rfl (fun ls hl => ?_)
    refine lv_aload_n hx hb dX7_known_45 rfl (lv_at hl 1 rfl) ?_
    refine lv_iload_n hx hb dX7_known_46 rfl (lv_at hl 0 rfl) ?_
    refine lv_iconst (v := (-1)) hx hb dX7_known_47 (by decide) ?_
    refine lv_icmp_ne (tgt := 55) hx hb dX7_known_48 (by decide) (fun c_4 => ?_) (fun c_4 => ?_)
    · refine lv_iconst (v := 0) hx hb dX7_known_55 (by decide) ?_
      refine lv_iconst (v := 4) hx hb dX7_known_56 (by decide) ?_
      refine lv_aload_n hx hb dX7_known_57 rfl (lv_at hl 1 rfl) ?_
      refine va_get (D := (dC, dI)) (ci := 7) (v := .ref lx) (C := RX7) (T := TX7) (N := 9) hx hb htw inlX7 hown hK hP 0 rfl rfl 0 (by decide) (htw _ (ck_3 _ (List.mem_of_getElem? (i := 5) rfl))) (fun _ h9 => h9) rfl dX7_known_58 ?_
      refine va_get (D := (dC, dI)) (ci := 3) (v := .int lxp) (C := RX3) (T := TX3) (N := 9) hx hb htw inlX3 hown hK hP 1 rfl rfl 6 (by decide) (htw _ (ck_15 _ (List.mem_of_getElem? (i := 13) rfl))) (fun _ h9 => h9) rfl dX7_known_61 ?_
      have hPc := hP.sub (ws' := []) [] rfl
      have hKc := hK.sub (tys' := []) [] rfl
      refine va_csv (W.runV (As := [.int 0, .int 4, .int lxp]) (rest := []) ⟨hx, hb, hml, hown, htw⟩ (gp_ref0 l dC dI (0 : Int32) (4 : Int32) lxp pa (gp_known4_s1 )) (cwV 3 htw (xg_V (ck_16 _ (List.mem_of_getElem? (i := 6) rfl)) (ck_16 _ (List.mem_of_getElem? (i := 7) rfl)) (ck_16 _ (List.mem_of_getElem? (i := 8) rfl)) (ck_1 _ (List.mem_of_getElem? (i := 16) rfl)) (ck_16 _ (List.mem_of_getElem? (i := 9) rfl))) rfl rfl rfl (by exact ⟨rfl, hdc_15.1, hdc_15.2, hdd_48⟩) ⟨Nat.le_of_ble_eq_true rfl, Nat.le_of_ble_eq_true rfl⟩) ⟨fun a U g mk q => by obtain ⟨q0, qP, qK⟩ := q; exact ⟨q0, qP, va_K.moved (u := U) (U := U.calling g mk a) (Vm.Alike.refl U.vm) qK⟩, va_recv hK hP (ci := 7) (q0 := 0) rfl rfl, fun U hU hW => ⟨rfl, by rw [hU]; exact hPc, va_K.moved hW.alike hKc⟩⟩ rfl rfl hl.1 rfl (lv_room (Nat.le_of_ble_eq_true rfl)) dX7_known_64 ⟨Nat.le_of_ble_eq_true rfl, Nat.le_of_ble_eq_true rfl⟩) (fun hw => ?_)
      try dsimp only at hw
      refine lv_aload_n hx hb dX7_known_67 rfl (lv_at hl 1 rfl) ?_
      refine va_get (D := (dC, dI)) (ci := 7) (v := .ref lx) (C := RX7) (T := TX7) (N := 9) hx hb htw inlX7 hown hK hP 0 rfl rfl 0 (by decide) (htw _ (ck_3 _ (List.mem_of_getElem? (i := 5) rfl))) (fun _ h9 => h9) rfl dX7_known_68 ?_
      obtain ⟨hPc, hDc, hFc, hCc⟩ := zsub3 (ws' := [(eO3a lx lby lfi lco lxe lxa lxt lxp lxn lxl), (eA0 lby cBy 900 fBy), (eA0 lco cCo 23 fCo)]) hP hD hS hA [1, 2, 3] (by decide) rfl
      have hKc := hK.sub (tys' := [(cBy, .byte), (cCo, .int)]) [0, 1] rfl
      refine va_callv (va_runV (As := []) (rest := []) ⟨hx, hb, hml, hown, htw⟩ (gz_advance l dC dI lx lby lfi lco lxe lxa lxt lxp lxn lxl cBy fBy cCo fCo H.size h0_lxa h9_lxe) (cwV 0 htw (xg_V (ck_16 _ (List.mem_of_getElem? (i := 11) rfl)) (ck_14 _ (List.mem_of_getElem? (i := 13) rfl)) (ck_14 _ (List.mem_of_getElem? (i := 14) rfl)) (ck_3 _ (List.mem_of_getElem? (i := 4) rfl)) (ck_14 _ (List.mem_of_getElem? (i := 15) rfl))) rfl rfl rfl (by exact ⟨rfl, hdc_4.1, hdc_4.2, hdd_13⟩) ⟨Nat.le_of_ble_eq_true rfl, Nat.le_of_ble_eq_true rfl⟩) ⟨fun a U g mk q => by obtain ⟨q0, q1, qP, qK, qD⟩ := q; exact ⟨q0, q1, qP, va_K.moved (u := U) (U := U.calling g mk a) (Vm.Alike.refl U.vm) qK, qD⟩, va_recv hKc hPc (ci := 3) (q0 := 0) rfl rfl, fun U hU hW => ⟨rfl, by rw [hU], by rw [hU]; exact hPc, va_K.moved hW.alike hKc, hDc.weaken (fun _ _ _ _ => trivial)⟩⟩ rfl rfl hl.1 rfl (lv_room (Nat.le_of_ble_eq_true rfl)) dX7_known_71 ⟨Nat.le_of_ble_eq_true rfl, Nat.le_of_ble_eq_true rfl⟩) hS (fun q _ h => hFc q h) hFc (fun u_7 t H1 locs ht hvm hw hB hz1 hk1 hS => ?_)
      try dsimp only at hw
      obtain ⟨hP1, hK1, hD1⟩ := hB
      rw [ht] at hP1
      have hK1 := va_K.moved hvm.symm hK1
      have hK1 : va_K (dC, dI) vwCl [] s := hK1
      obtain ⟨hP, hD⟩ := va_join (wr := [(eO7a pa lx bk pfa pfp psk phe phr phs pop), (eO0a bk bto bnm bla bsk bru bbo bdi bda bdk bdt bdp bno), (eA0 bto cTo 5 fTo), (eA4 bnm cNm 5 (fun k => some (Nm k))), (eA0 (Nm 4) cNr 12 (fNm 4))]) (w1 := [(eO3a lx lby lfi lco lxe u_7.1 u_7.2.1 u_7.2.2.1 u_7.2.2.2.1 u_7.2.2.2.2), (eA0 lby cBy 900 fBy), (eA0 lco cCo 23 fCo)]) hP hD [1, 2, 3] [0, 4, 5, 6, 7] hCc rfl (by decide) (by decide) hk1 hFc hP1 hD1
      generalize H1 = H at hP hS ⊢
      obtain ⟨hP, hD⟩ := zre [(eO7a pa lx bk pfa pfp psk phe phr phs pop), (eO0a bk bto bnm bla bsk bru bbo bdi bda bdk bdt bdp bno), (eA0 bto cTo 5 fTo), (eA4 bnm cNm 5 (fun k => some (Nm k))), (eA0 (Nm 4) cNr 12 (fNm 4)), (eO3a lx lby lfi lco lxe u_7.1 u_7.2.1 u_7.2.2.1 u_7.2.2.2.1 u_7.2.2.2.2), (eA0 lby cBy 900 fBy), (eA0 lco cCo 23 fCo)] hP hD rfl
      refine W.widen (k := 0) (n := 0) (by omega) (by omega) ?_
      obtain ⟨hw, hp_13⟩ := hw
      have hq_u_7 : u_7 = (fe_advance lxe lxa lxn lxl fBy fCo) := hw
      refine lv_iload_n hx hb dX7_known_74 rfl (lv_at hl 0 rfl) ?_
      refine xs_size (fun hHz => ?_)
      refine vx_ret ?_
      refine W.widen (k := 1) (n := 6) (by omega) (by omega) ?_
      obtain ⟨hP9, hD9⟩ := zsub2 (ws' := [(eO7a pa lx bk pfa pfp psk phe phr phs pop), (eO3a lx lby lfi lco lxe u_7.1 u_7.2.1 u_7.2.2.1 u_7.2.2.2.1 u_7.2.2.2.2), (eA0 lby cBy 900 fBy), (eA0 lco cCo 23 fCo), (eO0a bk bto bnm bla bsk bru bbo bdi bda bdk bdt bdp bno), (eA0 bto cTo 5 fTo), (eA4 bnm cNm 5 (fun k => some (Nm k))), (eA0 (Nm 4) cNr 12 (fNm 4))]) hP hD [0, 5, 6, 7, 1, 2, 3, 4] (by decide +kernel) rfl
      have hK9 := hK.sub (tys' := []) [] rfl
      exact W.iret (v := r_3) hx hb hr (fun t ht hW => ⟨⟨r_3, (pfa, pfp, u_7.1, u_7.2.1, u_7.2.2.1, u_7.2.2.2.1, u_7.2.2.2.2), rfl, ⟨((fun e9 => ⟨by rw [e9], by rw [e9], by rw [e9]⟩ : fp_known4 pfa pfp lxe lxa lxt lxp lxn lxl fBy fCo fTo fNm = ((0 : Int32), r_3, pfa, pfp, u_7.1, u_7.2.1, u_7.2.2.1, u_7.2.2.2.1, u_7.2.2.2.2) → _) ((by rw [fp_known4]; (try rw [if_pos c_1]); (try rw [← hq_r_3]); (try rw [xL_eq]); (try rw [if_neg c_4]); (try rw [← hq_u_7]); (try rw [xL_eq]); try rfl))), (gp_known4_s2 (y0 := u_7.1) hp_13)⟩, ⟨by rw [ht]; exact hP9, va_K.moved hW.alike hK9, hD9⟩, by rw [ht]; first | exact hHz | exact hHz.trans (by rw [rH])⟩, hS.F ht⟩) hS.2.2 dX7_known_75
    · refine lv_iconst (v := 1) hx hb dX7_known_51 (by decide) ?_
      refine lv_goto (tgt := 56) hx hb dX7_known_52 (by decide) ?_
      refine lv_iconst (v := 4) hx hb dX7_known_56 (by decide) ?_
      refine lv_aload_n hx hb dX7_known_57 rfl (lv_at hl 1 rfl) ?_
      refine va_get (D := (dC, dI)) (ci := 7) (v := .ref lx) (C := RX7) (T := TX7) (N := 9) hx hb htw inlX7 hown hK hP 0 rfl rfl 0 (by decide) (htw _ (ck_3 _ (List.mem_of_getElem? (i := 5) rfl))) (fun _ h9 => h9) rfl dX7_known_58 ?_
      refine va_get (D := (dC, dI)) (ci := 3) (v := .int lxp) (C := RX3) (T := TX3) (N := 9) hx hb htw inlX3 hown hK hP 1 rfl rfl 6 (by decide) (htw _ (ck_15 _ (List.mem_of_getElem? (i := 13) rfl))) (fun _ h9 => h9) rfl dX7_known_61 ?_
      refine xs_size (fun hHz => ?_)
      obtain ⟨hPc, hDc, hFc, hCc⟩ := zsub3 (ws' := [(eO7a pa lx bk pfa pfp psk phe phr phs pop)]) hP hD hS hA [0] (by decide) rfl
      have hKc := hK.sub (tys' := []) [] rfl
      refine vx_callv (vx_runV (As := [.int 1, .int 4, .int lxp]) (rest := []) ⟨hx, hb, hml, hown, htw⟩ (gp_refT l hst dC dI pa lx bk pfa pfp psk phe phr phs pop (1 : Int32) (4 : Int32) lxp sL H.size (gp_known4_s3 )) (cwV 3 htw (xg_V (ck_16 _ (List.mem_of_getElem? (i := 6) rfl)) (ck_16 _ (List.mem_of_getElem? (i := 7) rfl)) (ck_16 _ (List.mem_of_getElem? (i := 8) rfl)) (ck_1 _ (List.mem_of_getElem? (i := 16) rfl)) (ck_16 _ (List.mem_of_getElem? (i := 9) rfl))) rfl rfl rfl (by exact ⟨rfl, hdc_15.1, hdc_15.2, hdd_48⟩) ⟨Nat.le_of_ble_eq_true rfl, Nat.le_of_ble_eq_true rfl⟩) ⟨fun a U g mk q => by obtain ⟨q0, q1, qP, qK, qD, qx0⟩ := q; exact ⟨q0, q1, qP, va_K.moved (u := U) (U := U.calling g mk a) (Vm.Alike.refl U.vm) qK, qD, xl.calling qx0⟩, va_recv hKc hPc (ci := 7) (q0 := 0) rfl rfl, fun U hU hW => ⟨rfl, by rw [hU], by rw [hU]; exact hPc, va_K.moved hW.alike hKc, hDc.weaken (fun _ _ _ _ => trivial), by rw [hU]; exact xl.warm hW ((xl.kept hXL hS.2.1).narrow hFc)⟩⟩ rfl rfl hl.1 rfl (lv_room (Nat.le_of_ble_eq_true rfl)) dX7_known_64 ⟨Nat.le_of_ble_eq_true rfl, Nat.le_of_ble_eq_true rfl⟩) hS (fun q _ h => hFc q h) hFc (fun q _ h => hFc q h) (fun E ce q9 u_14 t H1 locs ht hvm hw hB hz1 hk1 hS hcell hcv hcl => ?_) (fun u_16 t H1 locs ht hvm hw hB hz1 hk1 hS => hw.elim)
      obtain ⟨hE9, hB⟩ := hB
      subst hE9
      obtain ⟨hP1, hK1, hD1⟩ := hB
      rw [ht] at hP1
      have hK1 := va_K.moved hvm.symm hK1
      have hK1 : va_K (dC, dI) vwCl [] s := hK1
      obtain ⟨hP, hD⟩ := va_join (wr := [(eO3a lx lby lfi lco lxe lxa lxt lxp lxn lxl), (eA0 lby cBy 900 fBy), (eA0 lco cCo 23 fCo), (eO0a bk bto bnm bla bsk bru bbo bdi bda bdk bdt bdp bno), (eA0 bto cTo 5 fTo), (eA4 bnm cNm 5 (fun k => some (Nm k))), (eA0 (Nm 4) cNr 12 (fNm 4))]) (w1 := [(eO7a pa lx bk 4 lxp psk phe phr phs pop)]) hP hD [0] [1, 2, 3, 4, 5, 6, 7] hCc rfl (by decide) (by decide) hk1 hFc hP1 hD1
      generalize H1 = H at hP hS hcell ⊢
      obtain ⟨hP, hD⟩ := zre [(eO3a lx lby lfi lco lxe lxa lxt lxp lxn lxl), (eA0 lby cBy 900 fBy), (eA0 lco cCo 23 fCo), (eO0a bk bto bnm bla bsk bru bbo bdi bda bdk bdt bdp bno), (eA0 bto cTo 5 fTo), (eA4 bnm cNm 5 (fun k => some (Nm k))), (eA0 (Nm 4) cNr 12 (fNm 4)), (eO7a pa lx bk 4 lxp psk phe phr phs pop)] hP hD rfl
      obtain ⟨hP9, hD9⟩ := zsub2 (ws' := [(eO7a pa lx bk 4 lxp psk phe phr phs pop), (eO3a lx lby lfi lco lxe lxa lxt lxp lxn lxl), (eA0 lby cBy 900 fBy), (eA0 lco cCo 23 fCo), (eO0a bk bto bnm bla bsk bru bbo bdi bda bdk bdt bdp bno), (eA0 bto cTo 5 fTo), (eA4 bnm cNm 5 (fun k => some (Nm k))), (eA0 (Nm 4) cNr 12 (fNm 4))]) hP hD [7, 0, 1, 2, 3, 4, 5, 6] (by decide +kernel) rfl
      have hK9 := hK.sub (tys' := []) [] rfl
      exact vx_widen (k := 1) (n := 6) (Nat.le_of_ble_eq_true rfl) (Nat.le_of_ble_eq_true rfl) (vx_out (fun x h9 => (hex x h9).elim) hlocks hcell hcv hcl (fun t ht hal => ⟨(4, lxp, lxa, lxt, lxp, lxn, lxl), ((fun e9 => ⟨by rw [e9], by rw [e9]⟩ : fp_known4 pfa pfp lxe lxa lxt lxp lxn lxl fBy fCo fTo fNm = ((1 : Int32), (0 : Int32), (4 : Int32), lxp, lxa, lxt, lxp, lxn, lxl) → _) ((by rw [fp_known4]; (try rw [if_pos c_1]); (try rw [← hq_r_3]); (try rw [xL_eq]); (try rw [if_pos c_4]); try rfl))), ⟨rfl, by rw [ht]; exact hP9, va_K.moved hal hK9, hD9⟩, hS.F ht⟩) hS.2.2 (Nat.le_of_ble_eq_true rfl) (Nat.le_of_ble_eq_true rfl))
  · refine lv_iconst (v := 1) hx hb dX7_known_13 (by decide) ?_
    refine lv_goto (tgt := 18) hx hb dX7_known_14 (by decide) ?_
    refine lv_iconst (v := 1) hx hb dX7_known_18 (by decide) ?_
    refine lv_aload_n hx hb dX7_known_19 rfl (lv_at hl 0 rfl) ?_
    refine va_get (D := (dC, dI)) (ci := 7) (v := .ref lx) (C := RX7) (T := TX7) (N := 9) hx hb htw inlX7 hown hK hP 0 rfl rfl 0 (by decide) (htw _ (ck_3 _ (List.mem_of_getElem? (i := 5) rfl))) (fun _ h9 => h9) rfl dX7_known_20 ?_
    refine va_get (D := (dC, dI)) (ci := 3) (v := .int lxp) (C := RX3) (T := TX3) (N := 9) hx hb htw inlX3 hown hK hP 1 rfl rfl 6 (by decide) (htw _ (ck_15 _ (List.mem_of_getElem? (i := 13) rfl))) (fun _ h9 => h9) rfl dX7_known_23 ?_
    refine xs_size (fun hHz => ?_)
    obtain ⟨hPc, hDc, hFc, hCc⟩ := zsub3 (ws' := [(eO7a pa lx bk pfa pfp psk phe phr phs pop)]) hP hD hS hA [0] (by decide) rfl
    have hKc := hK.sub (tys' := []) [] rfl
    refine vx_callv (vx_runV (As := [.int 1, .int 1, .int lxp]) (rest := []) ⟨hx, hb, hml, hown, htw⟩ (gp_refT l hst dC dI pa lx bk pfa pfp psk phe phr phs pop (1 : Int32) (1 : Int32) lxp sL H.size (gp_known4_s4 )) (cwV 3 htw (xg_V (ck_16 _ (List.mem_of_getElem? (i := 6) rfl)) (ck_16 _ (List.mem_of_getElem? (i := 7) rfl)) (ck_16 _ (List.mem_of_getElem? (i := 8) rfl)) (ck_1 _ (List.mem_of_getElem? (i := 16) rfl)) (ck_16 _ (List.mem_of_getElem? (i := 9) rfl))) rfl rfl rfl (by exact ⟨rfl, hdc_15.1, hdc_15.2, hdd_48⟩) ⟨Nat.le_of_ble_eq_true rfl, Nat.le_of_ble_eq_true rfl⟩) ⟨fun a U g mk q => by obtain ⟨q0, q1, qP, qK, qD, qx0⟩ := q; exact ⟨q0, q1, qP, va_K.moved (u := U) (U := U.calling g mk a) (Vm.Alike.refl U.vm) qK, qD, xl.calling qx0⟩, va_recv hKc hPc (ci := 7) (q0 := 0) rfl rfl, fun U hU hW => ⟨rfl, by rw [hU], by rw [hU]; exact hPc, va_K.moved hW.alike hKc, hDc.weaken (fun _ _ _ _ => trivial), by rw [hU]; exact xl.warm hW ((xl.kept hXL hS.2.1).narrow hFc)⟩⟩ rfl rfl hl.1 rfl (lv_room (Nat.le_of_ble_eq_true rfl)) dX7_known_26 ⟨Nat.le_of_ble_eq_true rfl, Nat.le_of_ble_eq_true rfl⟩) hS (fun q _ h => hFc q h) hFc (fun q _ h => hFc q h) (fun E ce q9 u_17 t H1 locs ht hvm hw hB hz1 hk1 hS hcell hcv hcl => ?_) (fun u_19 t H1 locs ht hvm hw hB hz1 hk1 hS => hw.elim)
    obtain ⟨hE9, hB⟩ := hB
    subst hE9
    obtain ⟨hP1, hK1, hD1⟩ := hB
    rw [ht] at hP1
    have hK1 := va_K.moved hvm.symm hK1
    have hK1 : va_K (dC, dI) vwCl [] s := hK1
    obtain ⟨hP, hD⟩ := va_join (wr := [(eO3a lx lby lfi lco lxe lxa lxt lxp lxn lxl), (eA0 lby cBy 900 fBy), (eA0 lco cCo 23 fCo), (eO0a bk bto bnm bla bsk bru bbo bdi bda bdk bdt bdp bno), (eA0 bto cTo 5 fTo), (eA4 bnm cNm 5 (fun k => some (Nm k))), (eA0 (Nm 4) cNr 12 (fNm 4))]) (w1 := [(eO7a pa lx bk 1 lxp psk phe phr phs pop)]) hP hD [0] [1, 2, 3, 4, 5, 6, 7] hCc rfl (by decide) (by decide) hk1 hFc hP1 hD1
    generalize H1 = H at hP hS hcell ⊢
    obtain ⟨hP, hD⟩ := zre [(eO3a lx lby lfi lco lxe lxa lxt lxp lxn lxl), (eA0 lby cBy 900 fBy), (eA0 lco cCo 23 fCo), (eO0a bk bto bnm bla bsk bru bbo bdi bda bdk bdt bdp bno), (eA0 bto cTo 5 fTo), (eA4 bnm cNm 5 (fun k => some (Nm k))), (eA0 (Nm 4) cNr 12 (fNm 4)), (eO7a pa lx bk 1 lxp psk phe phr phs pop)] hP hD rfl
    obtain ⟨hP9, hD9⟩ := zsub2 (ws' := [(eO7a pa lx bk 1 lxp psk phe phr phs pop), (eO3a lx lby lfi lco lxe lxa lxt lxp lxn lxl), (eA0 lby cBy 900 fBy), (eA0 lco cCo 23 fCo), (eO0a bk bto bnm bla bsk bru bbo bdi bda bdk bdt bdp bno), (eA0 bto cTo 5 fTo), (eA4 bnm cNm 5 (fun k => some (Nm k))), (eA0 (Nm 4) cNr 12 (fNm 4))]) hP hD [7, 0, 1, 2, 3, 4, 5, 6] (by decide +kernel) rfl
    have hK9 := hK.sub (tys' := []) [] rfl
    exact vx_widen (k := 1) (n := 6) (Nat.le_of_ble_eq_true rfl) (Nat.le_of_ble_eq_true rfl) (vx_out (fun x h9 => (hex x h9).elim) hlocks hcell hcv hcl (fun t ht hal => ⟨(1, lxp, lxa, lxt, lxp, lxn, lxl), ((fun e9 => ⟨by rw [e9], by rw [e9]⟩ : fp_known4 pfa pfp lxe lxa lxt lxp lxn lxl fBy fCo fTo fNm = ((1 : Int32), (0 : Int32), (1 : Int32), lxp, lxa, lxt, lxp, lxn, lxl) → _) ((by rw [fp_known4]; (try rw [if_neg c_1]); try rfl))), ⟨rfl, by rw [ht]; exact hP9, va_K.moved hal hK9, hD9⟩, hS.F ht⟩) hS.2.2 (Nat.le_of_ble_eq_true rfl) (Nat.le_of_ble_eq_true rfl))
