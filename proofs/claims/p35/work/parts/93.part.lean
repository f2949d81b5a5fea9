def fp_readSign (pfa : Int32) (pfp : Int32) (phs : Int32) (lxe : Int32) (lxa : Int32) (lxt : Int32) (lxp : Int32) (lxn : Int32) (lxl : Int32) (fBy : Nat → Int32) (fCo : Nat → Int32) (fHe : Nat → Int32) (fHr : Nat → Int32) (rsz : Int32) (rkn : Int32) (fRc : Nat → Int32) : Int32 × (Int32) × (Int32) × (Int32) × (Int32) × (Int32) × (Int32) × (Int32) × (Int32) × (Nat → Int32) × (Nat → Int32) × (Int32) × (Int32) × (Nat → Int32) := (xL (fr_rankOf lxt) (fun r_1 => (if r_1 = 4 then (xL ((fp_release phs fHe fHr rsz fRc (r_1 + 1))) (fun u_39 => (xL ((fp_heldRank u_39.1 fHr)) (fun r_47 => (if r_47 = 4 then ((1 : Int32), (1 : Int32), lxp, u_39.1, lxa, lxt, lxp, lxn, lxl, fHe, fHr, u_39.2.1, rkn, u_39.2.2) else (xL ((fp_countKnot pfa pfp lxp rkn)) (fun X_52 => (if X_52.1 = 1 then ((1 : Int32), X_52.2.1, X_52.2.2.1, u_39.1, lxa, lxt, lxp, lxn, lxl, fHe, fHr, u_39.2.1, X_52.2.2.2, u_39.2.2) else (xL ((fp_hold u_39.1 fHe fHr lxt)) (fun u_63 => (xL ((fe_advance lxe lxa lxn lxl fBy fCo)) (fun u_70 => ((0 : Int32), X_52.2.1, X_52.2.2.1, u_63.1, u_70.1, u_70.2.1, u_70.2.2.1, u_70.2.2.2.1, u_70.2.2.2.2, u_63.2.1, u_63.2.2, u_39.2.1, X_52.2.2.2, u_39.2.2))))))))))))) else (xL ((fp_release phs fHe fHr rsz fRc r_1)) (fun u_4 => (xL ((fp_countKnot pfa pfp lxp rkn)) (fun X_13 => (if X_13.1 = 1 then ((1 : Int32), X_13.2.1, X_13.2.2.1, u_4.1, lxa, lxt, lxp, lxn, lxl, fHe, fHr, u_4.2.1, X_13.2.2.2, u_4.2.2) else (xL ((fp_hold u_4.1 fHe fHr lxt)) (fun u_24 => (xL ((fe_advance lxe lxa lxn lxl fBy fCo)) (fun u_31 => ((0 : Int32), X_13.2.1, X_13.2.2.1, u_24.1, u_31.1, u_31.2.1, u_31.2.2.1, u_31.2.2.2.1, u_31.2.2.2.2, u_24.2.1, u_24.2.2, u_4.2.1, X_13.2.2.2, u_4.2.2)))))))))))))
theorem gp_readSign_s0 {y0 : Int32} (h0 : ¬ (y0 = 4)) (h1 : ¬ (y0 < 1)) : ¬ (y0 < 1) := h1
theorem gp_readSign_s1  : (0 : Int32) = 0 := (by decide)
theorem gp_readSign_s2 {y0 : Int32} (h0 : ¬ (y0 < 0)) (h1 : y0 ≤ 72) : ¬ (y0 < 0) := h0
theorem gp_readSign_s3 {y0 : Int32} (h0 : ¬ (y0 < 0)) (h1 : y0 ≤ 72) : y0 ≤ 72 := h1
theorem gp_readSign_s4 {y0 : Int32} (h0 : ¬ (y0 < 0)) : ¬ (y0 < 0) := h0
theorem gp_readSign_s5 {y0 : Int32} (h0 : ¬ (y0 < 0)) (h1 : y0 ≤ 72) : ¬ (y0 < 0) := h0
theorem gp_readSign_s6 {y0 : Int32} (h0 : ¬ (y0 < 0)) (h1 : y0 ≤ 72) : y0 ≤ 72 := h1
theorem gp_readSign_s7 {y0 : Int32} (h0 : ¬ (y0 < 0)) : ¬ (y0 < 0) := h0
theorem gp_readSign_s8 {y0 : Int32} (h0 : y0 = 4) (h1 : ¬ (y0 < 1)) : ¬ ((y0 + 1) < 1) := by lia
theorem gp_readSign_s9  : (0 : Int32) = 0 := (by decide)
theorem gp_readSign_s10 {y0 : Int32} (h0 : ¬ (y0 < 0)) (h1 : y0 ≤ 72) : ¬ (y0 < 0) := h0
theorem gp_readSign_s11 {y0 : Int32} (h0 : ¬ (y0 < 0)) (h1 : y0 ≤ 72) : y0 ≤ 72 := h1
theorem gp_readSign_s12 {y0 : Int32} (h0 : ¬ (y0 < 0)) : ¬ (y0 < 0) := h0
theorem gp_readSign_s13 {y0 : Int32} (h0 : ¬ (y0 < 0)) (h1 : y0 ≤ 72) : ¬ (y0 < 0) := h0
theorem gp_readSign_s14 {y0 : Int32} (h0 : ¬ (y0 < 0)) (h1 : y0 ≤ 72) : y0 ≤ 72 := h1
theorem gp_readSign_s15 {y0 : Int32} (h0 : ¬ (y0 < 0)) : ¬ (y0 < 0) := h0
theorem gp_readSign_s16  : ¬ ((1 : Int32) = 0) := (by decide)
theorem dX7_readSign_0 : decode cX7_readSign 0 = .ok (.aload_n 0, 1) := zk_42 (by decide +kernel)
theorem dX7_readSign_1 : decode cX7_readSign 1 = .ok (.getfield 12, 3) := zk_180 (by decide +kernel)
theorem dX7_readSign_4 : decode cX7_readSign 4 = .ok (.getfield 50, 3) := zk_180 (by decide +kernel)
theorem dX7_readSign_7 : decode cX7_readSign 7 = .ok (.invokestatic 249, 3) := zk_184 (by decide +kernel)
theorem dX7_readSign_10 : decode cX7_readSign 10 = .ok (.istore_n 1, 1) := zk_60 (by decide +kernel)
theorem dX7_readSign_11 : decode cX7_readSign 11 = .ok (.aload_n 0, 1) := zk_42 (by decide +kernel)
theorem dX7_readSign_12 : decode cX7_readSign 12 = .ok (.iload_n 1, 1) := zk_27 (by decide +kernel)
theorem dX7_readSign_13 : decode cX7_readSign 13 = .ok (.iconst 4, 1) := zk_7 (by decide +kernel)
theorem dX7_readSign_14 : decode cX7_readSign 14 = .ok (.if_icmp .ne 9, 3) := zk_160 (by decide +kernel)
theorem dX7_readSign_23 : decode cX7_readSign 23 = .ok (.iload_n 1, 1) := zk_27 (by decide +kernel)
theorem dX7_readSign_24 : decode cX7_readSign 24 = .ok (.invokevirtual 255, 3) := zk_182 (by decide +kernel)
theorem dX7_readSign_27 : decode cX7_readSign 27 = .ok (.aload_n 0, 1) := zk_42 (by decide +kernel)
theorem dX7_readSign_28 : decode cX7_readSign 28 = .ok (.iload_n 1, 1) := zk_27 (by decide +kernel)
theorem dX7_readSign_29 : decode cX7_readSign 29 = .ok (.iconst 4, 1) := zk_7 (by decide +kernel)
theorem dX7_readSign_30 : decode cX7_readSign 30 = .ok (.if_icmp .ne 15, 3) := zk_160 (by decide +kernel)
theorem dX7_readSign_45 : decode cX7_readSign 45 = .ok (.iconst 0, 1) := zk_3 (by decide +kernel)
theorem dX7_readSign_46 : decode cX7_readSign 46 = .ok (.iconst 1, 1) := zk_4 (by decide +kernel)
theorem dX7_readSign_47 : decode cX7_readSign 47 = .ok (.aload_n 0, 1) := zk_42 (by decide +kernel)
theorem dX7_readSign_48 : decode cX7_readSign 48 = .ok (.getfield 12, 3) := zk_180 (by decide +kernel)
theorem dX7_readSign_51 : decode cX7_readSign 51 = .ok (.getfield 87, 3) := zk_180 (by decide +kernel)
theorem dX7_readSign_54 : decode cX7_readSign 54 = .ok (.invokevirtual 90, 3) := zk_182 (by decide +kernel)
theorem dX7_readSign_57 : decode cX7_readSign 57 = .ok (.aload_n 0, 1) := zk_42 (by decide +kernel)
theorem dX7_readSign_58 : decode cX7_readSign 58 = .ok (.invokevirtual 276, 3) := zk_182 (by decide +kernel)
theorem dX7_readSign_61 : decode cX7_readSign 61 = .ok (.aload_n 0, 1) := zk_42 (by decide +kernel)
theorem dX7_readSign_62 : decode cX7_readSign 62 = .ok (.aload_n 0, 1) := zk_42 (by decide +kernel)
theorem dX7_readSign_63 : decode cX7_readSign 63 = .ok (.getfield 12, 3) := zk_180 (by decide +kernel)
theorem dX7_readSign_66 : decode cX7_readSign 66 = .ok (.getfield 50, 3) := zk_180 (by decide +kernel)
theorem dX7_readSign_69 : decode cX7_readSign 69 = .ok (.invokevirtual 273, 3) := zk_182 (by decide +kernel)
theorem dX7_readSign_72 : decode cX7_readSign 72 = .ok (.aload_n 0, 1) := zk_42 (by decide +kernel)
theorem dX7_readSign_73 : decode cX7_readSign 73 = .ok (.getfield 12, 3) := zk_180 (by decide +kernel)
theorem dX7_readSign_76 : decode cX7_readSign 76 = .ok (.invokevirtual 123, 3) := zk_182 (by decide +kernel)
theorem dX7_readSign_79 : decode cX7_readSign 79 = .ok (.return_, 1) := zk_177 (by decide +kernel)
theorem dX7_readSign_17 : decode cX7_readSign 17 = .ok (.iload_n 1, 1) := zk_27 (by decide +kernel)
theorem dX7_readSign_18 : decode cX7_readSign 18 = .ok (.iconst 1, 1) := zk_4 (by decide +kernel)
theorem dX7_readSign_19 : decode cX7_readSign 19 = .ok (.iadd, 1) := zk_96 (by decide +kernel)
theorem dX7_readSign_20 : decode cX7_readSign 20 = .ok (.goto 4, 3) := zk_167 (by decide +kernel)
theorem dX7_readSign_33 : decode cX7_readSign 33 = .ok (.aload_n 0, 1) := zk_42 (by decide +kernel)
theorem dX7_readSign_34 : decode cX7_readSign 34 = .ok (.invokevirtual 265, 3) := zk_182 (by decide +kernel)
theorem dX7_readSign_37 : decode cX7_readSign 37 = .ok (.iconst 4, 1) := zk_7 (by decide +kernel)
theorem dX7_readSign_38 : decode cX7_readSign 38 = .ok (.if_icmp .ne 7, 3) := zk_160 (by decide +kernel)
theorem dX7_readSign_41 : decode cX7_readSign 41 = .ok (.iconst 1, 1) := zk_4 (by decide +kernel)
theorem dX7_readSign_42 : decode cX7_readSign 42 = .ok (.goto 4, 3) := zk_167 (by decide +kernel)
set_option maxHeartbeats 4000000 in
set_option maxRecDepth 100000 in
theorem gp_readSign (l : Launch) (hst : l.stackTraces = false) (dC : Nat → ClassId) (dI : Nat → Nat → Nat) (pa : Nat) (lx : Nat) (bk : Nat) (pfa : Int32) (pfp : Int32) (psk : Int32) (phe : Nat) (phr : Nat) (phs : Int32) (pop : Int32) (lby : Nat) (lfi : Int32) (lco : Nat) (lxe : Int32) (lxa : Int32) (lxt : Int32) (lxp : Int32) (lxn : Int32) (lxl : Int32) (cBy : ClassId) (fBy : Nat → Int32) (cCo : ClassId) (fCo : Nat → Int32) (cHe : ClassId) (fHe : Nat → Int32) (cHr : ClassId) (fHr : Nat → Int32) (bto : Nat) (bnm : Nat) (bla : Nat) (bsk : Nat) (bru : Nat) (bbo : Nat) (bdi : Nat) (bda : Nat) (bdk : Nat) (bdt : Nat) (bdp : Nat) (bno : Nat) (rco : Nat) (rsz : Int32) (ren : Nat) (rst : Nat) (rkn : Int32) (cRc : ClassId) (fRc : Nat → Int32) (sL : Nat → Nat) (sz : Nat) (h0_lxa : ¬ lxa < 0) (h9_lxe : lxe ≤ 900) (hrk : ¬ (fr_rankOf lxt) < 1) (h0_phs : ¬ phs < 0) (h7_phs : phs ≤ 72) (h0_rsz : ¬ rsz < 0) : vx_Met l yX7_readSign (Cond.code yX7_readSign cX7_readSign 2 none :: wsL_law) ({ frames := 8, cells := 1, slots := 6, locals := 125 }) (va_Pc [.ref pa] (fun U => U.heap.size = sz ∧ va_P (dC, dI) vwCl [(eO7a pa lx bk pfa pfp psk phe phr phs pop), (eO3a lx lby lfi lco lxe lxa lxt lxp lxn lxl), (eA0 lby cBy 900 fBy), (eA0 lco cCo 23 fCo), (eA0 phe cHe 72 fHe), (eA0 phr cHr 72 fHr), (eO0a bk bto bnm bla bsk bru bbo bdi bda bdk bdt bdp bno), (eO8a bru rco rsz ren rst rkn), (eA0 rco cRc 64 fRc)] U.heap ∧ va_K (dC, dI) vwCl [(cBy, .byte), (cCo, .int), (cHe, .int), (cHr, .int), (cRc, .int)] U ∧ va_D (fun _ => True) [(eO7a pa lx bk pfa pfp psk phe phr phs pop), (eO3a lx lby lfi lco lxe lxa lxt lxp lxn lxl), (eA0 lby cBy 900 fBy), (eA0 lco cCo 23 fCo), (eA0 phe cHe 72 fHe), (eA0 phr cHr 72 fHr), (eO0a bk bto bnm bla bsk bru bbo bdi bda bdk bdt bdp bno), (eO8a bru rco rsz ren rst rkn), (eA0 rco cRc 64 fRc)] ∧ xl sL (va_A [(eO7a pa lx bk pfa pfp psk phe phr phs pop), (eO3a lx lby lfi lco lxe lxa lxt lxp lxn lxl), (eA0 lby cBy 900 fBy), (eA0 lco cCo 23 fCo), (eA0 phe cHe 72 fHe), (eA0 phr cHr 72 fHr), (eO0a bk bto bnm bla bsk bru bbo bdi bda bdk bdt bdp bno), (eO8a bru rco rsz ren rst rkn), (eA0 rco cRc 64 fRc)] sz) U U.heap)) (va_Qv (fun (u : (Int32) × (Int32) × (Int32) × (Int32) × (Int32) × (Int32) × (Int32) × (Int32) × (Nat → Int32) × (Nat → Int32) × (Int32) × (Int32) × (Nat → Int32)) => ((fp_readSign pfa pfp phs lxe lxa lxt lxp lxn lxl fBy fCo fHe fHr rsz rkn fRc).1 = 0 ∧ u = (fp_readSign pfa pfp phs lxe lxa lxt lxp lxn lxl fBy fCo fHe fHr rsz rkn fRc).2) ∧ (¬ u.2.2.2.1 < 0) ∧ (¬ u.2.2.1 < 0) ∧ (u.2.2.1 ≤ 72) ∧ (¬ u.2.2.2.2.2.2.2.2.2.2.1 < 0)) (fun (u : (Int32) × (Int32) × (Int32) × (Int32) × (Int32) × (Int32) × (Int32) × (Int32) × (Nat → Int32) × (Nat → Int32) × (Int32) × (Int32) × (Nat → Int32)) t => (va_P (dC, dI) vwCl [(eO7a pa lx bk u.1 u.2.1 psk phe phr u.2.2.1 pop), (eO3a lx lby lfi lco lxe u.2.2.2.1 u.2.2.2.2.1 u.2.2.2.2.2.1 u.2.2.2.2.2.2.1 u.2.2.2.2.2.2.2.1), (eA0 lby cBy 900 fBy), (eA0 lco cCo 23 fCo), (eA0 phe cHe 72 u.2.2.2.2.2.2.2.2.1), (eA0 phr cHr 72 u.2.2.2.2.2.2.2.2.2.1), (eO0a bk bto bnm bla bsk bru bbo bdi bda bdk bdt bdp bno), (eO8a bru rco u.2.2.2.2.2.2.2.2.2.2.1 ren rst u.2.2.2.2.2.2.2.2.2.2.2.1), (eA0 rco cRc 64 u.2.2.2.2.2.2.2.2.2.2.2.2)] t.heap ∧ va_K (dC, dI) vwCl [] t ∧ va_D (va_A [(eO7a pa lx bk pfa pfp psk phe phr phs pop), (eO3a lx lby lfi lco lxe lxa lxt lxp lxn lxl), (eA0 lby cBy 900 fBy), (eA0 lco cCo 23 fCo), (eA0 phe cHe 72 fHe), (eA0 phr cHr 72 fHr), (eO0a bk bto bnm bla bsk bru bbo bdi bda bdk bdt bdp bno), (eO8a bru rco rsz ren rst rkn), (eA0 rco cRc 64 fRc)] sz) [(eO7a pa lx bk u.1 u.2.1 psk phe phr u.2.2.1 pop), (eO3a lx lby lfi lco lxe u.2.2.2.1 u.2.2.2.2.1 u.2.2.2.2.2.1 u.2.2.2.2.2.2.1 u.2.2.2.2.2.2.2.1), (eA0 lby cBy 900 fBy), (eA0 lco cCo 23 fCo), (eA0 phe cHe 72 u.2.2.2.2.2.2.2.2.1), (eA0 phr cHr 72 u.2.2.2.2.2.2.2.2.2.1), (eO0a bk bto bnm bla bsk bru bbo bdi bda bdk bdt bdp bno), (eO8a bru rco u.2.2.2.2.2.2.2.2.2.2.1 ren rst u.2.2.2.2.2.2.2.2.2.2.2.1), (eA0 rco cRc 64 u.2.2.2.2.2.2.2.2.2.2.2.2)]) ∧ t.heap.size = sz) (va_A [(eO7a pa lx bk pfa pfp psk phe phr phs pop), (eO3a lx lby lfi lco lxe lxa lxt lxp lxn lxl), (eA0 lby cBy 900 fBy), (eA0 lco cCo 23 fCo), (eA0 phe cHe 72 fHe), (eA0 phr cHr 72 fHr), (eO0a bk bto bnm bla bsk bru bbo bdi bda bdk bdt bdp bno), (eO8a bru rco rsz ren rst rkn), (eA0 rco cRc 64 fRc)] sz)) (vx_X (fun (u : (Int32) × (Int32) × (Int32) × (Int32) × (Int32) × (Int32) × (Int32) × (Int32) × (Nat → Int32) × (Nat → Int32) × (Int32) × (Int32) × (Nat → Int32)) => (fp_readSign pfa pfp phs lxe lxa lxt lxp lxn lxl fBy fCo fHe fHr rsz rkn fRc).1 = 1 ∧ u = (fp_readSign pfa pfp phs lxe lxa lxt lxp lxn lxl fBy fCo fHe fHr rsz rkn fRc).2) (fun (E : String) (u : (Int32) × (Int32) × (Int32) × (Int32) × (Int32) × (Int32) × (Int32) × (Int32) × (Nat → Int32) × (Nat → Int32) × (Int32) × (Int32) × (Nat → Int32)) (t : State) => E = "java/lang/IllegalStateException" ∧ va_P (dC, dI) vwCl [(eO7a pa lx bk u.1 u.2.1 psk phe phr u.2.2.1 pop), (eO3a lx lby lfi lco lxe u.2.2.2.1 u.2.2.2.2.1 u.2.2.2.2.2.1 u.2.2.2.2.2.2.1 u.2.2.2.2.2.2.2.1), (eA0 lby cBy 900 fBy), (eA0 lco cCo 23 fCo), (eA0 phe cHe 72 u.2.2.2.2.2.2.2.2.1), (eA0 phr cHr 72 u.2.2.2.2.2.2.2.2.2.1), (eO0a bk bto bnm bla bsk bru bbo bdi bda bdk bdt bdp bno), (eO8a bru rco u.2.2.2.2.2.2.2.2.2.2.1 ren rst u.2.2.2.2.2.2.2.2.2.2.2.1), (eA0 rco cRc 64 u.2.2.2.2.2.2.2.2.2.2.2.2)] t.heap ∧ va_K (dC, dI) vwCl [] t ∧ va_D (va_A [(eO7a pa lx bk pfa pfp psk phe phr phs pop), (eO3a lx lby lfi lco lxe lxa lxt lxp lxn lxl), (eA0 lby cBy 900 fBy), (eA0 lco cCo 23 fCo), (eA0 phe cHe 72 fHe), (eA0 phr cHr 72 fHr), (eO0a bk bto bnm bla bsk bru bbo bdi bda bdk bdt bdp bno), (eO8a bru rco rsz ren rst rkn), (eA0 rco cRc 64 fRc)] sz) [(eO7a pa lx bk u.1 u.2.1 psk phe phr u.2.2.1 pop), (eO3a lx lby lfi lco lxe u.2.2.2.1 u.2.2.2.2.1 u.2.2.2.2.2.1 u.2.2.2.2.2.2.1 u.2.2.2.2.2.2.2.1), (eA0 lby cBy 900 fBy), (eA0 lco cCo 23 fCo), (eA0 phe cHe 72 u.2.2.2.2.2.2.2.2.1), (eA0 phr cHr 72 u.2.2.2.2.2.2.2.2.2.1), (eO0a bk bto bnm bla bsk bru bbo bdi bda bdk bdt bdp bno), (eO8a bru rco u.2.2.2.2.2.2.2.2.2.2.1 ren rst u.2.2.2.2.2.2.2.2.2.2.2.1), (eA0 rco cRc 64 u.2.2.2.2.2.2.2.2.2.2.2.2)]) (va_A [(eO7a pa lx bk pfa pfp psk phe phr phs pop), (eO3a lx lby lfi lco lxe lxa lxt lxp lxn lxl), (eA0 lby cBy 900 fBy), (eA0 lco cCo 23 fCo), (eA0 phe cHe 72 fHe), (eA0 phr cHr 72 fHr), (eO0a bk bto bnm bla bsk bru bbo bdi bda bdk bdt bdp bno), (eO8a bru rco rsz ren rst rkn), (eA0 rco cRc 64 fRc)] sz)) 1 6 (va_A [(eO7a pa lx bk pfa pfp psk phe phr phs pop), (eO3a lx lby lfi lco lxe lxa lxt lxp lxn lxl), (eA0 lby cBy 900 fBy), (eA0 lco cCo 23 fCo), (eA0 phe cHe 72 fHe), (eA0 phr cHr 72 fHr), (eO0a bk bto bnm bla bsk bru bbo bdi bda bdk bdt bdp bno), (eO8a bru rco rsz ren rst rkn), (eA0 rco cRc 64 fRc)] sz) := by
  refine vx_ofW (cc := cX7_readSign) (maxL := 2) (ret := none) (by decide) rfl ?_
  intro p e s m args below meth c s₁ B hml hex hv
  obtain ⟨rfl, hsz, hP, hK, hD0, hXL⟩ := hv
  have hx := B.exec
  have hb := B.bytes
  have hr := B.returns
  have hts := atoms_spec (ws := Cond.code yX7_readSign cX7_readSign 2 none :: wsL_law) B.pre
  have htw : ∀ w ∈ wsL_law, w.before _ s = true := fun w h => hts w (List.mem_cons_of_mem _ h)
  have hown : s.vm.findClass RX7 = some m.cls := findClass_of_methodNamed B.named
  have hlocks := B.notSynchronized
  subst hsz
  have hD := hD0.self (sz := s.heap.size)
  generalize hAe : va_A [(eO7a pa lx bk pfa pfp psk phe phr phs pop), (eO3a lx lby lfi lco lxe lxa lxt lxp lxn lxl), (eA0 lby cBy 900 fBy), (eA0 lco cCo 23 fCo), (eA0 phe cHe 72 fHe), (eA0 phr cHr 72 fHr), (eO0a bk bto bnm bla bsk bru bbo bdi bda bdk bdt bdp bno), (eO8a bru rco rsz ren rst rkn), (eA0 rco cRc 64 fRc)] s.heap.size = A at hD hXL ⊢
  have hA : ∀ q : Nat, s.heap.size ≤ q → A q := fun q h => by rw [← hAe]; exact Or.inr h
  obtain ⟨H, rH⟩ : ∃ z : Heap, z = s.heap := ⟨_, rfl⟩
  have hS : va_S A s.heap H [] := by rw [rH]; exact va_S.rf
  have hP : va_P (dC, dI) vwCl [(eO7a pa lx bk pfa pfp psk phe phr phs pop), (eO3a lx lby lfi lco lxe lxa lxt lxp lxn lxl), (eA0 lby cBy 900 fBy), (eA0 lco cCo 23 fCo), (eA0 phe cHe 72 fHe), (eA0 phr cHr 72 fHr), (eO0a bk bto bnm bla bsk bru bbo bdi bda bdk bdt bdp bno), (eO8a bru rco rsz ren rst rkn), (eA0 rco cRc 64 fRc)] H := by rw [rH]; exact hP
  rw [← rH]
  have hl := lv_entry ([.ref pa]) (n := 2) (Nat.le_of_ble_eq_true rfl)
  rw [lg_entry_eq]
  generalize (lg_sl ([.ref pa]) ++ List.replicate (2 - (lg_sl ([.ref pa])).length) Slot.unset).toArray = ls at hl ⊢
  have hl : lv_has ls 2 [(0, .ref pa)] := hl
  refine lv_aload_n hx hb dX7_readSign_0 rfl (lv_at hl 0 rfl) ?_
  refine va_get (D := (dC, dI)) (ci := 7) (v := .ref lx) (C := RX7) (T := TX7) (N := 9) hx hb htw inlX7 hown hK hP 0 rfl rfl 0 (by decide) (htw _ (ck_3 _ (List.mem_of_getElem? (i := 5) rfl))) (fun _ h9 => h9) rfl dX7_readSign_1 ?_
  refine va_get (D := (dC, dI)) (ci := 3) (v := .int lxt) (C := RX3) (T := TX3) (N := 9) hx hb htw inlX3 hown hK hP 1 rfl rfl 5 (by decide) (htw _ (ck_13 _ (List.mem_of_getElem? (i := 9) rfl))) (fun _ h9 => h9) rfl dX7_readSign_4 ?_
  have hPc := hP.sub (ws' := []) [] rfl
  have hKc := hK.sub (tys' := []) [] rfl
  refine vp_callSi (W.runS (As := [.int lxt]) (rest := []) ⟨hx, hb, hml, hown, htw⟩ (gr_rankOf l dC dI lxt) (va_cwS 1 htw (xg_S (ck_19 _ (List.mem_of_getElem? (i := 3) rfl)) (ck_19 _ (List.mem_of_getElem? (i := 4) rfl)) (ck_6 _ (List.mem_of_getElem? (i := 8) rfl)) (ck_19 _ (List.mem_of_getElem? (i := 5) rfl))) rfl rfl rfl (by exact ⟨hdc_1.1, hdc_1.2, hdd_2⟩) ⟨Nat.le_of_ble_eq_true rfl, Nat.le_of_ble_eq_true rfl⟩) ⟨fun a U g mk q => by obtain ⟨q0, qP, qK⟩ := q; exact ⟨q0, qP, va_K.moved (u := U) (U := U.calling g mk a) (Vm.Alike.refl U.vm) qK⟩, fun U hU hW => ⟨rfl, by rw [hU]; exact hPc, va_K.moved hW.alike hKc⟩⟩ rfl rfl hl.1 rfl (lv_room (Nat.le_of_ble_eq_true rfl)) dX7_readSign_7 ⟨Nat.le_of_ble_eq_true rfl, Nat.le_of_ble_eq_true rfl⟩) (fun r_1 hw => ?_)
  try dsimp only at hw
  have hq_r_1 : r_1 = fr_rankOf lxt := hw
  refine lv_istore_n (lv' := [(1, .int r_1), (0, .ref pa)]) hx hb dX7_readSign_10 rfl hl (by decide) rfl (fun ls hl => ?_)
  refine lv_aload_n hx hb dX7_readSign_11 rfl (lv_at hl 1 rfl) ?_
  refine lv_iload_n hx hb dX7_readSign_12 rfl (lv_at hl 0 rfl) ?_
  refine lv_iconst (v := 4) hx hb dX7_readSign_13 (by decide) ?_
  refine lv_icmp_ne (tgt := 23) hx hb dX7_readSign_14 (by decide) (fun c_2 => ?_) (fun c_2 => ?_)
  · refine lv_iload_n hx hb dX7_readSign_23 rfl (lv_at hl 0 rfl) ?_
    obtain ⟨hPc, hDc, hFc, hCc⟩ := zsub3 (ws' := [(eO7a pa lx bk pfa pfp psk phe phr phs pop), (eA0 phe cHe 72 fHe), (eA0 phr cHr 72 fHr), (eO0a bk bto bnm bla bsk bru bbo bdi bda bdk bdt bdp bno), (eO8a bru rco rsz ren rst rkn), (eA0 rco cRc 64 fRc)]) hP hD hS hA [0, 4, 5, 6, 7, 8] (by decide) rfl
    have hKc := hK.sub (tys' := [(cHe, .int), (cHr, .int), (cRc, .int)]) [2, 3, 4] rfl
    refine va_callv (va_runV (As := [.int r_1]) (rest := []) ⟨hx, hb, hml, hown, htw⟩ (gp_release l dC dI pa lx bk pfa pfp psk phe phr phs pop cHe fHe cHr fHr bto bnm bla bsk bru bbo bdi bda bdk bdt bdp bno rco rsz ren rst rkn cRc fRc r_1 H.size (gp_readSign_s0 (y0 := r_1) c_2 (by rw [hq_r_1]; exact hrk)) h0_phs h7_phs h0_rsz) (cwV 1 htw (xg_V (ck_19 _ (List.mem_of_getElem? (i := 22) rfl)) (ck_19 _ (List.mem_of_getElem? (i := 23) rfl)) (ck_20 _ (List.mem_of_getElem? (i := 0) rfl)) (ck_1 _ (List.mem_of_getElem? (i := 16) rfl)) (ck_20 _ (List.mem_of_getElem? (i := 1) rfl))) rfl rfl rfl (by exact ⟨rfl, hdc_15.1, hdc_15.2, hdd_9⟩) ⟨Nat.le_of_ble_eq_true rfl, Nat.le_of_ble_eq_true rfl⟩) ⟨fun a U g mk q => by obtain ⟨q0, q1, qP, qK, qD⟩ := q; exact ⟨q0, q1, qP, va_K.moved (u := U) (U := U.calling g mk a) (Vm.Alike.refl U.vm) qK, qD⟩, va_recv hKc hPc (ci := 7) (q0 := 0) rfl rfl, fun U hU hW => ⟨rfl, by rw [hU], by rw [hU]; exact hPc, va_K.moved hW.alike hKc, hDc.weaken (fun _ _ _ _ => trivial)⟩⟩ rfl rfl hl.1 rfl (lv_room (Nat.le_of_ble_eq_true rfl)) dX7_readSign_24 ⟨Nat.le_of_ble_eq_true rfl, Nat.le_of_ble_eq_true rfl⟩) hS (fun q _ h => hFc q h) hFc (fun u_4 t H1 locs ht hvm hw hB hz1 hk1 hS => ?_)
    try dsimp only at hw
    obtain ⟨hP1, hK1, hD1⟩ := hB
    rw [ht] at hP1
    have hK1 := va_K.moved hvm.symm hK1
    have hK1 : va_K (dC, dI) vwCl [] s := hK1
    obtain ⟨hP, hD⟩ := va_join (wr := [(eO3a lx lby lfi lco lxe lxa lxt lxp lxn lxl), (eA0 lby cBy 900 fBy), (eA0 lco cCo 23 fCo)]) (w1 := [(eO7a pa lx bk pfa pfp psk phe phr u_4.1 pop), (eA0 phe cHe 72 fHe), (eA0 phr cHr 72 fHr), (eO0a bk bto bnm bla bsk bru bbo bdi bda bdk bdt bdp bno), (eO8a bru rco u_4.2.1 ren rst rkn), (eA0 rco cRc 64 u_4.2.2)]) hP hD [0, 4, 5, 6, 7, 8] [1, 2, 3] hCc rfl (by decide) (by decide) hk1 hFc hP1 hD1
    generalize H1 = H at hP hS ⊢
    obtain ⟨hP, hD⟩ := zre [(eO3a lx lby lfi lco lxe lxa lxt lxp lxn lxl), (eA0 lby cBy 900 fBy), (eA0 lco cCo 23 fCo), (eO7a pa lx bk pfa pfp psk phe phr u_4.1 pop), (eA0 phe cHe 72 fHe), (eA0 phr cHr 72 fHr), (eO0a bk bto bnm bla bsk bru bbo bdi bda bdk bdt bdp bno), (eO8a bru rco u_4.2.1 ren rst rkn), (eA0 rco cRc 64 u_4.2.2)] hP hD rfl
    refine W.widen (k := 0) (n := 0) (by omega) (by omega) ?_
    obtain ⟨hw, hp_8, hp_9, hp_10⟩ := hw
    have hq_u_4 : u_4 = (fp_release phs fHe fHr rsz fRc r_1) := hw
    refine lv_aload_n hx hb dX7_readSign_27 rfl (lv_at hl 1 rfl) ?_
    refine lv_iload_n hx hb dX7_readSign_28 rfl (lv_at hl 0 rfl) ?_
    refine lv_iconst (v := 4) hx hb dX7_readSign_29 (by decide) ?_
    refine lv_icmp_ne (tgt := 45) hx hb dX7_readSign_30 (by decide) (fun c_11 => ?_) (fun c_11 => absurd c_11 (fun h9 => absurd h9 c_2))
    refine lv_iconst (v := 0) hx hb dX7_readSign_45 (by decide) ?_
    refine lv_iconst (v := 1) hx hb dX7_readSign_46 (by decide) ?_
    refine lv_aload_n hx hb dX7_readSign_47 rfl (lv_at hl 1 rfl) ?_
    refine va_get (D := (dC, dI)) (ci := 7) (v := .ref lx) (C := RX7) (T := TX7) (N := 9) hx hb htw inlX7 hown hK hP 3 rfl rfl 0 (by decide) (htw _ (ck_3 _ (List.mem_of_getElem? (i := 5) rfl))) (fun _ h9 => h9) rfl dX7_readSign_48 ?_
    refine va_get (D := (dC, dI)) (ci := 3) (v := .int lxp) (C := RX3) (T := TX3) (N := 9) hx hb htw inlX3 hown hK hP 0 rfl rfl 6 (by decide) (htw _ (ck_15 _ (List.mem_of_getElem? (i := 13) rfl))) (fun _ h9 => h9) rfl dX7_readSign_51 ?_
    have hPc := hP.sub (ws' := []) [] rfl
    have hKc := hK.sub (tys' := []) [] rfl
    refine va_csv (W.runV (As := [.int 0, .int 1, .int lxp]) (rest := []) ⟨hx, hb, hml, hown, htw⟩ (gp_ref0 l dC dI (0 : Int32) (1 : Int32) lxp pa (gp_readSign_s1 )) (cwV 3 htw (xg_V (ck_16 _ (List.mem_of_getElem? (i := 6) rfl)) (ck_16 _ (List.mem_of_getElem? (i := 7) rfl)) (ck_16 _ (List.mem_of_getElem? (i := 8) rfl)) (ck_1 _ (List.mem_of_getElem? (i := 16) rfl)) (ck_16 _ (List.mem_of_getElem? (i := 9) rfl))) rfl rfl rfl (by exact ⟨rfl, hdc_15.1, hdc_15.2, hdd_48⟩) ⟨Nat.le_of_ble_eq_true rfl, Nat.le_of_ble_eq_true rfl⟩) ⟨fun a U g mk q => by obtain ⟨q0, qP, qK⟩ := q; exact ⟨q0, qP, va_K.moved (u := U) (U := U.calling g mk a) (Vm.Alike.refl U.vm) qK⟩, va_recv hK hP (ci := 7) (q0 := 3) rfl rfl, fun U hU hW => ⟨rfl, by rw [hU]; exact hPc, va_K.moved hW.alike hKc⟩⟩ rfl rfl hl.1 rfl (lv_room (Nat.le_of_ble_eq_true rfl)) dX7_readSign_54 ⟨Nat.le_of_ble_eq_true rfl, Nat.le_of_ble_eq_true rfl⟩) (fun hw => ?_)
    try dsimp only at hw
    refine lv_aload_n hx hb dX7_readSign_57 rfl (lv_at hl 1 rfl) ?_
    refine xs_size (fun hHz => ?_)
    obtain ⟨hPc, hDc, hFc, hCc⟩ := zsub3 (ws' := [(eO7a pa lx bk pfa pfp psk phe phr u_4.1 pop), (eO3a lx lby lfi lco lxe lxa lxt lxp lxn lxl), (eO0a bk bto bnm bla bsk bru bbo bdi bda bdk bdt bdp bno), (eO8a bru rco u_4.2.1 ren rst rkn)]) hP hD hS hA [3, 0, 6, 7] (by decide) rfl
    have hKc := hK.sub (tys' := []) [] rfl
    obtain ⟨X_13, hX_13⟩ : ∃ X9 : Int32 × (Int32) × (Int32) × (Int32), X9 = (fp_countKnot pfa pfp lxp rkn) := ⟨_, rfl⟩
    refine vx_callv (vx_runV (As := []) (rest := []) ⟨hx, hb, hml, hown, htw⟩ (gp_countKnot l hst dC dI pa lx bk pfa pfp psk phe phr u_4.1 pop lby lfi lco lxe lxa lxt lxp lxn lxl bto bnm bla bsk bru bbo bdi bda bdk bdt bdp bno rco u_4.2.1 ren rst rkn sL H.size) (cwV 0 htw (xg_V (ck_19 _ (List.mem_of_getElem? (i := 6) rfl)) (ck_19 _ (List.mem_of_getElem? (i := 7) rfl)) (ck_19 _ (List.mem_of_getElem? (i := 8) rfl)) (ck_1 _ (List.mem_of_getElem? (i := 16) rfl)) (ck_19 _ (List.mem_of_getElem? (i := 9) rfl))) rfl rfl rfl (by exact ⟨rfl, hdc_15.1, hdc_15.2, hdd_13⟩) ⟨Nat.le_of_ble_eq_true rfl, Nat.le_of_ble_eq_true rfl⟩) ⟨fun a U g mk q => by obtain ⟨q0, q1, qP, qK, qD, qx0⟩ := q; exact ⟨q0, q1, qP, va_K.moved (u := U) (U := U.calling g mk a) (Vm.Alike.refl U.vm) qK, qD, xl.calling qx0⟩, va_recv hKc hPc (ci := 7) (q0 := 0) rfl rfl, fun U hU hW => ⟨rfl, by rw [hU], by rw [hU]; exact hPc, va_K.moved hW.alike hKc, hDc.weaken (fun _ _ _ _ => trivial), by rw [hU]; exact xl.warm hW ((xl.kept hXL hS.2.1).narrow hFc)⟩⟩ rfl rfl hl.1 rfl (lv_room (Nat.le_of_ble_eq_true rfl)) dX7_readSign_58 ⟨Nat.le_of_ble_eq_true rfl, Nat.le_of_ble_eq_true rfl⟩) hS (fun q _ h => hFc q h) hFc (fun q _ h => hFc q h) (fun E ce q9 u_14 t H1 locs ht hvm hw hB hz1 hk1 hS hcell hcv hcl => ?_) (fun u_16 t H1 locs ht hvm hw hB hz1 hk1 hS => ?_)
    · obtain ⟨hE9, hB⟩ := hB
      subst hE9
      obtain ⟨hP1, hK1, hD1⟩ := hB
      rw [ht] at hP1
      have hK1 := va_K.moved hvm.symm hK1
      have hK1 : va_K (dC, dI) vwCl [] s := hK1
      obtain ⟨hP, hD⟩ := va_join (wr := [(eA0 lby cBy 900 fBy), (eA0 lco cCo 23 fCo), (eA0 phe cHe 72 fHe), (eA0 phr cHr 72 fHr), (eA0 rco cRc 64 u_4.2.2)]) (w1 := [(eO7a pa lx bk u_14.1 u_14.2.1 psk phe phr u_4.1 pop), (eO3a lx lby lfi lco lxe lxa lxt lxp lxn lxl), (eO0a bk bto bnm bla bsk bru bbo bdi bda bdk bdt bdp bno), (eO8a bru rco u_4.2.1 ren rst u_14.2.2)]) hP hD [3, 0, 6, 7] [1, 2, 4, 5, 8] hCc rfl (by decide) (by decide) hk1 hFc hP1 hD1
      generalize H1 = H at hP hS hcell ⊢
      obtain ⟨hP, hD⟩ := zre [(eA0 lby cBy 900 fBy), (eA0 lco cCo 23 fCo), (eA0 phe cHe 72 fHe), (eA0 phr cHr 72 fHr), (eA0 rco cRc 64 u_4.2.2), (eO7a pa lx bk u_14.1 u_14.2.1 psk phe phr u_4.1 pop), (eO3a lx lby lfi lco lxe lxa lxt lxp lxn lxl), (eO0a bk bto bnm bla bsk bru bbo bdi bda bdk bdt bdp bno), (eO8a bru rco u_4.2.1 ren rst u_14.2.2)] hP hD rfl
      have hTX_13 : X_13.1 = 1 := by rw [hX_13]; exact hw.1
      have hq_u_14 : u_14 = X_13.2 := by rw [hX_13]; exact hw.2
      obtain ⟨hP9, hD9⟩ := zsub2 (ws' := [(eO7a pa lx bk u_14.1 u_14.2.1 psk phe phr u_4.1 pop), (eO3a lx lby lfi lco lxe lxa lxt lxp lxn lxl), (eA0 lby cBy 900 fBy), (eA0 lco cCo 23 fCo), (eA0 phe cHe 72 fHe), (eA0 phr cHr 72 fHr), (eO0a bk bto bnm bla bsk bru bbo bdi bda bdk bdt bdp bno), (eO8a bru rco u_4.2.1 ren rst u_14.2.2), (eA0 rco cRc 64 u_4.2.2)]) hP hD [5, 6, 0, 1, 2, 3, 7, 8, 4] (by decide +kernel) rfl
      have hK9 := hK.sub (tys' := []) [] rfl
      exact vx_widen (k := 1) (n := 6) (Nat.le_of_ble_eq_true rfl) (Nat.le_of_ble_eq_true rfl) (vx_out (fun x h9 => (hex x h9).elim) hlocks hcell hcv hcl (fun t ht hal => ⟨(u_14.1, u_14.2.1, u_4.1, lxa, lxt, lxp, lxn, lxl, fHe, fHr, u_4.2.1, u_14.2.2, u_4.2.2), ((fun e9 => ⟨by rw [e9], by rw [e9]⟩ : fp_readSign pfa pfp phs lxe lxa lxt lxp lxn lxl fBy fCo fHe fHr rsz rkn fRc = ((1 : Int32), u_14.1, u_14.2.1, u_4.1, lxa, lxt, lxp, lxn, lxl, fHe, fHr, u_4.2.1, u_14.2.2, u_4.2.2) → _) ((by rw [fp_readSign]; (try rw [← hq_r_1]); (try rw [xL_eq]); (try rw [if_neg c_2]); (try rw [← hq_u_4]); (try rw [xL_eq]); (try rw [← hX_13]); (try rw [xL_eq]); (try rw [if_pos hTX_13]); (try rw [← hq_u_14]); try rfl))), ⟨rfl, by rw [ht]; exact hP9, va_K.moved hal hK9, hD9⟩, hS.F ht⟩) hS.2.2 (Nat.le_of_ble_eq_true rfl) (Nat.le_of_ble_eq_true rfl))
    · obtain ⟨hB, hsz9⟩ := hB
      obtain ⟨hP1, hK1, hD1⟩ := hB
      rw [ht] at hP1
      have hK1 := va_K.moved hvm.symm hK1
      have hK1 : va_K (dC, dI) vwCl [] s := hK1
      obtain ⟨hP, hD⟩ := va_join (wr := [(eA0 lby cBy 900 fBy), (eA0 lco cCo 23 fCo), (eA0 phe cHe 72 fHe), (eA0 phr cHr 72 fHr), (eA0 rco cRc 64 u_4.2.2)]) (w1 := [(eO7a pa lx bk u_16.1 u_16.2.1 psk phe phr u_4.1 pop), (eO3a lx lby lfi lco lxe lxa lxt lxp lxn lxl), (eO0a bk bto bnm bla bsk bru bbo bdi bda bdk bdt bdp bno), (eO8a bru rco u_4.2.1 ren rst u_16.2.2)]) hP hD [3, 0, 6, 7] [1, 2, 4, 5, 8] rfl rfl (by decide) (by decide) hk1 hFc hP1 hD1
      refine xs_tight (show H1.size = s.heap.size by rw [← ht, hsz9]; exact hHz) ?_
      generalize H1 = H at hP hS ⊢
      obtain ⟨hP, hD⟩ := zre [(eA0 lby cBy 900 fBy), (eA0 lco cCo 23 fCo), (eA0 phe cHe 72 fHe), (eA0 phr cHr 72 fHr), (eA0 rco cRc 64 u_4.2.2), (eO7a pa lx bk u_16.1 u_16.2.1 psk phe phr u_4.1 pop), (eO3a lx lby lfi lco lxe lxa lxt lxp lxn lxl), (eO0a bk bto bnm bla bsk bru bbo bdi bda bdk bdt bdp bno), (eO8a bru rco u_4.2.1 ren rst u_16.2.2)] hP hD rfl
      have hTX_13 : ¬ X_13.1 = 1 := by rw [hX_13, hw.1]; decide
      have hq_u_16 : u_16 = X_13.2 := by rw [hX_13]; exact hw.2
      refine lv_aload_n hx hb dX7_readSign_61 rfl (lv_at hl 1 rfl) ?_
      refine lv_aload_n hx hb dX7_readSign_62 rfl (lv_at hl 1 rfl) ?_
      refine va_get (D := (dC, dI)) (ci := 7) (v := .ref lx) (C := RX7) (T := TX7) (N := 9) hx hb htw inlX7 hown hK hP 5 rfl rfl 0 (by decide) (htw _ (ck_3 _ (List.mem_of_getElem? (i := 5) rfl))) (fun _ h9 => h9) rfl dX7_readSign_63 ?_
      refine va_get (D := (dC, dI)) (ci := 3) (v := .int lxt) (C := RX3) (T := TX3) (N := 9) hx hb htw inlX3 hown hK hP 6 rfl rfl 5 (by decide) (htw _ (ck_13 _ (List.mem_of_getElem? (i := 9) rfl))) (fun _ h9 => h9) rfl dX7_readSign_66 ?_
      obtain ⟨hPc, hDc, hFc, hCc⟩ := zsub3 (ws' := [(eO7a pa lx bk u_16.1 u_16.2.1 psk phe phr u_4.1 pop), (eA0 phe cHe 72 fHe), (eA0 phr cHr 72 fHr)]) hP hD hS hA [5, 2, 3] (by decide) rfl
      have hKc := hK.sub (tys' := [(cHe, .int), (cHr, .int)]) [2, 3] rfl
      refine va_callv (va_runV (As := [.int lxt]) (rest := []) ⟨hx, hb, hml, hown, htw⟩ (gp_hold l dC dI pa lx bk u_16.1 u_16.2.1 psk phe phr u_4.1 pop cHe fHe cHr fHr lxt H.size (gp_readSign_s2 (y0 := u_4.1) hp_8 hp_9) (gp_readSign_s3 (y0 := u_4.1) hp_8 hp_9)) (cwV 1 htw (xg_V (ck_18 _ (List.mem_of_getElem? (i := 23) rfl)) (ck_19 _ (List.mem_of_getElem? (i := 0) rfl)) (ck_19 _ (List.mem_of_getElem? (i := 1) rfl)) (ck_1 _ (List.mem_of_getElem? (i := 16) rfl)) (ck_19 _ (List.mem_of_getElem? (i := 2) rfl))) rfl rfl rfl (by exact ⟨rfl, hdc_15.1, hdc_15.2, hdd_9⟩) ⟨Nat.le_of_ble_eq_true rfl, Nat.le_of_ble_eq_true rfl⟩) ⟨fun a U g mk q => by obtain ⟨q0, q1, qP, qK, qD⟩ := q; exact ⟨q0, q1, qP, va_K.moved (u := U) (U := U.calling g mk a) (Vm.Alike.refl U.vm) qK, qD⟩, va_recv hKc hPc (ci := 7) (q0 := 0) rfl rfl, fun U hU hW => ⟨rfl, by rw [hU], by rw [hU]; exact hPc, va_K.moved hW.alike hKc, hDc.weaken (fun _ _ _ _ => trivial)⟩⟩ rfl rfl hl.1 rfl (lv_room (Nat.le_of_ble_eq_true rfl)) dX7_readSign_69 ⟨Nat.le_of_ble_eq_true rfl, Nat.le_of_ble_eq_true rfl⟩) hS (fun q _ h => hFc q h) hFc (fun u_24 t H1 locs ht hvm hw hB hz1 hk1 hS => ?_)
      try dsimp only at hw
      obtain ⟨hP1, hK1, hD1⟩ := hB
      rw [ht] at hP1
      have hK1 := va_K.moved hvm.symm hK1
      have hK1 : va_K (dC, dI) vwCl [] s := hK1
      obtain ⟨hP, hD⟩ := va_join (wr := [(eA0 lby cBy 900 fBy), (eA0 lco cCo 23 fCo), (eA0 rco cRc 64 u_4.2.2), (eO3a lx lby lfi lco lxe lxa lxt lxp lxn lxl), (eO0a bk bto bnm bla bsk bru bbo bdi bda bdk bdt bdp bno), (eO8a bru rco u_4.2.1 ren rst u_16.2.2)]) (w1 := [(eO7a pa lx bk u_16.1 u_16.2.1 psk phe phr u_24.1 pop), (eA0 phe cHe 72 u_24.2.1), (eA0 phr cHr 72 u_24.2.2)]) hP hD [5, 2, 3] [0, 1, 4, 6, 7, 8] hCc rfl (by decide) (by decide) hk1 hFc hP1 hD1
      generalize H1 = H at hP hS ⊢
      obtain ⟨hP, hD⟩ := zre [(eA0 lby cBy 900 fBy), (eA0 lco cCo 23 fCo), (eA0 rco cRc 64 u_4.2.2), (eO3a lx lby lfi lco lxe lxa lxt lxp lxn lxl), (eO0a bk bto bnm bla bsk bru bbo bdi bda bdk bdt bdp bno), (eO8a bru rco u_4.2.1 ren rst u_16.2.2), (eO7a pa lx bk u_16.1 u_16.2.1 psk phe phr u_24.1 pop), (eA0 phe cHe 72 u_24.2.1), (eA0 phr cHr 72 u_24.2.2)] hP hD rfl
      refine W.widen (k := 0) (n := 0) (by omega) (by omega) ?_
      obtain ⟨hw, hp_28, hp_29⟩ := hw
      have hq_u_24 : u_24 = (fp_hold u_4.1 fHe fHr lxt) := hw
      refine lv_aload_n hx hb dX7_readSign_72 rfl (lv_at hl 1 rfl) ?_
      refine va_get (D := (dC, dI)) (ci := 7) (v := .ref lx) (C := RX7) (T := TX7) (N := 9) hx hb htw inlX7 hown hK hP 6 rfl rfl 0 (by decide) (htw _ (ck_3 _ (List.mem_of_getElem? (i := 5) rfl))) (fun _ h9 => h9) rfl dX7_readSign_73 ?_
      obtain ⟨hPc, hDc, hFc, hCc⟩ := zsub3 (ws' := [(eO3a lx lby lfi lco lxe lxa lxt lxp lxn lxl), (eA0 lby cBy 900 fBy), (eA0 lco cCo 23 fCo)]) hP hD hS hA [3, 0, 1] (by decide) rfl
      have hKc := hK.sub (tys' := [(cBy, .byte), (cCo, .int)]) [0, 1] rfl
      refine va_callv (va_runV (As := []) (rest := []) ⟨hx, hb, hml, hown, htw⟩ (gz_advance l dC dI lx lby lfi lco lxe lxa lxt lxp lxn lxl cBy fBy cCo fCo H.size h0_lxa h9_lxe) (cwV 0 htw (xg_V (ck_16 _ (List.mem_of_getElem? (i := 11) rfl)) (ck_14 _ (List.mem_of_getElem? (i := 13) rfl)) (ck_14 _ (List.mem_of_getElem? (i := 14) rfl)) (ck_3 _ (List.mem_of_getElem? (i := 4) rfl)) (ck_14 _ (List.mem_of_getElem? (i := 15) rfl))) rfl rfl rfl (by exact ⟨rfl, hdc_4.1, hdc_4.2, hdd_13⟩) ⟨Nat.le_of_ble_eq_true rfl, Nat.le_of_ble_eq_true rfl⟩) ⟨fun a U g mk q => by obtain ⟨q0, q1, qP, qK, qD⟩ := q; exact ⟨q0, q1, qP, va_K.moved (u := U) (U := U.calling g mk a) (Vm.Alike.refl U.vm) qK, qD⟩, va_recv hKc hPc (ci := 3) (q0 := 0) rfl rfl, fun U hU hW => ⟨rfl, by rw [hU], by rw [hU]; exact hPc, va_K.moved hW.alike hKc, hDc.weaken (fun _ _ _ _ => trivial)⟩⟩ rfl rfl hl.1 rfl (lv_room (Nat.le_of_ble_eq_true rfl)) dX7_readSign_76 ⟨Nat.le_of_ble_eq_true rfl, Nat.le_of_ble_eq_true rfl⟩) hS (fun q _ h => hFc q h) hFc (fun u_31 t H1 locs ht hvm hw hB hz1 hk1 hS => ?_)
      try dsimp only at hw
      obtain ⟨hP1, hK1, hD1⟩ := hB
      rw [ht] at hP1
      have hK1 := va_K.moved hvm.symm hK1
      have hK1 : va_K (dC, dI) vwCl [] s := hK1
      obtain ⟨hP, hD⟩ := va_join (wr := [(eA0 rco cRc 64 u_4.2.2), (eO0a bk bto bnm bla bsk bru bbo bdi bda bdk bdt bdp bno), (eO8a bru rco u_4.2.1 ren rst u_16.2.2), (eO7a pa lx bk u_16.1 u_16.2.1 psk phe phr u_24.1 pop), (eA0 phe cHe 72 u_24.2.1), (eA0 phr cHr 72 u_24.2.2)]) (w1 := [(eO3a lx lby lfi lco lxe u_31.1 u_31.2.1 u_31.2.2.1 u_31.2.2.2.1 u_31.2.2.2.2), (eA0 lby cBy 900 fBy), (eA0 lco cCo 23 fCo)]) hP hD [3, 0, 1] [2, 4, 5, 6, 7, 8] hCc rfl (by decide) (by decide) hk1 hFc hP1 hD1
      generalize H1 = H at hP hS ⊢
      obtain ⟨hP, hD⟩ := zre [(eA0 rco cRc 64 u_4.2.2), (eO0a bk bto bnm bla bsk bru bbo bdi bda bdk bdt bdp bno), (eO8a bru rco u_4.2.1 ren rst u_16.2.2), (eO7a pa lx bk u_16.1 u_16.2.1 psk phe phr u_24.1 pop), (eA0 phe cHe 72 u_24.2.1), (eA0 phr cHr 72 u_24.2.2), (eO3a lx lby lfi lco lxe u_31.1 u_31.2.1 u_31.2.2.1 u_31.2.2.2.1 u_31.2.2.2.2), (eA0 lby cBy 900 fBy), (eA0 lco cCo 23 fCo)] hP hD rfl
      refine W.widen (k := 0) (n := 0) (by omega) (by omega) ?_
      obtain ⟨hw, hp_37⟩ := hw
      have hq_u_31 : u_31 = (fe_advance lxe lxa lxn lxl fBy fCo) := hw
      refine xs_size (fun hHz => ?_)
      refine vx_ret ?_
      refine W.widen (k := 1) (n := 6) (by omega) (by omega) ?_
      obtain ⟨hP9, hD9⟩ := zsub2 (ws' := [(eO7a pa lx bk u_16.1 u_16.2.1 psk phe phr u_24.1 pop), (eO3a lx lby lfi lco lxe u_31.1 u_31.2.1 u_31.2.2.1 u_31.2.2.2.1 u_31.2.2.2.2), (eA0 lby cBy 900 fBy), (eA0 lco cCo 23 fCo), (eA0 phe cHe 72 u_24.2.1), (eA0 phr cHr 72 u_24.2.2), (eO0a bk bto bnm bla bsk bru bbo bdi bda bdk bdt bdp bno), (eO8a bru rco u_4.2.1 ren rst u_16.2.2), (eA0 rco cRc 64 u_4.2.2)]) hP hD [3, 6, 7, 8, 4, 5, 1, 2, 0] (by decide +kernel) rfl
      have hK9 := hK.sub (tys' := []) [] rfl
      exact W.vret hx hb hr (fun t ht hW => ⟨⟨(u_16.1, u_16.2.1, u_24.1, u_31.1, u_31.2.1, u_31.2.2.1, u_31.2.2.2.1, u_31.2.2.2.2, u_24.2.1, u_24.2.2, u_4.2.1, u_16.2.2, u_4.2.2), rfl, ⟨((fun e9 => ⟨by rw [e9], by rw [e9]⟩ : fp_readSign pfa pfp phs lxe lxa lxt lxp lxn lxl fBy fCo fHe fHr rsz rkn fRc = ((0 : Int32), u_16.1, u_16.2.1, u_24.1, u_31.1, u_31.2.1, u_31.2.2.1, u_31.2.2.2.1, u_31.2.2.2.2, u_24.2.1, u_24.2.2, u_4.2.1, u_16.2.2, u_4.2.2) → _) ((by rw [fp_readSign]; (try rw [← hq_r_1]); (try rw [xL_eq]); (try rw [if_neg c_2]); (try rw [← hq_u_4]); (try rw [xL_eq]); (try rw [← hX_13]); (try rw [xL_eq]); (try rw [if_neg hTX_13]); (try rw [← hq_u_16]); (try rw [← hq_u_24]); (try rw [xL_eq]); (try rw [← hq_u_31]); (try rw [xL_eq]); try rfl))), (gp_readSign_s4 (y0 := u_31.1) hp_37), (gp_readSign_s5 (y0 := u_24.1) hp_28 hp_29), (gp_readSign_s6 (y0 := u_24.1) hp_28 hp_29), (gp_readSign_s7 (y0 := u_4.2.1) hp_10)⟩, ⟨by rw [ht]; exact hP9, va_K.moved hW.alike hK9, hD9⟩, by rw [ht]; first | exact hHz | exact hHz.trans (by rw [rH])⟩, hS.F ht⟩) hS.2.2 dX7_readSign_79
  · refine lv_iload_n hx hb dX7_readSign_17 rfl (lv_at hl 0 rfl) ?_
    refine lv_iconst (v := 1) hx hb dX7_readSign_18 (by decide) ?_
    refine lv_iadd hx hb dX7_readSign_19 ?_
    refine lv_goto (tgt := 24) hx hb dX7_readSign_20 (by decide) ?_
    obtain ⟨hPc, hDc, hFc, hCc⟩ := zsub3 (ws' := [(eO7a pa lx bk pfa pfp psk phe phr phs pop), (eA0 phe cHe 72 fHe), (eA0 phr cHr 72 fHr), (eO0a bk bto bnm bla bsk bru bbo bdi bda bdk bdt bdp bno), (eO8a bru rco rsz ren rst rkn), (eA0 rco cRc 64 fRc)]) hP hD hS hA [0, 4, 5, 6, 7, 8] (by decide) rfl
    have hKc := hK.sub (tys' := [(cHe, .int), (cHr, .int), (cRc, .int)]) [2, 3, 4] rfl
    refine va_callv (va_runV (As := [.int (r_1 + 1)]) (rest := []) ⟨hx, hb, hml, hown, htw⟩ (gp_release l dC dI pa lx bk pfa pfp psk phe phr phs pop cHe fHe cHr fHr bto bnm bla bsk bru bbo bdi bda bdk bdt bdp bno rco rsz ren rst rkn cRc fRc (r_1 + 1) H.size (gp_readSign_s8 (y0 := r_1) c_2 (by rw [hq_r_1]; exact hrk)) h0_phs h7_phs h0_rsz) (cwV 1 htw (xg_V (ck_19 _ (List.mem_of_getElem? (i := 22) rfl)) (ck_19 _ (List.mem_of_getElem? (i := 23) rfl)) (ck_20 _ (List.mem_of_getElem? (i := 0) rfl)) (ck_1 _ (List.mem_of_getElem? (i := 16) rfl)) (ck_20 _ (List.mem_of_getElem? (i := 1) rfl))) rfl rfl rfl (by exact ⟨rfl, hdc_15.1, hdc_15.2, hdd_9⟩) ⟨Nat.le_of_ble_eq_true rfl, Nat.le_of_ble_eq_true rfl⟩) ⟨fun a U g mk q => by obtain ⟨q0, q1, qP, qK, qD⟩ := q; exact ⟨q0, q1, qP, va_K.moved (u := U) (U := U.calling g mk a) (Vm.Alike.refl U.vm) qK, qD⟩, va_recv hKc hPc (ci := 7) (q0 := 0) rfl rfl, fun U hU hW => ⟨rfl, by rw [hU], by rw [hU]; exact hPc, va_K.moved hW.alike hKc, hDc.weaken (fun _ _ _ _ => trivial)⟩⟩ rfl rfl hl.1 rfl (lv_room (Nat.le_of_ble_eq_true rfl)) dX7_readSign_24 ⟨Nat.le_of_ble_eq_true rfl, Nat.le_of_ble_eq_true rfl⟩) hS (fun q _ h => hFc q h) hFc (fun u_39 t H1 locs ht hvm hw hB hz1 hk1 hS => ?_)
    try dsimp only at hw
    obtain ⟨hP1, hK1, hD1⟩ := hB
    rw [ht] at hP1
    have hK1 := va_K.moved hvm.symm hK1
    have hK1 : va_K (dC, dI) vwCl [] s := hK1
    obtain ⟨hP, hD⟩ := va_join (wr := [(eO3a lx lby lfi lco lxe lxa lxt lxp lxn lxl), (eA0 lby cBy 900 fBy), (eA0 lco cCo 23 fCo)]) (w1 := [(eO7a pa lx bk pfa pfp psk phe phr u_39.1 pop), (eA0 phe cHe 72 fHe), (eA0 phr cHr 72 fHr), (eO0a bk bto bnm bla bsk bru bbo bdi bda bdk bdt bdp bno), (eO8a bru rco u_39.2.1 ren rst rkn), (eA0 rco cRc 64 u_39.2.2)]) hP hD [0, 4, 5, 6, 7, 8] [1, 2, 3] hCc rfl (by decide) (by decide) hk1 hFc hP1 hD1
    generalize H1 = H at hP hS ⊢
    obtain ⟨hP, hD⟩ := zre [(eO3a lx lby lfi lco lxe lxa lxt lxp lxn lxl), (eA0 lby cBy 900 fBy), (eA0 lco cCo 23 fCo), (eO7a pa lx bk pfa pfp psk phe phr u_39.1 pop), (eA0 phe cHe 72 fHe), (eA0 phr cHr 72 fHr), (eO0a bk bto bnm bla bsk bru bbo bdi bda bdk bdt bdp bno), (eO8a bru rco u_39.2.1 ren rst rkn), (eA0 rco cRc 64 u_39.2.2)] hP hD rfl
    refine W.widen (k := 0) (n := 0) (by omega) (by omega) ?_
    obtain ⟨hw, hp_43, hp_44, hp_45⟩ := hw
    have hq_u_39 : u_39 = (fp_release phs fHe fHr rsz fRc (r_1 + 1)) := hw
    refine lv_aload_n hx hb dX7_readSign_27 rfl (lv_at hl 1 rfl) ?_
    refine lv_iload_n hx hb dX7_readSign_28 rfl (lv_at hl 0 rfl) ?_
    refine lv_iconst (v := 4) hx hb dX7_readSign_29 (by decide) ?_
    refine lv_icmp_ne (tgt := 45) hx hb dX7_readSign_30 (by decide) (fun c_46 => absurd c_46 (fun h9 => h9 c_2)) (fun c_46 => ?_)
    refine lv_aload_n hx hb dX7_readSign_33 rfl (lv_at hl 1 rfl) ?_
    have hPc := hP.sub (ws' := [(eO7a pa lx bk pfa pfp psk phe phr u_39.1 pop), (eA0 phr cHr 72 fHr)]) [3, 5] rfl
    have hKc := hK.sub (tys' := [(cHr, .int)]) [3] rfl
    refine vp_callSi (W.runV (As := []) (rest := [.ref pa]) ⟨hx, hb, hml, hown, htw⟩ (gp_heldRank l dC dI pa lx bk pfa pfp psk phe phr u_39.1 pop cHr fHr) (cwV 0 htw (xg_V (ck_18 _ (List.mem_of_getElem? (i := 16) rfl)) (ck_18 _ (List.mem_of_getElem? (i := 17) rfl)) (ck_18 _ (List.mem_of_getElem? (i := 18) rfl)) (ck_1 _ (List.mem_of_getElem? (i := 16) rfl)) (ck_18 _ (List.mem_of_getElem? (i := 19) rfl))) rfl rfl rfl (by exact ⟨rfl, hdc_15.1, hdc_15.2, hdd_45⟩) ⟨Nat.le_of_ble_eq_true rfl, Nat.le_of_ble_eq_true rfl⟩) ⟨fun a U g mk q => by obtain ⟨q0, qP, qK⟩ := q; exact ⟨q0, qP, va_K.moved (u := U) (U := U.calling g mk a) (Vm.Alike.refl U.vm) qK⟩, va_recv hKc hPc (ci := 7) (q0 := 0) rfl rfl, fun U hU hW => ⟨rfl, by rw [hU]; exact hPc, va_K.moved hW.alike hKc⟩⟩ rfl rfl hl.1 rfl (lv_room (Nat.le_of_ble_eq_true rfl)) dX7_readSign_34 ⟨Nat.le_of_ble_eq_true rfl, Nat.le_of_ble_eq_true rfl⟩) (fun r_47 hw => ?_)
    try dsimp only at hw
    obtain ⟨hw, hp_48, hp_49⟩ := hw
    have hq_r_47 : r_47 = (fp_heldRank u_39.1 fHr) := hw
    refine lv_iconst (v := 4) hx hb dX7_readSign_37 (by decide) ?_
    refine lv_icmp_ne (tgt := 45) hx hb dX7_readSign_38 (by decide) (fun c_50 => ?_) (fun c_50 => ?_)
    · refine lv_iconst (v := 0) hx hb dX7_readSign_45 (by decide) ?_
      refine lv_iconst (v := 1) hx hb dX7_readSign_46 (by decide) ?_
      refine lv_aload_n hx hb dX7_readSign_47 rfl (lv_at hl 1 rfl) ?_
      refine va_get (D := (dC, dI)) (ci := 7) (v := .ref lx) (C := RX7) (T := TX7) (N := 9) hx hb htw inlX7 hown hK hP 3 rfl rfl 0 (by decide) (htw _ (ck_3 _ (List.mem_of_getElem? (i := 5) rfl))) (fun _ h9 => h9) rfl dX7_readSign_48 ?_
      refine va_get (D := (dC, dI)) (ci := 3) (v := .int lxp) (C := RX3) (T := TX3) (N := 9) hx hb htw inlX3 hown hK hP 0 rfl rfl 6 (by decide) (htw _ (ck_15 _ (List.mem_of_getElem? (i := 13) rfl))) (fun _ h9 => h9) rfl dX7_readSign_51 ?_
      have hPc := hP.sub (ws' := []) [] rfl
      have hKc := hK.sub (tys' := []) [] rfl
      refine va_csv (W.runV (As := [.int 0, .int 1, .int lxp]) (rest := []) ⟨hx, hb, hml, hown, htw⟩ (gp_ref0 l dC dI (0 : Int32) (1 : Int32) lxp pa (gp_readSign_s9 )) (cwV 3 htw (xg_V (ck_16 _ (List.mem_of_getElem? (i := 6) rfl)) (ck_16 _ (List.mem_of_getElem? (i := 7) rfl)) (ck_16 _ (List.mem_of_getElem? (i := 8) rfl)) (ck_1 _ (List.mem_of_getElem? (i := 16) rfl)) (ck_16 _ (List.mem_of_getElem? (i := 9) rfl))) rfl rfl rfl (by exact ⟨rfl, hdc_15.1, hdc_15.2, hdd_48⟩) ⟨Nat.le_of_ble_eq_true rfl, Nat.le_of_ble_eq_true rfl⟩) ⟨fun a U g mk q => by obtain ⟨q0, qP, qK⟩ := q; exact ⟨q0, qP, va_K.moved (u := U) (U := U.calling g mk a) (Vm.Alike.refl U.vm) qK⟩, va_recv hK hP (ci := 7) (q0 := 3) rfl rfl, fun U hU hW => ⟨rfl, by rw [hU]; exact hPc, va_K.moved hW.alike hKc⟩⟩ rfl rfl hl.1 rfl (lv_room (Nat.le_of_ble_eq_true rfl)) dX7_readSign_54 ⟨Nat.le_of_ble_eq_true rfl, Nat.le_of_ble_eq_true rfl⟩) (fun hw => ?_)
      try dsimp only at hw
      refine lv_aload_n hx hb dX7_readSign_57 rfl (lv_at hl 1 rfl) ?_
      refine xs_size (fun hHz => ?_)
      obtain ⟨hPc, hDc, hFc, hCc⟩ := zsub3 (ws' := [(eO7a pa lx bk pfa pfp psk phe phr u_39.1 pop), (eO3a lx lby lfi lco lxe lxa lxt lxp lxn lxl), (eO0a bk bto bnm bla bsk bru bbo bdi bda bdk bdt bdp bno), (eO8a bru rco u_39.2.1 ren rst rkn)]) hP hD hS hA [3, 0, 6, 7] (by decide) rfl
      have hKc := hK.sub (tys' := []) [] rfl
      obtain ⟨X_52, hX_52⟩ : ∃ X9 : Int32 × (Int32) × (Int32) × (Int32), X9 = (fp_countKnot pfa pfp lxp rkn) := ⟨_, rfl⟩
      refine vx_callv (vx_runV (As := []) (rest := []) ⟨hx, hb, hml, hown, htw⟩ (gp_countKnot l hst dC dI pa lx bk pfa pfp psk phe phr u_39.1 pop lby lfi lco lxe lxa lxt lxp lxn lxl bto bnm bla bsk bru bbo bdi bda bdk bdt bdp bno rco u_39.2.1 ren rst rkn sL H.size) (cwV 0 htw (xg_V (ck_19 _ (List.mem_of_getElem? (i := 6) rfl)) (ck_19 _ (List.mem_of_getElem? (i := 7) rfl)) (ck_19 _ (List.mem_of_getElem? (i := 8) rfl)) (ck_1 _ (List.mem_of_getElem? (i := 16) rfl)) (ck_19 _ (List.mem_of_getElem? (i := 9) rfl))) rfl rfl rfl (by exact ⟨rfl, hdc_15.1, hdc_15.2, hdd_13⟩) ⟨Nat.le_of_ble_eq_true rfl, Nat.le_of_ble_eq_true rfl⟩) ⟨fun a U g mk q => by obtain ⟨q0, q1, qP, qK, qD, qx0⟩ := q; exact ⟨q0, q1, qP, va_K.moved (u := U) (U := U.calling g mk a) (Vm.Alike.refl U.vm) qK, qD, xl.calling qx0⟩, va_recv hKc hPc (ci := 7) (q0 := 0) rfl rfl, fun U hU hW => ⟨rfl, by rw [hU], by rw [hU]; exact hPc, va_K.moved hW.alike hKc, hDc.weaken (fun _ _ _ _ => trivial), by rw [hU]; exact xl.warm hW ((xl.kept hXL hS.2.1).narrow hFc)⟩⟩ rfl rfl hl.1 rfl (lv_room (Nat.le_of_ble_eq_true rfl)) dX7_readSign_58 ⟨Nat.le_of_ble_eq_true rfl, Nat.le_of_ble_eq_true rfl⟩) hS (fun q _ h => hFc q h) hFc (fun q _ h => hFc q h) (fun E ce q9 u_53 t H1 locs ht hvm hw hB hz1 hk1 hS hcell hcv hcl => ?_) (fun u_55 t H1 locs ht hvm hw hB hz1 hk1 hS => ?_)
      · obtain ⟨hE9, hB⟩ := hB
        subst hE9
        obtain ⟨hP1, hK1, hD1⟩ := hB
        rw [ht] at hP1
        have hK1 := va_K.moved hvm.symm hK1
        have hK1 : va_K (dC, dI) vwCl [] s := hK1
        obtain ⟨hP, hD⟩ := va_join (wr := [(eA0 lby cBy 900 fBy), (eA0 lco cCo 23 fCo), (eA0 phe cHe 72 fHe), (eA0 phr cHr 72 fHr), (eA0 rco cRc 64 u_39.2.2)]) (w1 := [(eO7a pa lx bk u_53.1 u_53.2.1 psk phe phr u_39.1 pop), (eO3a lx lby lfi lco lxe lxa lxt lxp lxn lxl), (eO0a bk bto bnm bla bsk bru bbo bdi bda bdk bdt bdp bno), (eO8a bru rco u_39.2.1 ren rst u_53.2.2)]) hP hD [3, 0, 6, 7] [1, 2, 4, 5, 8] hCc rfl (by decide) (by decide) hk1 hFc hP1 hD1
        generalize H1 = H at hP hS hcell ⊢
        obtain ⟨hP, hD⟩ := zre [(eA0 lby cBy 900 fBy), (eA0 lco cCo 23 fCo), (eA0 phe cHe 72 fHe), (eA0 phr cHr 72 fHr), (eA0 rco cRc 64 u_39.2.2), (eO7a pa lx bk u_53.1 u_53.2.1 psk phe phr u_39.1 pop), (eO3a lx lby lfi lco lxe lxa lxt lxp lxn lxl), (eO0a bk bto bnm bla bsk bru bbo bdi bda bdk bdt bdp bno), (eO8a bru rco u_39.2.1 ren rst u_53.2.2)] hP hD rfl
        have hTX_52 : X_52.1 = 1 := by rw [hX_52]; exact hw.1
        have hq_u_53 : u_53 = X_52.2 := by rw [hX_52]; exact hw.2
        obtain ⟨hP9, hD9⟩ := zsub2 (ws' := [(eO7a pa lx bk u_53.1 u_53.2.1 psk phe phr u_39.1 pop), (eO3a lx lby lfi lco lxe lxa lxt lxp lxn lxl), (eA0 lby cBy 900 fBy), (eA0 lco cCo 23 fCo), (eA0 phe cHe 72 fHe), (eA0 phr cHr 72 fHr), (eO0a bk bto bnm bla bsk bru bbo bdi bda bdk bdt bdp bno), (eO8a bru rco u_39.2.1 ren rst u_53.2.2), (eA0 rco cRc 64 u_39.2.2)]) hP hD [5, 6, 0, 1, 2, 3, 7, 8, 4] (by decide +kernel) rfl
        have hK9 := hK.sub (tys' := []) [] rfl
        exact vx_widen (k := 1) (n := 6) (Nat.le_of_ble_eq_true rfl) (Nat.le_of_ble_eq_true rfl) (vx_out (fun x h9 => (hex x h9).elim) hlocks hcell hcv hcl (fun t ht hal => ⟨(u_53.1, u_53.2.1, u_39.1, lxa, lxt, lxp, lxn, lxl, fHe, fHr, u_39.2.1, u_53.2.2, u_39.2.2), ((fun e9 => ⟨by rw [e9], by rw [e9]⟩ : fp_readSign pfa pfp phs lxe lxa lxt lxp lxn lxl fBy fCo fHe fHr rsz rkn fRc = ((1 : Int32), u_53.1, u_53.2.1, u_39.1, lxa, lxt, lxp, lxn, lxl, fHe, fHr, u_39.2.1, u_53.2.2, u_39.2.2) → _) ((by rw [fp_readSign]; (try rw [← hq_r_1]); (try rw [xL_eq]); (try rw [if_pos c_2]); (try rw [← hq_u_39]); (try rw [xL_eq]); (try rw [← hq_r_47]); (try rw [xL_eq]); (try rw [if_neg c_50]); (try rw [← hX_52]); (try rw [xL_eq]); (try rw [if_pos hTX_52]); (try rw [← hq_u_53]); try rfl))), ⟨rfl, by rw [ht]; exact hP9, va_K.moved hal hK9, hD9⟩, hS.F ht⟩) hS.2.2 (Nat.le_of_ble_eq_true rfl) (Nat.le_of_ble_eq_true rfl))
      · obtain ⟨hB, hsz9⟩ := hB
        obtain ⟨hP1, hK1, hD1⟩ := hB
        rw [ht] at hP1
        have hK1 := va_K.moved hvm.symm hK1
        have hK1 : va_K (dC, dI) vwCl [] s := hK1
        obtain ⟨hP, hD⟩ := va_join (wr := [(eA0 lby cBy 900 fBy), (eA0 lco cCo 23 fCo), (eA0 phe cHe 72 fHe), (eA0 phr cHr 72 fHr), (eA0 rco cRc 64 u_39.2.2)]) (w1 := [(eO7a pa lx bk u_55.1 u_55.2.1 psk phe phr u_39.1 pop), (eO3a lx lby lfi lco lxe lxa lxt lxp lxn lxl), (eO0a bk bto bnm bla bsk bru bbo bdi bda bdk bdt bdp bno), (eO8a bru rco u_39.2.1 ren rst u_55.2.2)]) hP hD [3, 0, 6, 7] [1, 2, 4, 5, 8] rfl rfl (by decide) (by decide) hk1 hFc hP1 hD1
        refine xs_tight (show H1.size = s.heap.size by rw [← ht, hsz9]; exact hHz) ?_
        generalize H1 = H at hP hS ⊢
        obtain ⟨hP, hD⟩ := zre [(eA0 lby cBy 900 fBy), (eA0 lco cCo 23 fCo), (eA0 phe cHe 72 fHe), (eA0 phr cHr 72 fHr), (eA0 rco cRc 64 u_39.2.2), (eO7a pa lx bk u_55.1 u_55.2.1 psk phe phr u_39.1 pop), (eO3a lx lby lfi lco lxe lxa lxt lxp lxn lxl), (eO0a bk bto bnm bla bsk bru bbo bdi bda bdk bdt bdp bno), (eO8a bru rco u_39.2.1 ren rst u_55.2.2)] hP hD rfl
        have hTX_52 : ¬ X_52.1 = 1 := by rw [hX_52, hw.1]; decide
        have hq_u_55 : u_55 = X_52.2 := by rw [hX_52]; exact hw.2
        refine lv_aload_n hx hb dX7_readSign_61 rfl (lv_at hl 1 rfl) ?_
        refine lv_aload_n hx hb dX7_readSign_62 rfl (lv_at hl 1 rfl) ?_
        refine va_get (D := (dC, dI)) (ci := 7) (v := .ref lx) (C := RX7) (T := TX7) (N := 9) hx hb htw inlX7 hown hK hP 5 rfl rfl 0 (by decide) (htw _ (ck_3 _ (List.mem_of_getElem? (i := 5) rfl))) (fun _ h9 => h9) rfl dX7_readSign_63 ?_
        refine va_get (D := (dC, dI)) (ci := 3) (v := .int lxt) (C := RX3) (T := TX3) (N := 9) hx hb htw inlX3 hown hK hP 6 rfl rfl 5 (by decide) (htw _ (ck_13 _ (List.mem_of_getElem? (i := 9) rfl))) (fun _ h9 => h9) rfl dX7_readSign_66 ?_
        obtain ⟨hPc, hDc, hFc, hCc⟩ := zsub3 (ws' := [(eO7a pa lx bk u_55.1 u_55.2.1 psk phe phr u_39.1 pop), (eA0 phe cHe 72 fHe), (eA0 phr cHr 72 fHr)]) hP hD hS hA [5, 2, 3] (by decide) rfl
        have hKc := hK.sub (tys' := [(cHe, .int), (cHr, .int)]) [2, 3] rfl
        refine va_callv (va_runV (As := [.int lxt]) (rest := []) ⟨hx, hb, hml, hown, htw⟩ (gp_hold l dC dI pa lx bk u_55.1 u_55.2.1 psk phe phr u_39.1 pop cHe fHe cHr fHr lxt H.size (gp_readSign_s10 (y0 := u_39.1) hp_43 hp_44) (gp_readSign_s11 (y0 := u_39.1) hp_43 hp_44)) (cwV 1 htw (xg_V (ck_18 _ (List.mem_of_getElem? (i := 23) rfl)) (ck_19 _ (List.mem_of_getElem? (i := 0) rfl)) (ck_19 _ (List.mem_of_getElem? (i := 1) rfl)) (ck_1 _ (List.mem_of_getElem? (i := 16) rfl)) (ck_19 _ (List.mem_of_getElem? (i := 2) rfl))) rfl rfl rfl (by exact ⟨rfl, hdc_15.1, hdc_15.2, hdd_9⟩) ⟨Nat.le_of_ble_eq_true rfl, Nat.le_of_ble_eq_true rfl⟩) ⟨fun a U g mk q => by obtain ⟨q0, q1, qP, qK, qD⟩ := q; exact ⟨q0, q1, qP, va_K.moved (u := U) (U := U.calling g mk a) (Vm.Alike.refl U.vm) qK, qD⟩, va_recv hKc hPc (ci := 7) (q0 := 0) rfl rfl, fun U hU hW => ⟨rfl, by rw [hU], by rw [hU]; exact hPc, va_K.moved hW.alike hKc, hDc.weaken (fun _ _ _ _ => trivial)⟩⟩ rfl rfl hl.1 rfl (lv_room (Nat.le_of_ble_eq_true rfl)) dX7_readSign_69 ⟨Nat.le_of_ble_eq_true rfl, Nat.le_of_ble_eq_true rfl⟩) hS (fun q _ h => hFc q h) hFc (fun u_63 t H1 locs ht hvm hw hB hz1 hk1 hS => ?_)
        try dsimp only at hw
        obtain ⟨hP1, hK1, hD1⟩ := hB
        rw [ht] at hP1
        have hK1 := va_K.moved hvm.symm hK1
        have hK1 : va_K (dC, dI) vwCl [] s := hK1
        obtain ⟨hP, hD⟩ := va_join (wr := [(eA0 lby cBy 900 fBy), (eA0 lco cCo 23 fCo), (eA0 rco cRc 64 u_39.2.2), (eO3a lx lby lfi lco lxe lxa lxt lxp lxn lxl), (eO0a bk bto bnm bla bsk bru bbo bdi bda bdk bdt bdp bno), (eO8a bru rco u_39.2.1 ren rst u_55.2.2)]) (w1 := [(eO7a pa lx bk u_55.1 u_55.2.1 psk phe phr u_63.1 pop), (eA0 phe cHe 72 u_63.2.1), (eA0 phr cHr 72 u_63.2.2)]) hP hD [5, 2, 3] [0, 1, 4, 6, 7, 8] hCc rfl (by decide) (by decide) hk1 hFc hP1 hD1
        generalize H1 = H at hP hS ⊢
        obtain ⟨hP, hD⟩ := zre [(eA0 lby cBy 900 fBy), (eA0 lco cCo 23 fCo), (eA0 rco cRc 64 u_39.2.2), (eO3a lx lby lfi lco lxe lxa lxt lxp lxn lxl), (eO0a bk bto bnm bla bsk bru bbo bdi bda bdk bdt bdp bno), (eO8a bru rco u_39.2.1 ren rst u_55.2.2), (eO7a pa lx bk u_55.1 u_55.2.1 psk phe phr u_63.1 pop), (eA0 phe cHe 72 u_63.2.1), (eA0 phr cHr 72 u_63.2.2)] hP hD rfl
        refine W.widen (k := 0) (n := 0) (by omega) (by omega) ?_
        obtain ⟨hw, hp_67, hp_68⟩ := hw
        have hq_u_63 : u_63 = (fp_hold u_39.1 fHe fHr lxt) := hw
        refine lv_aload_n hx hb dX7_readSign_72 rfl (lv_at hl 1 rfl) ?_
        refine va_get (D := (dC, dI)) (ci := 7) (v := .ref lx) (C := RX7) (T := TX7) (N := 9) hx hb htw inlX7 hown hK hP 6 rfl rfl 0 (by decide) (htw _ (ck_3 _ (List.mem_of_getElem? (i := 5) rfl))) (fun _ h9 => h9) rfl dX7_readSign_73 ?_
        obtain ⟨hPc, hDc, hFc, hCc⟩ := zsub3 (ws' := [(eO3a lx lby lfi lco lxe lxa lxt lxp lxn lxl), (eA0 lby cBy 900 fBy), (eA0 lco cCo 23 fCo)]) hP hD hS hA [3, 0, 1] (by decide) rfl
        have hKc := hK.sub (tys' := [(cBy, .byte), (cCo, .int)]) [0, 1] rfl
        refine va_callv (va_runV (As := []) (rest := []) ⟨hx, hb, hml, hown, htw⟩ (gz_advance l dC dI lx lby lfi lco lxe lxa lxt lxp lxn lxl cBy fBy cCo fCo H.size h0_lxa h9_lxe) (cwV 0 htw (xg_V (ck_16 _ (List.mem_of_getElem? (i := 11) rfl)) (ck_14 _ (List.mem_of_getElem? (i := 13) rfl)) (ck_14 _ (List.mem_of_getElem? (i := 14) rfl)) (ck_3 _ (List.mem_of_getElem? (i := 4) rfl)) (ck_14 _ (List.mem_of_getElem? (i := 15) rfl))) rfl rfl rfl (by exact ⟨rfl, hdc_4.1, hdc_4.2, hdd_13⟩) ⟨Nat.le_of_ble_eq_true rfl, Nat.le_of_ble_eq_true rfl⟩) ⟨fun a U g mk q => by obtain ⟨q0, q1, qP, qK, qD⟩ := q; exact ⟨q0, q1, qP, va_K.moved (u := U) (U := U.calling g mk a) (Vm.Alike.refl U.vm) qK, qD⟩, va_recv hKc hPc (ci := 3) (q0 := 0) rfl rfl, fun U hU hW => ⟨rfl, by rw [hU], by rw [hU]; exact hPc, va_K.moved hW.alike hKc, hDc.weaken (fun _ _ _ _ => trivial)⟩⟩ rfl rfl hl.1 rfl (lv_room (Nat.le_of_ble_eq_true rfl)) dX7_readSign_76 ⟨Nat.le_of_ble_eq_true rfl, Nat.le_of_ble_eq_true rfl⟩) hS (fun q _ h => hFc q h) hFc (fun u_70 t H1 locs ht hvm hw hB hz1 hk1 hS => ?_)
        try dsimp only at hw
        obtain ⟨hP1, hK1, hD1⟩ := hB
        rw [ht] at hP1
        have hK1 := va_K.moved hvm.symm hK1
        have hK1 : va_K (dC, dI) vwCl [] s := hK1
        obtain ⟨hP, hD⟩ := va_join (wr := [(eA0 rco cRc 64 u_39.2.2), (eO0a bk bto bnm bla bsk bru bbo bdi bda bdk bdt bdp bno), (eO8a bru rco u_39.2.1 ren rst u_55.2.2), (eO7a pa lx bk u_55.1 u_55.2.1 psk phe phr u_63.1 pop), (eA0 phe cHe 72 u_63.2.1), (eA0 phr cHr 72 u_63.2.2)]) (w1 := [(eO3a lx lby lfi lco lxe u_70.1 u_70.2.1 u_70.2.2.1 u_70.2.2.2.1 u_70.2.2.2.2), (eA0 lby cBy 900 fBy), (eA0 lco cCo 23 fCo)]) hP hD [3, 0, 1] [2, 4, 5, 6, 7, 8] hCc rfl (by decide) (by decide) hk1 hFc hP1 hD1
        generalize H1 = H at hP hS ⊢
        obtain ⟨hP, hD⟩ := zre [(eA0 rco cRc 64 u_39.2.2), (eO0a bk bto bnm bla bsk bru bbo bdi bda bdk bdt bdp bno), (eO8a bru rco u_39.2.1 ren rst u_55.2.2), (eO7a pa lx bk u_55.1 u_55.2.1 psk phe phr u_63.1 pop), (eA0 phe cHe 72 u_63.2.1), (eA0 phr cHr 72 u_63.2.2), (eO3a lx lby lfi lco lxe u_70.1 u_70.2.1 u_70.2.2.1 u_70.2.2.2.1 u_70.2.2.2.2), (eA0 lby cBy 900 fBy), (eA0 lco cCo 23 fCo)] hP hD rfl
        refine W.widen (k := 0) (n := 0) (by omega) (by omega) ?_
        obtain ⟨hw, hp_76⟩ := hw
        have hq_u_70 : u_70 = (fe_advance lxe lxa lxn lxl fBy fCo) := hw
        refine xs_size (fun hHz => ?_)
        refine vx_ret ?_
        refine W.widen (k := 1) (n := 6) (by omega) (by omega) ?_
        obtain ⟨hP9, hD9⟩ := zsub2 (ws' := [(eO7a pa lx bk u_55.1 u_55.2.1 psk phe phr u_63.1 pop), (eO3a lx lby lfi lco lxe u_70.1 u_70.2.1 u_70.2.2.1 u_70.2.2.2.1 u_70.2.2.2.2), (eA0 lby cBy 900 fBy), (eA0 lco cCo 23 fCo), (eA0 phe cHe 72 u_63.2.1), (eA0 phr cHr 72 u_63.2.2), (eO0a bk bto bnm bla bsk bru bbo bdi bda bdk bdt bdp bno), (eO8a bru rco u_39.2.1 ren rst u_55.2.2), (eA0 rco cRc 64 u_39.2.2)]) hP hD [3, 6, 7, 8, 4, 5, 1, 2, 0] (by decide +kernel) rfl
        have hK9 := hK.sub (tys' := []) [] rfl
        exact W.vret hx hb hr (fun t ht hW => ⟨⟨(u_55.1, u_55.2.1, u_63.1, u_70.1, u_70.2.1, u_70.2.2.1, u_70.2.2.2.1, u_70.2.2.2.2, u_63.2.1, u_63.2.2, u_39.2.1, u_55.2.2, u_39.2.2), rfl, ⟨((fun e9 => ⟨by rw [e9], by rw [e9]⟩ : fp_readSign pfa pfp phs lxe lxa lxt lxp lxn lxl fBy fCo fHe fHr rsz rkn fRc = ((0 : Int32), u_55.1, u_55.2.1, u_63.1, u_70.1, u_70.2.1, u_70.2.2.1, u_70.2.2.2.1, u_70.2.2.2.2, u_63.2.1, u_63.2.2, u_39.2.1, u_55.2.2, u_39.2.2) → _) ((by rw [fp_readSign]; (try rw [← hq_r_1]); (try rw [xL_eq]); (try rw [if_pos c_2]); (try rw [← hq_u_39]); (try rw [xL_eq]); (try rw [← hq_r_47]); (try rw [xL_eq]); (try rw [if_neg c_50]); (try rw [← hX_52]); (try rw [xL_eq]); (try rw [if_neg hTX_52]); (try rw [← hq_u_55]); (try rw [← hq_u_63]); (try rw [xL_eq]); (try rw [← hq_u_70]); (try rw [xL_eq]); try rfl))), (gp_readSign_s12 (y0 := u_70.1) hp_76), (gp_readSign_s13 (y0 := u_63.1) hp_67 hp_68), (gp_readSign_s14 (y0 := u_63.1) hp_67 hp_68), (gp_readSign_s15 (y0 := u_39.2.1) hp_45)⟩, ⟨by rw [ht]; exact hP9, va_K.moved hW.alike hK9, hD9⟩, by rw [ht]; first | exact hHz | exact hHz.trans (by rw [rH])⟩, hS.F ht⟩) hS.2.2 dX7_readSign_79
    · refine lv_iconst (v := 1) hx hb dX7_readSign_41 (by decide) ?_
      refine lv_goto (tgt := 46) hx hb dX7_readSign_42 (by decide) ?_
      refine lv_iconst (v := 1) hx hb dX7_readSign_46 (by decide) ?_
      refine lv_aload_n hx hb dX7_readSign_47 rfl (lv_at hl 1 rfl) ?_
      refine va_get (D := (dC, dI)) (ci := 7) (v := .ref lx) (C := RX7) (T := TX7) (N := 9) hx hb htw inlX7 hown hK hP 3 rfl rfl 0 (by decide) (htw _ (ck_3 _ (List.mem_of_getElem? (i := 5) rfl))) (fun _ h9 => h9) rfl dX7_readSign_48 ?_
      refine va_get (D := (dC, dI)) (ci := 3) (v := .int lxp) (C := RX3) (T := TX3) (N := 9) hx hb htw inlX3 hown hK hP 0 rfl rfl 6 (by decide) (htw _ (ck_15 _ (List.mem_of_getElem? (i := 13) rfl))) (fun _ h9 => h9) rfl dX7_readSign_51 ?_
      refine xs_size (fun hHz => ?_)
      obtain ⟨hPc, hDc, hFc, hCc⟩ := zsub3 (ws' := [(eO7a pa lx bk pfa pfp psk phe phr u_39.1 pop)]) hP hD hS hA [3] (by decide) rfl
      have hKc := hK.sub (tys' := []) [] rfl
      refine vx_callv (vx_runV (As := [.int 1, .int 1, .int lxp]) (rest := []) ⟨hx, hb, hml, hown, htw⟩ (gp_refT l hst dC dI pa lx bk pfa pfp psk phe phr u_39.1 pop (1 : Int32) (1 : Int32) lxp sL H.size (gp_readSign_s16 )) (cwV 3 htw (xg_V (ck_16 _ (List.mem_of_getElem? (i := 6) rfl)) (ck_16 _ (List.mem_of_getElem? (i := 7) rfl)) (ck_16 _ (List.mem_of_getElem? (i := 8) rfl)) (ck_1 _ (List.mem_of_getElem? (i := 16) rfl)) (ck_16 _ (List.mem_of_getElem? (i := 9) rfl))) rfl rfl rfl (by exact ⟨rfl, hdc_15.1, hdc_15.2, hdd_48⟩) ⟨Nat.le_of_ble_eq_true rfl, Nat.le_of_ble_eq_true rfl⟩) ⟨fun a U g mk q => by obtain ⟨q0, q1, qP, qK, qD, qx0⟩ := q; exact ⟨q0, q1, qP, va_K.moved (u := U) (U := U.calling g mk a) (Vm.Alike.refl U.vm) qK, qD, xl.calling qx0⟩, va_recv hKc hPc (ci := 7) (q0 := 0) rfl rfl, fun U hU hW => ⟨rfl, by rw [hU], by rw [hU]; exact hPc, va_K.moved hW.alike hKc, hDc.weaken (fun _ _ _ _ => trivial), by rw [hU]; exact xl.warm hW ((xl.kept hXL hS.2.1).narrow hFc)⟩⟩ rfl rfl hl.1 rfl (lv_room (Nat.le_of_ble_eq_true rfl)) dX7_readSign_54 ⟨Nat.le_of_ble_eq_true rfl, Nat.le_of_ble_eq_true rfl⟩) hS (fun q _ h => hFc q h) hFc (fun q _ h => hFc q h) (fun E ce q9 u_77 t H1 locs ht hvm hw hB hz1 hk1 hS hcell hcv hcl => ?_) (fun u_79 t H1 locs ht hvm hw hB hz1 hk1 hS => hw.elim)
      obtain ⟨hE9, hB⟩ := hB
      subst hE9
      obtain ⟨hP1, hK1, hD1⟩ := hB
      rw [ht] at hP1
      have hK1 := va_K.moved hvm.symm hK1
      have hK1 : va_K (dC, dI) vwCl [] s := hK1
      obtain ⟨hP, hD⟩ := va_join (wr := [(eO3a lx lby lfi lco lxe lxa lxt lxp lxn lxl), (eA0 lby cBy 900 fBy), (eA0 lco cCo 23 fCo), (eA0 phe cHe 72 fHe), (eA0 phr cHr 72 fHr), (eO0a bk bto bnm bla bsk bru bbo bdi bda bdk bdt bdp bno), (eO8a bru rco u_39.2.1 ren rst rkn), (eA0 rco cRc 64 u_39.2.2)]) (w1 := [(eO7a pa lx bk 1 lxp psk phe phr u_39.1 pop)]) hP hD [3] [0, 1, 2, 4, 5, 6, 7, 8] hCc rfl (by decide +kernel) (by decide +kernel) hk1 hFc hP1 hD1
      generalize H1 = H at hP hS hcell ⊢
      obtain ⟨hP, hD⟩ := zre [(eO3a lx lby lfi lco lxe lxa lxt lxp lxn lxl), (eA0 lby cBy 900 fBy), (eA0 lco cCo 23 fCo), (eA0 phe cHe 72 fHe), (eA0 phr cHr 72 fHr), (eO0a bk bto bnm bla bsk bru bbo bdi bda bdk bdt bdp bno), (eO8a bru rco u_39.2.1 ren rst rkn), (eA0 rco cRc 64 u_39.2.2), (eO7a pa lx bk 1 lxp psk phe phr u_39.1 pop)] hP hD rfl
      obtain ⟨hP9, hD9⟩ := zsub2 (ws' := [(eO7a pa lx bk 1 lxp psk phe phr u_39.1 pop), (eO3a lx lby lfi lco lxe lxa lxt lxp lxn lxl), (eA0 lby cBy 900 fBy), (eA0 lco cCo 23 fCo), (eA0 phe cHe 72 fHe), (eA0 phr cHr 72 fHr), (eO0a bk bto bnm bla bsk bru bbo bdi bda bdk bdt bdp bno), (eO8a bru rco u_39.2.1 ren rst rkn), (eA0 rco cRc 64 u_39.2.2)]) hP hD [8, 0, 1, 2, 3, 4, 5, 6, 7] (by decide +kernel) rfl
      have hK9 := hK.sub (tys' := []) [] rfl
      exact vx_widen (k := 1) (n := 6) (Nat.le_of_ble_eq_true rfl) (Nat.le_of_ble_eq_true rfl) (vx_out (fun x h9 => (hex x h9).elim) hlocks hcell hcv hcl (fun t ht hal => ⟨(1, lxp, u_39.1, lxa, lxt, lxp, lxn, lxl, fHe, fHr, u_39.2.1, rkn, u_39.2.2), ((fun e9 => ⟨by rw [e9], by rw [e9]⟩ : fp_readSign pfa pfp phs lxe lxa lxt lxp lxn lxl fBy fCo fHe fHr rsz rkn fRc = ((1 : Int32), (1 : Int32), lxp, u_39.1, lxa, lxt, lxp, lxn, lxl, fHe, fHr, u_39.2.1, rkn, u_39.2.2) → _) ((by rw [fp_readSign]; (try rw [← hq_r_1]); (try rw [xL_eq]); (try rw [if_pos c_2]); (try rw [← hq_u_39]); (try rw [xL_eq]); (try rw [← hq_r_47]); (try rw [xL_eq]); (try rw [if_pos c_50]); try rfl))), ⟨rfl, by rw [ht]; exact hP9, va_K.moved hal hK9, hD9⟩, hS.F ht⟩) hS.2.2 (Nat.le_of_ble_eq_true rfl) (Nat.le_of_ble_eq_true rfl))

def fp_readPart (pfa : Int32) (pfp : Int32) (phs : Int32) (pop : Int32) (lxe : Int32) (lxa : Int32) (lxt : Int32) (lxp : Int32) (lxn : Int32) (lxl : Int32) (fBy : Nat → Int32) (fCo : Nat → Int32) (fHe : Nat → Int32) (fHr : Nat → Int32) (rsz : Int32) (rkn : Int32) (fRc : Nat → Int32) : Int32 × Int32 × (Int32) × (Int32) × (Int32) × (Int32) × (Int32) × (Int32) × (Int32) × (Int32) × (Int32) × (Nat → Int32) × (Nat → Int32) × (Int32) × (Int32) × (Nat → Int32) := (if lxt = 26 then (if lxt = 21 then (xL ((fp_heldRank phs fHr)) (fun r_25 => (if r_25 ≤ 3 then (if pop < 8 then (xL ((fp_hold phs fHe fHr lxt)) (fun u_34 => (xL ((fe_advance lxe lxa lxn lxl fBy fCo)) (fun u_41 => ((0 : Int32), (1 : Int32), pfa, pfp, u_34.1, (pop + 1), u_41.1, u_41.2.1, u_41.2.2.1, u_41.2.2.2.1, u_41.2.2.2.2, u_34.2.1, u_34.2.2, rsz, rkn, fRc))))) else ((1 : Int32), (0 : Int32), (2 : Int32), lxp, phs, pop, lxa, lxt, lxp, lxn, lxl, fHe, fHr, rsz, rkn, fRc)) else ((1 : Int32), (0 : Int32), (1 : Int32), lxp, phs, pop, lxa, lxt, lxp, lxn, lxl, fHe, fHr, rsz, rkn, fRc)))) else (if pop < 8 then (xL ((fp_hold phs fHe fHr lxt)) (fun u_8 => (xL ((fe_advance lxe lxa lxn lxl fBy fCo)) (fun u_15 => ((0 : Int32), (1 : Int32), pfa, pfp, u_8.1, (pop + 1), u_15.1, u_15.2.1, u_15.2.2.1, u_15.2.2.2.1, u_15.2.2.2.2, u_8.2.1, u_8.2.2, rsz, rkn, fRc))))) else ((1 : Int32), (0 : Int32), (2 : Int32), lxp, phs, pop, lxa, lxt, lxp, lxn, lxl, fHe, fHr, rsz, rkn, fRc))) else (if lxt = 21 then (xL ((fp_heldRank phs fHr)) (fun r_123 => (if r_123 ≤ 3 then (xL ((fp_countKnot pfa pfp lxp rkn)) (fun X_130 => (if X_130.1 = 1 then ((1 : Int32), (0 : Int32), X_130.2.1, X_130.2.2.1, phs, pop, lxa, lxt, lxp, lxn, lxl, fHe, fHr, rsz, X_130.2.2.2, fRc) else (xL ((fp_hold phs fHe fHr lxt)) (fun u_141 => (xL ((fe_advance lxe lxa lxn lxl fBy fCo)) (fun u_148 => ((0 : Int32), (1 : Int32), X_130.2.1, X_130.2.2.1, u_141.1, pop, u_148.1, u_148.2.1, u_148.2.2.1, u_148.2.2.2.1, u_148.2.2.2.2, u_141.2.1, u_141.2.2, rsz, X_130.2.2.2, fRc)))))))) else ((1 : Int32), (0 : Int32), (1 : Int32), lxp, phs, pop, lxa, lxt, lxp, lxn, lxl, fHe, fHr, rsz, rkn, fRc)))) else (if lxt = 24 then (if lxn ≤ 9999 then (xL ((fp_countKnot pfa pfp lxp rkn)) (fun X_63 => (if X_63.1 = 1 then ((1 : Int32), (0 : Int32), X_63.2.1, X_63.2.2.1, phs, pop, lxa, lxt, lxp, lxn, lxl, fHe, fHr, rsz, X_63.2.2.2, fRc) else (xL ((fp_put rsz fRc lxn)) (fun u_74 => (xL ((fe_advance lxe lxa lxn lxl fBy fCo)) (fun u_79 => ((0 : Int32), (0 : Int32), X_63.2.1, X_63.2.2.1, phs, pop, u_79.1, u_79.2.1, u_79.2.2.1, u_79.2.2.2.1, u_79.2.2.2.2, fHe, fHr, u_74.1, X_63.2.2.2, u_74.2)))))))) else ((1 : Int32), (0 : Int32), (2 : Int32), lxp, phs, pop, lxa, lxt, lxp, lxn, lxl, fHe, fHr, rsz, rkn, fRc)) else (xL (fr_isName lxt) (fun r_89 => (if r_89 = 0 then ((1 : Int32), (0 : Int32), (1 : Int32), lxp, phs, pop, lxa, lxt, lxp, lxn, lxl, fHe, fHr, rsz, rkn, fRc) else (xL ((fp_countKnot pfa pfp lxp rkn)) (fun X_95 => (if X_95.1 = 1 then ((1 : Int32), (0 : Int32), X_95.2.1, X_95.2.2.1, phs, pop, lxa, lxt, lxp, lxn, lxl, fHe, fHr, rsz, X_95.2.2.2, fRc) else (xL (fr_knotOf lxt) (fun r_105 => (xL ((fp_put rsz fRc r_105)) (fun u_107 => (xL ((fe_advance lxe lxa lxn lxl fBy fCo)) (fun u_112 => ((0 : Int32), (0 : Int32), X_95.2.1, X_95.2.2.1, phs, pop, u_112.1, u_112.2.1, u_112.2.2.1, u_112.2.2.2.1, u_112.2.2.2.2, fHe, fHr, u_107.1, X_95.2.2.2, u_107.2))))))))))))))))
theorem gp_readPart_s0  : (0 : Int32) = 0 := (by decide)
theorem gp_readPart_s1  : (0 : Int32) = 0 := (by decide)
theorem gp_readPart_s2 {y0 : Int32} (h0 : ¬ (y0 < 0)) : ¬ (y0 < 0) := h0
theorem gp_readPart_s3 {y0 : Int32} (h0 : ¬ (y0 < 0)) (h1 : y0 ≤ 72) : ¬ (y0 < 0) := h0
theorem gp_readPart_s4 {y0 : Int32} (h0 : ¬ (y0 < 0)) (h1 : y0 ≤ 72) : y0 ≤ 72 := h1
theorem gp_readPart_s5 {y0 : Int32} (h0 : ¬ (y0 < 0)) : ¬ (y0 < 0) := h0
theorem gp_readPart_s6  : ¬ ((1 : Int32) = 0) := (by decide)
theorem gp_readPart_s7  : (0 : Int32) = 0 := (by decide)
theorem gp_readPart_s8  : (0 : Int32) = 0 := (by decide)
theorem gp_readPart_s9 {y0 : Int32} (h0 : ¬ (y0 < 0)) : ¬ (y0 < 0) := h0
theorem gp_readPart_s10 {y0 : Int32} (h0 : ¬ (y0 < 0)) (h1 : y0 ≤ 72) : ¬ (y0 < 0) := h0
theorem gp_readPart_s11 {y0 : Int32} (h0 : ¬ (y0 < 0)) (h1 : y0 ≤ 72) : y0 ≤ 72 := h1
theorem gp_readPart_s12 {y0 : Int32} (h0 : ¬ (y0 < 0)) : ¬ (y0 < 0) := h0
theorem gp_readPart_s13  : ¬ ((1 : Int32) = 0) := (by decide)
theorem gp_readPart_s14  : ¬ ((1 : Int32) = 0) := (by decide)
theorem gp_readPart_s15  : (0 : Int32) = 0 := (by decide)
theorem gp_readPart_s16  : (0 : Int32) = 0 := (by decide)
theorem gp_readPart_s17 {y0 : Int32} (h0 : ¬ (y0 < 0)) : ¬ (y0 < 0) := h0
theorem gp_readPart_s18 {y0 : Int32} (h0 : ¬ (y0 < 0)) (h1 : y0 ≤ 72) : ¬ (y0 < 0) := h0
theorem gp_readPart_s19 {y0 : Int32} (h0 : ¬ (y0 < 0)) (h1 : y0 ≤ 72) : y0 ≤ 72 := h1
theorem gp_readPart_s20 {y0 : Int32} (h0 : ¬ (y0 < 0)) : ¬ (y0 < 0) := h0
theorem gp_readPart_s21  : ¬ ((1 : Int32) = 0) := (by decide)
theorem gp_readPart_s22  : (0 : Int32) = 0 := (by decide)
theorem gp_readPart_s23 {y0 : Int32} (h0 : ¬ (y0 < 0)) : ¬ (y0 < 0) := h0
theorem gp_readPart_s24 {y0 : Int32} (h0 : ¬ (y0 < 0)) (h1 : y0 ≤ 72) : ¬ (y0 < 0) := h0
theorem gp_readPart_s25 {y0 : Int32} (h0 : ¬ (y0 < 0)) (h1 : y0 ≤ 72) : y0 ≤ 72 := h1
theorem gp_readPart_s26 {y0 : Int32} (h0 : ¬ (y0 < 0)) : ¬ (y0 < 0) := h0
theorem gp_readPart_s27  : ¬ ((1 : Int32) = 0) := (by decide)
theorem gp_readPart_s28  : (0 : Int32) = 0 := (by decide)
theorem gp_readPart_s29 {y0 : Int32} (h0 : ¬ (y0 < 0)) : ¬ (y0 < 0) := h0
theorem gp_readPart_s30 {y0 : Int32} (h0 : ¬ (y0 < 0)) (h1 : y0 ≤ 72) : ¬ (y0 < 0) := h0
theorem gp_readPart_s31 {y0 : Int32} (h0 : ¬ (y0 < 0)) (h1 : y0 ≤ 72) : y0 ≤ 72 := h1
theorem gp_readPart_s32 {y0 : Int32} (h0 : ¬ (y0 < 0)) : ¬ (y0 < 0) := h0
theorem gp_readPart_s33  : ¬ ((1 : Int32) = 0) := (by decide)
theorem dX7_readPart_0 : decode cX7_readPart 0 = .ok (.aload_n 0, 1) := zk_42 (by decide +kernel)
theorem dX7_readPart_1 : decode cX7_readPart 1 = .ok (.getfield 12, 3) := zk_180 (by decide +kernel)
theorem dX7_readPart_4 : decode cX7_readPart 4 = .ok (.getfield 50, 3) := zk_180 (by decide +kernel)
theorem dX7_readPart_7 : decode cX7_readPart 7 = .ok (.istore_n 1, 1) := zk_60 (by decide +kernel)
theorem dX7_readPart_8 : decode cX7_readPart 8 = .ok (.iload_n 1, 1) := zk_27 (by decide +kernel)
theorem dX7_readPart_9 : decode cX7_readPart 9 = .ok (.bipush 26, 2) := zk_16 (by decide +kernel)
theorem dX7_readPart_11 : decode cX7_readPart 11 = .ok (.if_icmp .eq 9, 3) := zk_159 (by decide +kernel)
theorem dX7_readPart_20 : decode cX7_readPart 20 = .ok (.iconst 1, 1) := zk_4 (by decide +kernel)
theorem dX7_readPart_21 : decode cX7_readPart 21 = .ok (.goto 4, 3) := zk_167 (by decide +kernel)
theorem dX7_readPart_25 : decode cX7_readPart 25 = .ok (.istore_n 2, 1) := zk_61 (by decide +kernel)
theorem dX7_readPart_26 : decode cX7_readPart 26 = .ok (.iload_n 1, 1) := zk_27 (by decide +kernel)
theorem dX7_readPart_27 : decode cX7_readPart 27 = .ok (.bipush 21, 2) := zk_16 (by decide +kernel)
theorem dX7_readPart_29 : decode cX7_readPart 29 = .ok (.if_icmp .ne 15, 3) := zk_160 (by decide +kernel)
theorem dX7_readPart_44 : decode cX7_readPart 44 = .ok (.iconst 0, 1) := zk_3 (by decide +kernel)
theorem dX7_readPart_45 : decode cX7_readPart 45 = .ok (.istore_n 3, 1) := zk_62 (by decide +kernel)
theorem dX7_readPart_46 : decode cX7_readPart 46 = .ok (.aload_n 0, 1) := zk_42 (by decide +kernel)
theorem dX7_readPart_47 : decode cX7_readPart 47 = .ok (.iload_n 3, 1) := zk_29 (by decide +kernel)
theorem dX7_readPart_48 : decode cX7_readPart 48 = .ok (.ifCond .ne 20, 3) := zk_154 (by decide +kernel)
theorem dX7_readPart_51 : decode cX7_readPart 51 = .ok (.iload_n 2, 1) := zk_28 (by decide +kernel)
theorem dX7_readPart_52 : decode cX7_readPart 52 = .ok (.ifCond .ne 20, 3) := zk_154 (by decide +kernel)
theorem dX7_readPart_72 : decode cX7_readPart 72 = .ok (.iconst 0, 1) := zk_3 (by decide +kernel)
theorem dX7_readPart_73 : decode cX7_readPart 73 = .ok (.iconst 1, 1) := zk_4 (by decide +kernel)
theorem dX7_readPart_74 : decode cX7_readPart 74 = .ok (.aload_n 0, 1) := zk_42 (by decide +kernel)
theorem dX7_readPart_75 : decode cX7_readPart 75 = .ok (.getfield 12, 3) := zk_180 (by decide +kernel)
theorem dX7_readPart_78 : decode cX7_readPart 78 = .ok (.getfield 87, 3) := zk_180 (by decide +kernel)
theorem dX7_readPart_81 : decode cX7_readPart 81 = .ok (.invokevirtual 90, 3) := zk_182 (by decide +kernel)
theorem dX7_readPart_84 : decode cX7_readPart 84 = .ok (.iload_n 1, 1) := zk_27 (by decide +kernel)
theorem dX7_readPart_85 : decode cX7_readPart 85 = .ok (.bipush 26, 2) := zk_16 (by decide +kernel)
theorem dX7_readPart_87 : decode cX7_readPart 87 = .ok (.if_icmp .ne 47, 3) := zk_160 (by decide +kernel)
theorem dX7_readPart_90 : decode cX7_readPart 90 = .ok (.aload_n 0, 1) := zk_42 (by decide +kernel)
theorem dX7_readPart_91 : decode cX7_readPart 91 = .ok (.aload_n 0, 1) := zk_42 (by decide +kernel)
theorem dX7_readPart_92 : decode cX7_readPart 92 = .ok (.getfield 239, 3) := zk_180 (by decide +kernel)
theorem dX7_readPart_95 : decode cX7_readPart 95 = .ok (.bipush 8, 2) := zk_16 (by decide +kernel)
theorem dX7_readPart_97 : decode cX7_readPart 97 = .ok (.if_icmp .lt 7, 3) := zk_161 (by decide +kernel)
theorem dX7_readPart_104 : decode cX7_readPart 104 = .ok (.iconst 0, 1) := zk_3 (by decide +kernel)
theorem dX7_readPart_105 : decode cX7_readPart 105 = .ok (.iconst 2, 1) := zk_5 (by decide +kernel)
theorem dX7_readPart_106 : decode cX7_readPart 106 = .ok (.aload_n 0, 1) := zk_42 (by decide +kernel)
theorem dX7_readPart_107 : decode cX7_readPart 107 = .ok (.getfield 12, 3) := zk_180 (by decide +kernel)
theorem dX7_readPart_110 : decode cX7_readPart 110 = .ok (.getfield 87, 3) := zk_180 (by decide +kernel)
theorem dX7_readPart_113 : decode cX7_readPart 113 = .ok (.invokevirtual 90, 3) := zk_182 (by decide +kernel)
theorem dX7_readPart_116 : decode cX7_readPart 116 = .ok (.aload_n 0, 1) := zk_42 (by decide +kernel)
theorem dX7_readPart_117 : decode cX7_readPart 117 = .ok (.dup, 1) := zk_89 (by decide +kernel)
theorem dX7_readPart_118 : decode cX7_readPart 118 = .ok (.getfield 239, 3) := zk_180 (by decide +kernel)
theorem dX7_readPart_121 : decode cX7_readPart 121 = .ok (.iconst 1, 1) := zk_4 (by decide +kernel)
theorem dX7_readPart_122 : decode cX7_readPart 122 = .ok (.iadd, 1) := zk_96 (by decide +kernel)
theorem dX7_readPart_123 : decode cX7_readPart 123 = .ok (.putfield 239, 3) := zk_181 (by decide +kernel)
theorem dX7_readPart_126 : decode cX7_readPart 126 = .ok (.aload_n 0, 1) := zk_42 (by decide +kernel)
theorem dX7_readPart_127 : decode cX7_readPart 127 = .ok (.iload_n 1, 1) := zk_27 (by decide +kernel)
theorem dX7_readPart_128 : decode cX7_readPart 128 = .ok (.invokevirtual 273, 3) := zk_182 (by decide +kernel)
theorem dX7_readPart_131 : decode cX7_readPart 131 = .ok (.goto 99, 3) := zk_167 (by decide +kernel)
theorem dX7_readPart_230 : decode cX7_readPart 230 = .ok (.aload_n 0, 1) := zk_42 (by decide +kernel)
theorem dX7_readPart_231 : decode cX7_readPart 231 = .ok (.getfield 12, 3) := zk_180 (by decide +kernel)
theorem dX7_readPart_234 : decode cX7_readPart 234 = .ok (.invokevirtual 123, 3) := zk_182 (by decide +kernel)
theorem dX7_readPart_237 : decode cX7_readPart 237 = .ok (.iload_n 2, 1) := zk_28 (by decide +kernel)
theorem dX7_readPart_238 : decode cX7_readPart 238 = .ok (.ireturn, 1) := zk_172 (by decide +kernel)
theorem dX7_readPart_100 : decode cX7_readPart 100 = .ok (.iconst 1, 1) := zk_4 (by decide +kernel)
theorem dX7_readPart_101 : decode cX7_readPart 101 = .ok (.goto 4, 3) := zk_167 (by decide +kernel)
theorem dX7_readPart_32 : decode cX7_readPart 32 = .ok (.aload_n 0, 1) := zk_42 (by decide +kernel)
theorem dX7_readPart_33 : decode cX7_readPart 33 = .ok (.invokevirtual 265, 3) := zk_182 (by decide +kernel)
theorem dX7_readPart_36 : decode cX7_readPart 36 = .ok (.iconst 3, 1) := zk_6 (by decide +kernel)
theorem dX7_readPart_37 : decode cX7_readPart 37 = .ok (.if_icmp .le 7, 3) := zk_164 (by decide +kernel)
theorem dX7_readPart_40 : decode cX7_readPart 40 = .ok (.iconst 1, 1) := zk_4 (by decide +kernel)
theorem dX7_readPart_41 : decode cX7_readPart 41 = .ok (.goto 4, 3) := zk_167 (by decide +kernel)
theorem dX7_readPart_68 : decode cX7_readPart 68 = .ok (.iconst 1, 1) := zk_4 (by decide +kernel)
theorem dX7_readPart_69 : decode cX7_readPart 69 = .ok (.goto 4, 3) := zk_167 (by decide +kernel)
theorem dX7_readPart_14 : decode cX7_readPart 14 = .ok (.iload_n 1, 1) := zk_27 (by decide +kernel)
theorem dX7_readPart_15 : decode cX7_readPart 15 = .ok (.bipush 21, 2) := zk_16 (by decide +kernel)
theorem dX7_readPart_17 : decode cX7_readPart 17 = .ok (.if_icmp .ne 7, 3) := zk_160 (by decide +kernel)
theorem dX7_readPart_24 : decode cX7_readPart 24 = .ok (.iconst 0, 1) := zk_3 (by decide +kernel)
theorem dX7_readPart_55 : decode cX7_readPart 55 = .ok (.iload_n 1, 1) := zk_27 (by decide +kernel)
theorem dX7_readPart_56 : decode cX7_readPart 56 = .ok (.bipush 24, 2) := zk_16 (by decide +kernel)
theorem dX7_readPart_58 : decode cX7_readPart 58 = .ok (.if_icmp .eq 14, 3) := zk_159 (by decide +kernel)
theorem dX7_readPart_134 : decode cX7_readPart 134 = .ok (.iload_n 1, 1) := zk_27 (by decide +kernel)
theorem dX7_readPart_135 : decode cX7_readPart 135 = .ok (.bipush 21, 2) := zk_16 (by decide +kernel)
theorem dX7_readPart_137 : decode cX7_readPart 137 = .ok (.if_icmp .ne 15, 3) := zk_160 (by decide +kernel)
theorem dX7_readPart_152 : decode cX7_readPart 152 = .ok (.iload_n 1, 1) := zk_27 (by decide +kernel)
theorem dX7_readPart_153 : decode cX7_readPart 153 = .ok (.bipush 24, 2) := zk_16 (by decide +kernel)
theorem dX7_readPart_155 : decode cX7_readPart 155 = .ok (.if_icmp .ne 57, 3) := zk_160 (by decide +kernel)
theorem dX7_readPart_158 : decode cX7_readPart 158 = .ok (.aload_n 0, 1) := zk_42 (by decide +kernel)
theorem dX7_readPart_159 : decode cX7_readPart 159 = .ok (.aload_n 0, 1) := zk_42 (by decide +kernel)
theorem dX7_readPart_160 : decode cX7_readPart 160 = .ok (.getfield 12, 3) := zk_180 (by decide +kernel)
theorem dX7_readPart_163 : decode cX7_readPart 163 = .ok (.getfield 279, 3) := zk_180 (by decide +kernel)
theorem dX7_readPart_166 : decode cX7_readPart 166 = .ok (.sipush 9999, 3) := zk_17 (by decide +kernel)
theorem dX7_readPart_169 : decode cX7_readPart 169 = .ok (.if_icmp .le 7, 3) := zk_164 (by decide +kernel)
theorem dX7_readPart_176 : decode cX7_readPart 176 = .ok (.iconst 0, 1) := zk_3 (by decide +kernel)
theorem dX7_readPart_177 : decode cX7_readPart 177 = .ok (.iconst 2, 1) := zk_5 (by decide +kernel)
theorem dX7_readPart_178 : decode cX7_readPart 178 = .ok (.aload_n 0, 1) := zk_42 (by decide +kernel)
theorem dX7_readPart_179 : decode cX7_readPart 179 = .ok (.getfield 12, 3) := zk_180 (by decide +kernel)
theorem dX7_readPart_182 : decode cX7_readPart 182 = .ok (.getfield 87, 3) := zk_180 (by decide +kernel)
theorem dX7_readPart_185 : decode cX7_readPart 185 = .ok (.invokevirtual 90, 3) := zk_182 (by decide +kernel)
theorem dX7_readPart_188 : decode cX7_readPart 188 = .ok (.aload_n 0, 1) := zk_42 (by decide +kernel)
theorem dX7_readPart_189 : decode cX7_readPart 189 = .ok (.invokevirtual 276, 3) := zk_182 (by decide +kernel)
theorem dX7_readPart_192 : decode cX7_readPart 192 = .ok (.aload_n 0, 1) := zk_42 (by decide +kernel)
theorem dX7_readPart_193 : decode cX7_readPart 193 = .ok (.getfield 31, 3) := zk_180 (by decide +kernel)
theorem dX7_readPart_196 : decode cX7_readPart 196 = .ok (.getfield 258, 3) := zk_180 (by decide +kernel)
theorem dX7_readPart_199 : decode cX7_readPart 199 = .ok (.aload_n 0, 1) := zk_42 (by decide +kernel)
theorem dX7_readPart_200 : decode cX7_readPart 200 = .ok (.getfield 12, 3) := zk_180 (by decide +kernel)
theorem dX7_readPart_203 : decode cX7_readPart 203 = .ok (.getfield 279, 3) := zk_180 (by decide +kernel)
theorem dX7_readPart_206 : decode cX7_readPart 206 = .ok (.invokevirtual 282, 3) := zk_182 (by decide +kernel)
theorem dX7_readPart_209 : decode cX7_readPart 209 = .ok (.goto 21, 3) := zk_167 (by decide +kernel)
theorem dX7_readPart_172 : decode cX7_readPart 172 = .ok (.iconst 1, 1) := zk_4 (by decide +kernel)
theorem dX7_readPart_173 : decode cX7_readPart 173 = .ok (.goto 4, 3) := zk_167 (by decide +kernel)
theorem dX7_readPart_61 : decode cX7_readPart 61 = .ok (.iload_n 1, 1) := zk_27 (by decide +kernel)
theorem dX7_readPart_62 : decode cX7_readPart 62 = .ok (.invokestatic 269, 3) := zk_184 (by decide +kernel)
theorem dX7_readPart_65 : decode cX7_readPart 65 = .ok (.ifCond .ne 7, 3) := zk_154 (by decide +kernel)
theorem dX7_readPart_212 : decode cX7_readPart 212 = .ok (.aload_n 0, 1) := zk_42 (by decide +kernel)
theorem dX7_readPart_213 : decode cX7_readPart 213 = .ok (.invokevirtual 276, 3) := zk_182 (by decide +kernel)
theorem dX7_readPart_216 : decode cX7_readPart 216 = .ok (.aload_n 0, 1) := zk_42 (by decide +kernel)
theorem dX7_readPart_217 : decode cX7_readPart 217 = .ok (.getfield 31, 3) := zk_180 (by decide +kernel)
theorem dX7_readPart_220 : decode cX7_readPart 220 = .ok (.getfield 258, 3) := zk_180 (by decide +kernel)
theorem dX7_readPart_223 : decode cX7_readPart 223 = .ok (.iload_n 1, 1) := zk_27 (by decide +kernel)
theorem dX7_readPart_224 : decode cX7_readPart 224 = .ok (.invokestatic 285, 3) := zk_184 (by decide +kernel)
theorem dX7_readPart_227 : decode cX7_readPart 227 = .ok (.invokevirtual 282, 3) := zk_182 (by decide +kernel)
theorem dX7_readPart_140 : decode cX7_readPart 140 = .ok (.aload_n 0, 1) := zk_42 (by decide +kernel)
theorem dX7_readPart_141 : decode cX7_readPart 141 = .ok (.invokevirtual 276, 3) := zk_182 (by decide +kernel)
theorem dX7_readPart_144 : decode cX7_readPart 144 = .ok (.aload_n 0, 1) := zk_42 (by decide +kernel)
theorem dX7_readPart_145 : decode cX7_readPart 145 = .ok (.iload_n 1, 1) := zk_27 (by decide +kernel)
theorem dX7_readPart_146 : decode cX7_readPart 146 = .ok (.invokevirtual 273, 3) := zk_182 (by decide +kernel)
theorem dX7_readPart_149 : decode cX7_readPart 149 = .ok (.goto 81, 3) := zk_167 (by decide +kernel)
set_option maxHeartbeats 4000000 in
set_option maxRecDepth 100000 in
theorem gp_readPart (l : Launch) (hst : l.stackTraces = false) (dC : Nat → ClassId) (dI : Nat → Nat → Nat) (pa : Nat) (lx : Nat) (bk : Nat) (pfa : Int32) (pfp : Int32) (psk : Int32) (phe : Nat) (phr : Nat) (phs : Int32) (pop : Int32) (lby : Nat) (lfi : Int32) (lco : Nat) (lxe : Int32) (lxa : Int32) (lxt : Int32) (lxp : Int32) (lxn : Int32) (lxl : Int32) (cBy : ClassId) (fBy : Nat → Int32) (cCo : ClassId) (fCo : Nat → Int32) (cHe : ClassId) (fHe : Nat → Int32) (cHr : ClassId) (fHr : Nat → Int32) (bto : Nat) (bnm : Nat) (bla : Nat) (bsk : Nat) (bru : Nat) (bbo : Nat) (bdi : Nat) (bda : Nat) (bdk : Nat) (bdt : Nat) (bdp : Nat) (bno : Nat) (rco : Nat) (rsz : Int32) (ren : Nat) (rst : Nat) (rkn : Int32) (cRc : ClassId) (fRc : Nat → Int32) (sL : Nat → Nat) (sz : Nat) (h0_lxa : ¬ lxa < 0) (h9_lxe : lxe ≤ 900) (h0_phs : ¬ phs < 0) (h7_phs : phs ≤ 72) (h0_rsz : ¬ rsz < 0) : vx_Met l yX7_readPart (Cond.code yX7_readPart cX7_readPart 4 (some .boolean) :: wsL_law) ({ frames := 8, cells := 1, slots := 6, locals := 125 }) (va_Pc [.ref pa] (fun U => U.heap.size = sz ∧ va_P (dC, dI) vwCl [(eO7a pa lx bk pfa pfp psk phe phr phs pop), (eO3a lx lby lfi lco lxe lxa lxt lxp lxn lxl), (eA0 lby cBy 900 fBy), (eA0 lco cCo 23 fCo), (eA0 phe cHe 72 fHe), (eA0 phr cHr 72 fHr), (eO0a bk bto bnm bla bsk bru bbo bdi bda bdk bdt bdp bno), (eO8a bru rco rsz ren rst rkn), (eA0 rco cRc 64 fRc)] U.heap ∧ va_K (dC, dI) vwCl [(cBy, .byte), (cCo, .int), (cHe, .int), (cHr, .int), (cRc, .int)] U ∧ va_D (fun _ => True) [(eO7a pa lx bk pfa pfp psk phe phr phs pop), (eO3a lx lby lfi lco lxe lxa lxt lxp lxn lxl), (eA0 lby cBy 900 fBy), (eA0 lco cCo 23 fCo), (eA0 phe cHe 72 fHe), (eA0 phr cHr 72 fHr), (eO0a bk bto bnm bla bsk bru bbo bdi bda bdk bdt bdp bno), (eO8a bru rco rsz ren rst rkn), (eA0 rco cRc 64 fRc)] ∧ xl sL (va_A [(eO7a pa lx bk pfa pfp psk phe phr phs pop), (eO3a lx lby lfi lco lxe lxa lxt lxp lxn lxl), (eA0 lby cBy 900 fBy), (eA0 lco cCo 23 fCo), (eA0 phe cHe 72 fHe), (eA0 phr cHr 72 fHr), (eO0a bk bto bnm bla bsk bru bbo bdi bda bdk bdt bdp bno), (eO8a bru rco rsz ren rst rkn), (eA0 rco cRc 64 fRc)] sz) U U.heap)) (va_Qi (fun (r : Int32) (u : (Int32) × (Int32) × (Int32) × (Int32) × (Int32) × (Int32) × (Int32) × (Int32) × (Int32) × (Nat → Int32) × (Nat → Int32) × (Int32) × (Int32) × (Nat → Int32)) => ((fp_readPart pfa pfp phs pop lxe lxa lxt lxp lxn lxl fBy fCo fHe fHr rsz rkn fRc).1 = 0 ∧ r = (fp_readPart pfa pfp phs pop lxe lxa lxt lxp lxn lxl fBy fCo fHe fHr rsz rkn fRc).2.1 ∧ u = (fp_readPart pfa pfp phs pop lxe lxa lxt lxp lxn lxl fBy fCo fHe fHr rsz rkn fRc).2.2) ∧ (r = 0 ∨ r = 1) ∧ (¬ u.2.2.2.2.1 < 0) ∧ (¬ u.2.2.1 < 0) ∧ (u.2.2.1 ≤ 72) ∧ (¬ u.2.2.2.2.2.2.2.2.2.2.2.1 < 0)) (fun (u : (Int32) × (Int32) × (Int32) × (Int32) × (Int32) × (Int32) × (Int32) × (Int32) × (Int32) × (Nat → Int32) × (Nat → Int32) × (Int32) × (Int32) × (Nat → Int32)) t => (va_P (dC, dI) vwCl [(eO7a pa lx bk u.1 u.2.1 psk phe phr u.2.2.1 u.2.2.2.1), (eO3a lx lby lfi lco lxe u.2.2.2.2.1 u.2.2.2.2.2.1 u.2.2.2.2.2.2.1 u.2.2.2.2.2.2.2.1 u.2.2.2.2.2.2.2.2.1), (eA0 lby cBy 900 fBy), (eA0 lco cCo 23 fCo), (eA0 phe cHe 72 u.2.2.2.2.2.2.2.2.2.1), (eA0 phr cHr 72 u.2.2.2.2.2.2.2.2.2.2.1), (eO0a bk bto bnm bla bsk bru bbo bdi bda bdk bdt bdp bno), (eO8a bru rco u.2.2.2.2.2.2.2.2.2.2.2.1 ren rst u.2.2.2.2.2.2.2.2.2.2.2.2.1), (eA0 rco cRc 64 u.2.2.2.2.2.2.2.2.2.2.2.2.2)] t.heap ∧ va_K (dC, dI) vwCl [] t ∧ va_D (va_A [(eO7a pa lx bk pfa pfp psk phe phr phs pop), (eO3a lx lby lfi lco lxe lxa lxt lxp lxn lxl), (eA0 lby cBy 900 fBy), (eA0 lco cCo 23 fCo), (eA0 phe cHe 72 fHe), (eA0 phr cHr 72 fHr), (eO0a bk bto bnm bla bsk bru bbo bdi bda bdk bdt bdp bno), (eO8a bru rco rsz ren rst rkn), (eA0 rco cRc 64 fRc)] sz) [(eO7a pa lx bk u.1 u.2.1 psk phe phr u.2.2.1 u.2.2.2.1), (eO3a lx lby lfi lco lxe u.2.2.2.2.1 u.2.2.2.2.2.1 u.2.2.2.2.2.2.1 u.2.2.2.2.2.2.2.1 u.2.2.2.2.2.2.2.2.1), (eA0 lby cBy 900 fBy), (eA0 lco cCo 23 fCo), (eA0 phe cHe 72 u.2.2.2.2.2.2.2.2.2.1), (eA0 phr cHr 72 u.2.2.2.2.2.2.2.2.2.2.1), (eO0a bk bto bnm bla bsk bru bbo bdi bda bdk bdt bdp bno), (eO8a bru rco u.2.2.2.2.2.2.2.2.2.2.2.1 ren rst u.2.2.2.2.2.2.2.2.2.2.2.2.1), (eA0 rco cRc 64 u.2.2.2.2.2.2.2.2.2.2.2.2.2)]) ∧ t.heap.size = sz) (va_A [(eO7a pa lx bk pfa pfp psk phe phr phs pop), (eO3a lx lby lfi lco lxe lxa lxt lxp lxn lxl), (eA0 lby cBy 900 fBy), (eA0 lco cCo 23 fCo), (eA0 phe cHe 72 fHe), (eA0 phr cHr 72 fHr), (eO0a bk bto bnm bla bsk bru bbo bdi bda bdk bdt bdp bno), (eO8a bru rco rsz ren rst rkn), (eA0 rco cRc 64 fRc)] sz)) (vx_X (fun (u : (Int32) × (Int32) × (Int32) × (Int32) × (Int32) × (Int32) × (Int32) × (Int32) × (Int32) × (Nat → Int32) × (Nat → Int32) × (Int32) × (Int32) × (Nat → Int32)) => (fp_readPart pfa pfp phs pop lxe lxa lxt lxp lxn lxl fBy fCo fHe fHr rsz rkn fRc).1 = 1 ∧ u = (fp_readPart pfa pfp phs pop lxe lxa lxt lxp lxn lxl fBy fCo fHe fHr rsz rkn fRc).2.2) (fun (E : String) (u : (Int32) × (Int32) × (Int32) × (Int32) × (Int32) × (Int32) × (Int32) × (Int32) × (Int32) × (Nat → Int32) × (Nat → Int32) × (Int32) × (Int32) × (Nat → Int32)) (t : State) => E = "java/lang/IllegalStateException" ∧ va_P (dC, dI) vwCl [(eO7a pa lx bk u.1 u.2.1 psk phe phr u.2.2.1 u.2.2.2.1), (eO3a lx lby lfi lco lxe u.2.2.2.2.1 u.2.2.2.2.2.1 u.2.2.2.2.2.2.1 u.2.2.2.2.2.2.2.1 u.2.2.2.2.2.2.2.2.1), (eA0 lby cBy 900 fBy), (eA0 lco cCo 23 fCo), (eA0 phe cHe 72 u.2.2.2.2.2.2.2.2.2.1), (eA0 phr cHr 72 u.2.2.2.2.2.2.2.2.2.2.1), (eO0a bk bto bnm bla bsk bru bbo bdi bda bdk bdt bdp bno), (eO8a bru rco u.2.2.2.2.2.2.2.2.2.2.2.1 ren rst u.2.2.2.2.2.2.2.2.2.2.2.2.1), (eA0 rco cRc 64 u.2.2.2.2.2.2.2.2.2.2.2.2.2)] t.heap ∧ va_K (dC, dI) vwCl [] t ∧ va_D (va_A [(eO7a pa lx bk pfa pfp psk phe phr phs pop), (eO3a lx lby lfi lco lxe lxa lxt lxp lxn lxl), (eA0 lby cBy 900 fBy), (eA0 lco cCo 23 fCo), (eA0 phe cHe 72 fHe), (eA0 phr cHr 72 fHr), (eO0a bk bto bnm bla bsk bru bbo bdi bda bdk bdt bdp bno), (eO8a bru rco rsz ren rst rkn), (eA0 rco cRc 64 fRc)] sz) [(eO7a pa lx bk u.1 u.2.1 psk phe phr u.2.2.1 u.2.2.2.1), (eO3a lx lby lfi lco lxe u.2.2.2.2.1 u.2.2.2.2.2.1 u.2.2.2.2.2.2.1 u.2.2.2.2.2.2.2.1 u.2.2.2.2.2.2.2.2.1), (eA0 lby cBy 900 fBy), (eA0 lco cCo 23 fCo), (eA0 phe cHe 72 u.2.2.2.2.2.2.2.2.2.1), (eA0 phr cHr 72 u.2.2.2.2.2.2.2.2.2.2.1), (eO0a bk bto bnm bla bsk bru bbo bdi bda bdk bdt bdp bno), (eO8a bru rco u.2.2.2.2.2.2.2.2.2.2.2.1 ren rst u.2.2.2.2.2.2.2.2.2.2.2.2.1), (eA0 rco cRc 64 u.2.2.2.2.2.2.2.2.2.2.2.2.2)]) (va_A [(eO7a pa lx bk pfa pfp psk phe phr phs pop), (eO3a lx lby lfi lco lxe lxa lxt lxp lxn lxl), (eA0 lby cBy 900 fBy), (eA0 lco cCo 23 fCo), (eA0 phe cHe 72 fHe), (eA0 phr cHr 72 fHr), (eO0a bk bto bnm bla bsk bru bbo bdi bda bdk bdt bdp bno), (eO8a bru rco rsz ren rst rkn), (eA0 rco cRc 64 fRc)] sz)) 1 6 (va_A [(eO7a pa lx bk pfa pfp psk phe phr phs pop), (eO3a lx lby lfi lco lxe lxa lxt lxp lxn lxl), (eA0 lby cBy 900 fBy), (eA0 lco cCo 23 fCo), (eA0 phe cHe 72 fHe), (eA0 phr cHr 72 fHr), (eO0a bk bto bnm bla bsk bru bbo bdi bda bdk bdt bdp bno), (eO8a bru rco rsz ren rst rkn), (eA0 rco cRc 64 fRc)] sz) := by
  refine vx_ofW (cc := cX7_readPart) (maxL := 4) (ret := (some .boolean)) (by decide) rfl ?_
  intro p e s m args below meth c s₁ B hml hex hv
  obtain ⟨rfl, hsz, hP, hK, hD0, hXL⟩ := hv
  have hx := B.exec
  have hb := B.bytes
  have hr := B.returns
  have hts := atoms_spec (ws := Cond.code yX7_readPart cX7_readPart 4 (some .boolean) :: wsL_law) B.pre
  have htw : ∀ w ∈ wsL_law, w.before _ s = true := fun w h => hts w (List.mem_cons_of_mem _ h)
  have hown : s.vm.findClass RX7 = some m.cls := findClass_of_methodNamed B.named
  have hlocks := B.notSynchronized
  subst hsz
  have hD := hD0.self (sz := s.heap.size)
  generalize hAe : va_A [(eO7a pa lx bk pfa pfp psk phe phr phs pop), (eO3a lx lby lfi lco lxe lxa lxt lxp lxn lxl), (eA0 lby cBy 900 fBy), (eA0 lco cCo 23 fCo), (eA0 phe cHe 72 fHe), (eA0 phr cHr 72 fHr), (eO0a bk bto bnm bla bsk bru bbo bdi bda bdk bdt bdp bno), (eO8a bru rco rsz ren rst rkn), (eA0 rco cRc 64 fRc)] s.heap.size = A at hD hXL ⊢
  have hA : ∀ q : Nat, s.heap.size ≤ q → A q := fun q h => by rw [← hAe]; exact Or.inr h
  obtain ⟨H, rH⟩ : ∃ z : Heap, z = s.heap := ⟨_, rfl⟩
  have hS : va_S A s.heap H [] := by rw [rH]; exact va_S.rf
  have hP : va_P (dC, dI) vwCl [(eO7a pa lx bk pfa pfp psk phe phr phs pop), (eO3a lx lby lfi lco lxe lxa lxt lxp lxn lxl), (eA0 lby cBy 900 fBy), (eA0 lco cCo 23 fCo), (eA0 phe cHe 72 fHe), (eA0 phr cHr 72 fHr), (eO0a bk bto bnm bla bsk bru bbo bdi bda bdk bdt bdp bno), (eO8a bru rco rsz ren rst rkn), (eA0 rco cRc 64 fRc)] H := by rw [rH]; exact hP
  rw [← rH]
  have hl := lv_entry ([.ref pa]) (n := 4) (Nat.le_of_ble_eq_true rfl)
  rw [lg_entry_eq]
  generalize (lg_sl ([.ref pa]) ++ List.replicate (4 - (lg_sl ([.ref pa])).length) Slot.unset).toArray = ls at hl ⊢
  have hl : lv_has ls 4 [(0, .ref pa)] := hl
  refine lv_aload_n hx hb dX7_readPart_0 rfl (lv_at hl 0 rfl) ?_
  refine va_get (D := (dC, dI)) (ci := 7) (v := .ref lx) (C := RX7) (T := TX7) (N := 9) hx hb htw inlX7 hown hK hP 0 rfl rfl 0 (by decide) (htw _ (ck_3 _ (List.mem_of_getElem? (i := 5) rfl))) (fun _ h9 => h9) rfl dX7_readPart_1 ?_
  refine va_get (D := (dC, dI)) (ci := 3) (v := .int lxt) (C := RX3) (T := TX3) (N := 9) hx hb htw inlX3 hown hK hP 1 rfl rfl 5 (by decide) (htw _ (ck_13 _ (List.mem_of_getElem? (i := 9) rfl))) (fun _ h9 => h9) rfl dX7_readPart_4 ?_
  refine lv_istore_n (lv' := [(1, .int lxt), (0, .ref pa)]) hx hb dX7_readPart_7 rfl hl (by decide) rfl (fun ls hl => ?_)
  refine lv_iload_n hx hb dX7_readPart_8 rfl (lv_at hl 0 rfl) ?_
  refine lv_bipush (v := 26) hx hb dX7_readPart_9 (by decide) ?_
  refine lv_icmp_eq (tgt := 20) hx hb dX7_readPart_11 (by decide) (fun c_1 => ?_) (fun c_1 => ?_)
  · refine lv_iconst (v := 1) hx hb dX7_readPart_20 (by decide) ?_
    refine lv_goto (tgt := 25) hx hb dX7_readPart_21 (by decide) ?_
    refine lv_istore_n (lv' := [(2, .int 1), (1, .int lxt), (0, .ref pa)]) hx hb dX7_readPart_25 rfl hl (by decide) rfl (fun ls hl => ?_)
    refine lv_iload_n hx hb dX7_readPart_26 rfl (lv_at hl 1 rfl) ?_
    refine lv_bipush (v := 21) hx hb dX7_readPart_27 (by decide) ?_
    refine lv_icmp_ne (tgt := 44) hx hb dX7_readPart_29 (by decide) (fun c_2 => ?_) (fun c_2 => ?_)
    · refine lv_iconst (v := 0) hx hb dX7_readPart_44 (by decide) ?_
      refine lv_istore_n (lv' := [(3, .int 0), (2, .int 1), (1, .int lxt), (0, .ref pa)]) hx hb dX7_readPart_45 rfl hl (by decide) rfl (fun ls hl => ?_)
      refine lv_aload_n hx hb dX7_readPart_46 rfl (lv_at hl 3 rfl) ?_
      refine lv_iload_n hx hb dX7_readPart_47 rfl (lv_at hl 0 rfl) ?_
      refine lv_if_ne (tgt := 68) hx hb dX7_readPart_48 (by decide) (fun c => absurd c (by decide)) (fun _ => ?_)
      refine lv_iload_n hx hb dX7_readPart_51 rfl (lv_at hl 1 rfl) ?_
      refine lv_if_ne (tgt := 72) hx hb dX7_readPart_52 (by decide) (fun _ => ?_) (fun c => absurd c (by decide))
      refine lv_iconst (v := 0) hx hb dX7_readPart_72 (by decide) ?_
      refine lv_iconst (v := 1) hx hb dX7_readPart_73 (by decide) ?_
      refine lv_aload_n hx hb dX7_readPart_74 rfl (lv_at hl 3 rfl) ?_
      refine va_get (D := (dC, dI)) (ci := 7) (v := .ref lx) (C := RX7) (T := TX7) (N := 9) hx hb htw inlX7 hown hK hP 0 rfl rfl 0 (by decide) (htw _ (ck_3 _ (List.mem_of_getElem? (i := 5) rfl))) (fun _ h9 => h9) rfl dX7_readPart_75 ?_
      refine va_get (D := (dC, dI)) (ci := 3) (v := .int lxp) (C := RX3) (T := TX3) (N := 9) hx hb htw inlX3 hown hK hP 1 rfl rfl 6 (by decide) (htw _ (ck_15 _ (List.mem_of_getElem? (i := 13) rfl))) (fun _ h9 => h9) rfl dX7_readPart_78 ?_
      have hPc := hP.sub (ws' := []) [] rfl
      have hKc := hK.sub (tys' := []) [] rfl
      refine va_csv (W.runV (As := [.int 0, .int 1, .int lxp]) (rest := []) ⟨hx, hb, hml, hown, htw⟩ (gp_ref0 l dC dI (0 : Int32) (1 : Int32) lxp pa (gp_readPart_s0 )) (cwV 3 htw (xg_V (ck_16 _ (List.mem_of_getElem? (i := 6) rfl)) (ck_16 _ (List.mem_of_getElem? (i := 7) rfl)) (ck_16 _ (List.mem_of_getElem? (i := 8) rfl)) (ck_1 _ (List.mem_of_getElem? (i := 16) rfl)) (ck_16 _ (List.mem_of_getElem? (i := 9) rfl))) rfl rfl rfl (by exact ⟨rfl, hdc_15.1, hdc_15.2, hdd_48⟩) ⟨Nat.le_of_ble_eq_true rfl, Nat.le_of_ble_eq_true rfl⟩) ⟨fun a U g mk q => by obtain ⟨q0, qP, qK⟩ := q; exact ⟨q0, qP, va_K.moved (u := U) (U := U.calling g mk a) (Vm.Alike.refl U.vm) qK⟩, va_recv hK hP (ci := 7) (q0 := 0) rfl rfl, fun U hU hW => ⟨rfl, by rw [hU]; exact hPc, va_K.moved hW.alike hKc⟩⟩ rfl rfl hl.1 rfl (lv_room (Nat.le_of_ble_eq_true rfl)) dX7_readPart_81 ⟨Nat.le_of_ble_eq_true rfl, Nat.le_of_ble_eq_true rfl⟩) (fun hw => ?_)
      try dsimp only at hw
      refine lv_iload_n hx hb dX7_readPart_84 rfl (lv_at hl 2 rfl) ?_
      refine lv_bipush (v := 26) hx hb dX7_readPart_85 (by decide) ?_
      refine lv_icmp_ne (tgt := 134) hx hb dX7_readPart_87 (by decide) (fun c_4 => absurd c_4 (fun h9 => h9 c_1)) (fun c_4 => ?_)
      refine lv_aload_n hx hb dX7_readPart_90 rfl (lv_at hl 3 rfl) ?_
      refine lv_aload_n hx hb dX7_readPart_91 rfl (lv_at hl 3 rfl) ?_
      refine va_get (D := (dC, dI)) (ci := 7) (v := .int pop) (C := RX7) (T := TX7) (N := 9) hx hb htw inlX7 hown hK hP 0 rfl rfl 8 (by decide) (htw _ (ck_18 _ (List.mem_of_getElem? (i := 10) rfl))) (fun _ h9 => h9) rfl dX7_readPart_92 ?_
      refine lv_bipush (v := 8) hx hb dX7_readPart_95 (by decide) ?_
      refine lv_icmp_lt (tgt := 104) hx hb dX7_readPart_97 (by decide) (fun c_5 => ?_) (fun c_5 => ?_)
      · refine lv_iconst (v := 0) hx hb dX7_readPart_104 (by decide) ?_
        refine lv_iconst (v := 2) hx hb dX7_readPart_105 (by decide) ?_
        refine lv_aload_n hx hb dX7_readPart_106 rfl (lv_at hl 3 rfl) ?_
        refine va_get (D := (dC, dI)) (ci := 7) (v := .ref lx) (C := RX7) (T := TX7) (N := 9) hx hb htw inlX7 hown hK hP 0 rfl rfl 0 (by decide) (htw _ (ck_3 _ (List.mem_of_getElem? (i := 5) rfl))) (fun _ h9 => h9) rfl dX7_readPart_107 ?_
        refine va_get (D := (dC, dI)) (ci := 3) (v := .int lxp) (C := RX3) (T := TX3) (N := 9) hx hb htw inlX3 hown hK hP 1 rfl rfl 6 (by decide) (htw _ (ck_15 _ (List.mem_of_getElem? (i := 13) rfl))) (fun _ h9 => h9) rfl dX7_readPart_110 ?_
        have hPc := hP.sub (ws' := []) [] rfl
        have hKc := hK.sub (tys' := []) [] rfl
        refine va_csv (W.runV (As := [.int 0, .int 2, .int lxp]) (rest := []) ⟨hx, hb, hml, hown, htw⟩ (gp_ref0 l dC dI (0 : Int32) (2 : Int32) lxp pa (gp_readPart_s1 )) (cwV 3 htw (xg_V (ck_16 _ (List.mem_of_getElem? (i := 6) rfl)) (ck_16 _ (List.mem_of_getElem? (i := 7) rfl)) (ck_16 _ (List.mem_of_getElem? (i := 8) rfl)) (ck_1 _ (List.mem_of_getElem? (i := 16) rfl)) (ck_16 _ (List.mem_of_getElem? (i := 9) rfl))) rfl rfl rfl (by exact ⟨rfl, hdc_15.1, hdc_15.2, hdd_48⟩) ⟨Nat.le_of_ble_eq_true rfl, Nat.le_of_ble_eq_true rfl⟩) ⟨fun a U g mk q => by obtain ⟨q0, qP, qK⟩ := q; exact ⟨q0, qP, va_K.moved (u := U) (U := U.calling g mk a) (Vm.Alike.refl U.vm) qK⟩, va_recv hK hP (ci := 7) (q0 := 0) rfl rfl, fun U hU hW => ⟨rfl, by rw [hU]; exact hPc, va_K.moved hW.alike hKc⟩⟩ rfl rfl hl.1 rfl (lv_room (Nat.le_of_ble_eq_true rfl)) dX7_readPart_113 ⟨Nat.le_of_ble_eq_true rfl, Nat.le_of_ble_eq_true rfl⟩) (fun hw => ?_)
        try dsimp only at hw
        refine lv_aload_n hx hb dX7_readPart_116 rfl (lv_at hl 3 rfl) ?_
        refine lv_dup hx hb dX7_readPart_117 rfl ?_
        refine va_get (D := (dC, dI)) (ci := 7) (v := .int pop) (C := RX7) (T := TX7) (N := 9) hx hb htw inlX7 hown hK hP 0 rfl rfl 8 (by decide) (htw _ (ck_18 _ (List.mem_of_getElem? (i := 10) rfl))) (fun _ h9 => h9) rfl dX7_readPart_118 ?_
        refine lv_iconst (v := 1) hx hb dX7_readPart_121 (by decide) ?_
        refine lv_iadd hx hb dX7_readPart_122 ?_
        refine va_put (D := (dC, dI)) (ci := 7) (v := .int (pop + 1)) (ty := tyX7 8) (C := RX7) (T := TX7) (N := 9) hx hb htw inlX7 tyX7 tyX7_ok nmX7 hown hK hP hD hS 0 rfl rfl 8 (by decide) (htw _ (ck_18 _ (List.mem_of_getElem? (i := 10) rfl))) (fun _ h9 => h9) rfl (tyX7_ok 8 (by decide)) rfl rfl (Nat.le_of_ble_eq_true rfl) dX7_readPart_123 (fun H locs hP hD hS => ?_)
        obtain ⟨hP, hD⟩ := zre [(eO7a pa lx bk pfa pfp psk phe phr phs (pop + 1)), (eO3a lx lby lfi lco lxe lxa lxt lxp lxn lxl), (eA0 lby cBy 900 fBy), (eA0 lco cCo 23 fCo), (eA0 phe cHe 72 fHe), (eA0 phr cHr 72 fHr), (eO0a bk bto bnm bla bsk bru bbo bdi bda bdk bdt bdp bno), (eO8a bru rco rsz ren rst rkn), (eA0 rco cRc 64 fRc)] hP hD rfl
        refine lv_aload_n hx hb dX7_readPart_126 rfl (lv_at hl 3 rfl) ?_
        refine lv_iload_n hx hb dX7_readPart_127 rfl (lv_at hl 2 rfl) ?_
        obtain ⟨hPc, hDc, hFc, hCc⟩ := zsub3 (ws' := [(eO7a pa lx bk pfa pfp psk phe phr phs (pop + 1)), (eA0 phe cHe 72 fHe), (eA0 phr cHr 72 fHr)]) hP hD hS hA [0, 4, 5] (by decide) rfl
        have hKc := hK.sub (tys' := [(cHe, .int), (cHr, .int)]) [2, 3] rfl
        refine va_callv (va_runV (As := [.int lxt]) (rest := []) ⟨hx, hb, hml, hown, htw⟩ (gp_hold l dC dI pa lx bk pfa pfp psk phe phr phs (pop + 1) cHe fHe cHr fHr lxt H.size h0_phs h7_phs) (cwV 1 htw (xg_V (ck_18 _ (List.mem_of_getElem? (i := 23) rfl)) (ck_19 _ (List.mem_of_getElem? (i := 0) rfl)) (ck_19 _ (List.mem_of_getElem? (i := 1) rfl)) (ck_1 _ (List.mem_of_getElem? (i := 16) rfl)) (ck_19 _ (List.mem_of_getElem? (i := 2) rfl))) rfl rfl rfl (by exact ⟨rfl, hdc_15.1, hdc_15.2, hdd_9⟩) ⟨Nat.le_of_ble_eq_true rfl, Nat.le_of_ble_eq_true rfl⟩) ⟨fun a U g mk q => by obtain ⟨q0, q1, qP, qK, qD⟩ := q; exact ⟨q0, q1, qP, va_K.moved (u := U) (U := U.calling g mk a) (Vm.Alike.refl U.vm) qK, qD⟩, va_recv hKc hPc (ci := 7) (q0 := 0) rfl rfl, fun U hU hW => ⟨rfl, by rw [hU], by rw [hU]; exact hPc, va_K.moved hW.alike hKc, hDc.weaken (fun _ _ _ _ => trivial)⟩⟩ rfl rfl hl.1 rfl (lv_room (Nat.le_of_ble_eq_true rfl)) dX7_readPart_128 ⟨Nat.le_of_ble_eq_true rfl, Nat.le_of_ble_eq_true rfl⟩) hS (fun q _ h => hFc q h) hFc (fun u_8 t H1 locs ht hvm hw hB hz1 hk1 hS => ?_)
        try dsimp only at hw
        obtain ⟨hP1, hK1, hD1⟩ := hB
        rw [ht] at hP1
        have hK1 := va_K.moved hvm.symm hK1
        have hK1 : va_K (dC, dI) vwCl [] s := hK1
        obtain ⟨hP, hD⟩ := va_join (wr := [(eO3a lx lby lfi lco lxe lxa lxt lxp lxn lxl), (eA0 lby cBy 900 fBy), (eA0 lco cCo 23 fCo), (eO0a bk bto bnm bla bsk bru bbo bdi bda bdk bdt bdp bno), (eO8a bru rco rsz ren rst rkn), (eA0 rco cRc 64 fRc)]) (w1 := [(eO7a pa lx bk pfa pfp psk phe phr u_8.1 (pop + 1)), (eA0 phe cHe 72 u_8.2.1), (eA0 phr cHr 72 u_8.2.2)]) hP hD [0, 4, 5] [1, 2, 3, 6, 7, 8] hCc rfl (by decide) (by decide) hk1 hFc hP1 hD1
        generalize H1 = H at hP hS ⊢
        obtain ⟨hP, hD⟩ := zre [(eO3a lx lby lfi lco lxe lxa lxt lxp lxn lxl), (eA0 lby cBy 900 fBy), (eA0 lco cCo 23 fCo), (eO0a bk bto bnm bla bsk bru bbo bdi bda bdk bdt bdp bno), (eO8a bru rco rsz ren rst rkn), (eA0 rco cRc 64 fRc), (eO7a pa lx bk pfa pfp psk phe phr u_8.1 (pop + 1)), (eA0 phe cHe 72 u_8.2.1), (eA0 phr cHr 72 u_8.2.2)] hP hD rfl
        refine W.widen (k := 0) (n := 0) (by omega) (by omega) ?_
        obtain ⟨hw, hp_12, hp_13⟩ := hw
        have hq_u_8 : u_8 = (fp_hold phs fHe fHr lxt) := hw
        refine lv_goto (tgt := 230) hx hb dX7_readPart_131 (by decide) ?_
        refine lv_aload_n hx hb dX7_readPart_230 rfl (lv_at hl 3 rfl) ?_
        refine va_get (D := (dC, dI)) (ci := 7) (v := .ref lx) (C := RX7) (T := TX7) (N := 9) hx hb htw inlX7 hown hK hP 6 rfl rfl 0 (by decide) (htw _ (ck_3 _ (List.mem_of_getElem? (i := 5) rfl))) (fun _ h9 => h9) rfl dX7_readPart_231 ?_
        obtain ⟨hPc, hDc, hFc, hCc⟩ := zsub3 (ws' := [(eO3a lx lby lfi lco lxe lxa lxt lxp lxn lxl), (eA0 lby cBy 900 fBy), (eA0 lco cCo 23 fCo)]) hP hD hS hA [0, 1, 2] (by decide) rfl
        have hKc := hK.sub (tys' := [(cBy, .byte), (cCo, .int)]) [0, 1] rfl
        refine va_callv (va_runV (As := []) (rest := []) ⟨hx, hb, hml, hown, htw⟩ (gz_advance l dC dI lx lby lfi lco lxe lxa lxt lxp lxn lxl cBy fBy cCo fCo H.size h0_lxa h9_lxe) (cwV 0 htw (xg_V (ck_16 _ (List.mem_of_getElem? (i := 11) rfl)) (ck_14 _ (List.mem_of_getElem? (i := 13) rfl)) (ck_14 _ (List.mem_of_getElem? (i := 14) rfl)) (ck_3 _ (List.mem_of_getElem? (i := 4) rfl)) (ck_14 _ (List.mem_of_getElem? (i := 15) rfl))) rfl rfl rfl (by exact ⟨rfl, hdc_4.1, hdc_4.2, hdd_13⟩) ⟨Nat.le_of_ble_eq_true rfl, Nat.le_of_ble_eq_true rfl⟩) ⟨fun a U g mk q => by obtain ⟨q0, q1, qP, qK, qD⟩ := q; exact ⟨q0, q1, qP, va_K.moved (u := U) (U := U.calling g mk a) (Vm.Alike.refl U.vm) qK, qD⟩, va_recv hKc hPc (ci := 3) (q0 := 0) rfl rfl, fun U hU hW => ⟨rfl, by rw [hU], by rw [hU]; exact hPc, va_K.moved hW.alike hKc, hDc.weaken (fun _ _ _ _ => trivial)⟩⟩ rfl rfl hl.1 rfl (lv_room (Nat.le_of_ble_eq_true rfl)) dX7_readPart_234 ⟨Nat.le_of_ble_eq_true rfl, Nat.le_of_ble_eq_true rfl⟩) hS (fun q _ h => hFc q h) hFc (fun u_15 t H1 locs ht hvm hw hB hz1 hk1 hS => ?_)
        try dsimp only at hw
        obtain ⟨hP1, hK1, hD1⟩ := hB
        rw [ht] at hP1
        have hK1 := va_K.moved hvm.symm hK1
        have hK1 : va_K (dC, dI) vwCl [] s := hK1
        obtain ⟨hP, hD⟩ := va_join (wr := [(eO0a bk bto bnm bla bsk bru bbo bdi bda bdk bdt bdp bno), (eO8a bru rco rsz ren rst rkn), (eA0 rco cRc 64 fRc), (eO7a pa lx bk pfa pfp psk phe phr u_8.1 (pop + 1)), (eA0 phe cHe 72 u_8.2.1), (eA0 phr cHr 72 u_8.2.2)]) (w1 := [(eO3a lx lby lfi lco lxe u_15.1 u_15.2.1 u_15.2.2.1 u_15.2.2.2.1 u_15.2.2.2.2), (eA0 lby cBy 900 fBy), (eA0 lco cCo 23 fCo)]) hP hD [0, 1, 2] [3, 4, 5, 6, 7, 8] hCc rfl (by decide) (by decide) hk1 hFc hP1 hD1
        generalize H1 = H at hP hS ⊢
        obtain ⟨hP, hD⟩ := zre [(eO0a bk bto bnm bla bsk bru bbo bdi bda bdk bdt bdp bno), (eO8a bru rco rsz ren rst rkn), (eA0 rco cRc 64 fRc), (eO7a pa lx bk pfa pfp psk phe phr u_8.1 (pop + 1)), (eA0 phe cHe 72 u_8.2.1), (eA0 phr cHr 72 u_8.2.2), (eO3a lx lby lfi lco lxe u_15.1 u_15.2.1 u_15.2.2.1 u_15.2.2.2.1 u_15.2.2.2.2), (eA0 lby cBy 900 fBy), (eA0 lco cCo 23 fCo)] hP hD rfl
        refine W.widen (k := 0) (n := 0) (by omega) (by omega) ?_
        obtain ⟨hw, hp_21⟩ := hw
        have hq_u_15 : u_15 = (fe_advance lxe lxa lxn lxl fBy fCo) := hw
        refine lv_iload_n hx hb dX7_readPart_237 rfl (lv_at hl 1 rfl) ?_
        refine xs_size (fun hHz => ?_)
        refine vx_ret ?_
        refine W.widen (k := 1) (n := 6) (by omega) (by omega) ?_
        obtain ⟨hP9, hD9⟩ := zsub2 (ws' := [(eO7a pa lx bk pfa pfp psk phe phr u_8.1 (pop + 1)), (eO3a lx lby lfi lco lxe u_15.1 u_15.2.1 u_15.2.2.1 u_15.2.2.2.1 u_15.2.2.2.2), (eA0 lby cBy 900 fBy), (eA0 lco cCo 23 fCo), (eA0 phe cHe 72 u_8.2.1), (eA0 phr cHr 72 u_8.2.2), (eO0a bk bto bnm bla bsk bru bbo bdi bda bdk bdt bdp bno), (eO8a bru rco rsz ren rst rkn), (eA0 rco cRc 64 fRc)]) hP hD [3, 6, 7, 8, 4, 5, 0, 1, 2] (by decide +kernel) rfl
        have hK9 := hK.sub (tys' := []) [] rfl
        exact W.zret (v := 1) hx hb hr (by first | rfl | decide) (fun t ht hW => ⟨⟨1, (pfa, pfp, u_8.1, (pop + 1), u_15.1, u_15.2.1, u_15.2.2.1, u_15.2.2.2.1, u_15.2.2.2.2, u_8.2.1, u_8.2.2, rsz, rkn, fRc), rfl, ⟨((fun e9 => ⟨by rw [e9], by rw [e9], by rw [e9]⟩ : fp_readPart pfa pfp phs pop lxe lxa lxt lxp lxn lxl fBy fCo fHe fHr rsz rkn fRc = ((0 : Int32), (1 : Int32), pfa, pfp, u_8.1, (pop + 1), u_15.1, u_15.2.1, u_15.2.2.1, u_15.2.2.2.1, u_15.2.2.2.2, u_8.2.1, u_8.2.2, rsz, rkn, fRc) → _) ((by rw [fp_readPart]; (try rw [if_pos c_1]); (try rw [if_neg c_2]); (try rw [if_pos c_5]); (try rw [← hq_u_8]); (try rw [xL_eq]); (try rw [← hq_u_15]); (try rw [xL_eq]); try rfl))), Or.inr rfl, (gp_readPart_s2 (y0 := u_15.1) hp_21), (gp_readPart_s3 (y0 := u_8.1) hp_12 hp_13), (gp_readPart_s4 (y0 := u_8.1) hp_12 hp_13), (gp_readPart_s5 (y0 := rsz) h0_rsz)⟩, ⟨by rw [ht]; exact hP9, va_K.moved hW.alike hK9, hD9⟩, by rw [ht]; first | exact hHz | exact hHz.trans (by rw [rH])⟩, hS.F ht⟩) hS.2.2 dX7_readPart_238
      · refine lv_iconst (v := 1) hx hb dX7_readPart_100 (by decide) ?_
        refine lv_goto (tgt := 105) hx hb dX7_readPart_101 (by decide) ?_
        refine lv_iconst (v := 2) hx hb dX7_readPart_105 (by decide) ?_
        refine lv_aload_n hx hb dX7_readPart_106 rfl (lv_at hl 3 rfl) ?_
        refine va_get (D := (dC, dI)) (ci := 7) (v := .ref lx) (C := RX7) (T := TX7) (N := 9) hx hb htw inlX7 hown hK hP 0 rfl rfl 0 (by decide) (htw _ (ck_3 _ (List.mem_of_getElem? (i := 5) rfl))) (fun _ h9 => h9) rfl dX7_readPart_107 ?_
        refine va_get (D := (dC, dI)) (ci := 3) (v := .int lxp) (C := RX3) (T := TX3) (N := 9) hx hb htw inlX3 hown hK hP 1 rfl rfl 6 (by decide) (htw _ (ck_15 _ (List.mem_of_getElem? (i := 13) rfl))) (fun _ h9 => h9) rfl dX7_readPart_110 ?_
        refine xs_size (fun hHz => ?_)
        obtain ⟨hPc, hDc, hFc, hCc⟩ := zsub3 (ws' := [(eO7a pa lx bk pfa pfp psk phe phr phs pop)]) hP hD hS hA [0] (by decide) rfl
        have hKc := hK.sub (tys' := []) [] rfl
        refine vx_callv (vx_runV (As := [.int 1, .int 2, .int lxp]) (rest := []) ⟨hx, hb, hml, hown, htw⟩ (gp_refT l hst dC dI pa lx bk pfa pfp psk phe phr phs pop (1 : Int32) (2 : Int32) lxp sL H.size (gp_readPart_s6 )) (cwV 3 htw (xg_V (ck_16 _ (List.mem_of_getElem? (i := 6) rfl)) (ck_16 _ (List.mem_of_getElem? (i := 7) rfl)) (ck_16 _ (List.mem_of_getElem? (i := 8) rfl)) (ck_1 _ (List.mem_of_getElem? (i := 16) rfl)) (ck_16 _ (List.mem_of_getElem? (i := 9) rfl))) rfl rfl rfl (by exact ⟨rfl, hdc_15.1, hdc_15.2, hdd_48⟩) ⟨Nat.le_of_ble_eq_true rfl, Nat.le_of_ble_eq_true rfl⟩) ⟨fun a U g mk q => by obtain ⟨q0, q1, qP, qK, qD, qx0⟩ := q; exact ⟨q0, q1, qP, va_K.moved (u := U) (U := U.calling g mk a) (Vm.Alike.refl U.vm) qK, qD, xl.calling qx0⟩, va_recv hKc hPc (ci := 7) (q0 := 0) rfl rfl, fun U hU hW => ⟨rfl, by rw [hU], by rw [hU]; exact hPc, va_K.moved hW.alike hKc, hDc.weaken (fun _ _ _ _ => trivial), by rw [hU]; exact xl.warm hW ((xl.kept hXL hS.2.1).narrow hFc)⟩⟩ rfl rfl hl.1 rfl (lv_room (Nat.le_of_ble_eq_true rfl)) dX7_readPart_113 ⟨Nat.le_of_ble_eq_true rfl, Nat.le_of_ble_eq_true rfl⟩) hS (fun q _ h => hFc q h) hFc (fun q _ h => hFc q h) (fun E ce q9 u_22 t H1 locs ht hvm hw hB hz1 hk1 hS hcell hcv hcl => ?_) (fun u_24 t H1 locs ht hvm hw hB hz1 hk1 hS => hw.elim)
        obtain ⟨hE9, hB⟩ := hB
        subst hE9
        obtain ⟨hP1, hK1, hD1⟩ := hB
        rw [ht] at hP1
        have hK1 := va_K.moved hvm.symm hK1
        have hK1 : va_K (dC, dI) vwCl [] s := hK1
        obtain ⟨hP, hD⟩ := va_join (wr := [(eO3a lx lby lfi lco lxe lxa lxt lxp lxn lxl), (eA0 lby cBy 900 fBy), (eA0 lco cCo 23 fCo), (eA0 phe cHe 72 fHe), (eA0 phr cHr 72 fHr), (eO0a bk bto bnm bla bsk bru bbo bdi bda bdk bdt bdp bno), (eO8a bru rco rsz ren rst rkn), (eA0 rco cRc 64 fRc)]) (w1 := [(eO7a pa lx bk 2 lxp psk phe phr phs pop)]) hP hD [0] [1, 2, 3, 4, 5, 6, 7, 8] hCc rfl (by decide +kernel) (by decide +kernel) hk1 hFc hP1 hD1
        generalize H1 = H at hP hS hcell ⊢
        obtain ⟨hP, hD⟩ := zre [(eO3a lx lby lfi lco lxe lxa lxt lxp lxn lxl), (eA0 lby cBy 900 fBy), (eA0 lco cCo 23 fCo), (eA0 phe cHe 72 fHe), (eA0 phr cHr 72 fHr), (eO0a bk bto bnm bla bsk bru bbo bdi bda bdk bdt bdp bno), (eO8a bru rco rsz ren rst rkn), (eA0 rco cRc 64 fRc), (eO7a pa lx bk 2 lxp psk phe phr phs pop)] hP hD rfl
        obtain ⟨hP9, hD9⟩ := zsub2 (ws' := [(eO7a pa lx bk 2 lxp psk phe phr phs pop), (eO3a lx lby lfi lco lxe lxa lxt lxp lxn lxl), (eA0 lby cBy 900 fBy), (eA0 lco cCo 23 fCo), (eA0 phe cHe 72 fHe), (eA0 phr cHr 72 fHr), (eO0a bk bto bnm bla bsk bru bbo bdi bda bdk bdt bdp bno), (eO8a bru rco rsz ren rst rkn), (eA0 rco cRc 64 fRc)]) hP hD [8, 0, 1, 2, 3, 4, 5, 6, 7] (by decide +kernel) rfl
        have hK9 := hK.sub (tys' := []) [] rfl
        exact vx_widen (k := 1) (n := 6) (Nat.le_of_ble_eq_true rfl) (Nat.le_of_ble_eq_true rfl) (vx_out (fun x h9 => (hex x h9).elim) hlocks hcell hcv hcl (fun t ht hal => ⟨(2, lxp, phs, pop, lxa, lxt, lxp, lxn, lxl, fHe, fHr, rsz, rkn, fRc), ((fun e9 => ⟨by rw [e9], by rw [e9]⟩ : fp_readPart pfa pfp phs pop lxe lxa lxt lxp lxn lxl fBy fCo fHe fHr rsz rkn fRc = ((1 : Int32), (0 : Int32), (2 : Int32), lxp, phs, pop, lxa, lxt, lxp, lxn, lxl, fHe, fHr, rsz, rkn, fRc) → _) ((by rw [fp_readPart]; (try rw [if_pos c_1]); (try rw [if_neg c_2]); (try rw [if_neg c_5]); try rfl))), ⟨rfl, by rw [ht]; exact hP9, va_K.moved hal hK9, hD9⟩, hS.F ht⟩) hS.2.2 (Nat.le_of_ble_eq_true rfl) (Nat.le_of_ble_eq_true rfl))
    · refine lv_aload_n hx hb dX7_readPart_32 rfl (lv_at hl 2 rfl) ?_
      have hPc := hP.sub (ws' := [(eO7a pa lx bk pfa pfp psk phe phr phs pop), (eA0 phr cHr 72 fHr)]) [0, 5] rfl
      have hKc := hK.sub (tys' := [(cHr, .int)]) [3] rfl
      refine vp_callSi (W.runV (As := []) (rest := []) ⟨hx, hb, hml, hown, htw⟩ (gp_heldRank l dC dI pa lx bk pfa pfp psk phe phr phs pop cHr fHr) (cwV 0 htw (xg_V (ck_18 _ (List.mem_of_getElem? (i := 16) rfl)) (ck_18 _ (List.mem_of_getElem? (i := 17) rfl)) (ck_18 _ (List.mem_of_getElem? (i := 18) rfl)) (ck_1 _ (List.mem_of_getElem? (i := 16) rfl)) (ck_18 _ (List.mem_of_getElem? (i := 19) rfl))) rfl rfl rfl (by exact ⟨rfl, hdc_15.1, hdc_15.2, hdd_45⟩) ⟨Nat.le_of_ble_eq_true rfl, Nat.le_of_ble_eq_true rfl⟩) ⟨fun a U g mk q => by obtain ⟨q0, qP, qK⟩ := q; exact ⟨q0, qP, va_K.moved (u := U) (U := U.calling g mk a) (Vm.Alike.refl U.vm) qK⟩, va_recv hKc hPc (ci := 7) (q0 := 0) rfl rfl, fun U hU hW => ⟨rfl, by rw [hU]; exact hPc, va_K.moved hW.alike hKc⟩⟩ rfl rfl hl.1 rfl (lv_room (Nat.le_of_ble_eq_true rfl)) dX7_readPart_33 ⟨Nat.le_of_ble_eq_true rfl, Nat.le_of_ble_eq_true rfl⟩) (fun r_25 hw => ?_)
      try dsimp only at hw
      obtain ⟨hw, hp_26, hp_27⟩ := hw
      have hq_r_25 : r_25 = (fp_heldRank phs fHr) := hw
      refine lv_iconst (v := 3) hx hb dX7_readPart_36 (by decide) ?_
      refine lv_icmp_le (tgt := 44) hx hb dX7_readPart_37 (by decide) (fun c_28 => ?_) (fun c_28 => ?_)
      · refine lv_iconst (v := 0) hx hb dX7_readPart_44 (by decide) ?_
        refine lv_istore_n (lv' := [(3, .int 0), (2, .int 1), (1, .int lxt), (0, .ref pa)]) hx hb dX7_readPart_45 rfl hl (by decide) rfl (fun ls hl => ?_)
        refine lv_aload_n hx hb dX7_readPart_46 rfl (lv_at hl 3 rfl) ?_
        refine lv_iload_n hx hb dX7_readPart_47 rfl (lv_at hl 0 rfl) ?_
        refine lv_if_ne (tgt := 68) hx hb dX7_readPart_48 (by decide) (fun c => absurd c (by decide)) (fun _ => ?_)
        refine lv_iload_n hx hb dX7_readPart_51 rfl (lv_at hl 1 rfl) ?_
        refine lv_if_ne (tgt := 72) hx hb dX7_readPart_52 (by decide) (fun _ => ?_) (fun c => absurd c (by decide))
        refine lv_iconst (v := 0) hx hb dX7_readPart_72 (by decide) ?_
        refine lv_iconst (v := 1) hx hb dX7_readPart_73 (by decide) ?_
        refine lv_aload_n hx hb dX7_readPart_74 rfl (lv_at hl 3 rfl) ?_
        refine va_get (D := (dC, dI)) (ci := 7) (v := .ref lx) (C := RX7) (T := TX7) (N := 9) hx hb htw inlX7 hown hK hP 0 rfl rfl 0 (by decide) (htw _ (ck_3 _ (List.mem_of_getElem? (i := 5) rfl))) (fun _ h9 => h9) rfl dX7_readPart_75 ?_
        refine va_get (D := (dC, dI)) (ci := 3) (v := .int lxp) (C := RX3) (T := TX3) (N := 9) hx hb htw inlX3 hown hK hP 1 rfl rfl 6 (by decide) (htw _ (ck_15 _ (List.mem_of_getElem? (i := 13) rfl))) (fun _ h9 => h9) rfl dX7_readPart_78 ?_
        have hPc := hP.sub (ws' := []) [] rfl
        have hKc := hK.sub (tys' := []) [] rfl
        refine va_csv (W.runV (As := [.int 0, .int 1, .int lxp]) (rest := []) ⟨hx, hb, hml, hown, htw⟩ (gp_ref0 l dC dI (0 : Int32) (1 : Int32) lxp pa (gp_readPart_s7 )) (cwV 3 htw (xg_V (ck_16 _ (List.mem_of_getElem? (i := 6) rfl)) (ck_16 _ (List.mem_of_getElem? (i := 7) rfl)) (ck_16 _ (List.mem_of_getElem? (i := 8) rfl)) (ck_1 _ (List.mem_of_getElem? (i := 16) rfl)) (ck_16 _ (List.mem_of_getElem? (i := 9) rfl))) rfl rfl rfl (by exact ⟨rfl, hdc_15.1, hdc_15.2, hdd_48⟩) ⟨Nat.le_of_ble_eq_true rfl, Nat.le_of_ble_eq_true rfl⟩) ⟨fun a U g mk q => by obtain ⟨q0, qP, qK⟩ := q; exact ⟨q0, qP, va_K.moved (u := U) (U := U.calling g mk a) (Vm.Alike.refl U.vm) qK⟩, va_recv hK hP (ci := 7) (q0 := 0) rfl rfl, fun U hU hW => ⟨rfl, by rw [hU]; exact hPc, va_K.moved hW.alike hKc⟩⟩ rfl rfl hl.1 rfl (lv_room (Nat.le_of_ble_eq_true rfl)) dX7_readPart_81 ⟨Nat.le_of_ble_eq_true rfl, Nat.le_of_ble_eq_true rfl⟩) (fun hw => ?_)
        try dsimp only at hw
        refine lv_iload_n hx hb dX7_readPart_84 rfl (lv_at hl 2 rfl) ?_
        refine lv_bipush (v := 26) hx hb dX7_readPart_85 (by decide) ?_
        refine lv_icmp_ne (tgt := 134) hx hb dX7_readPart_87 (by decide) (fun c_30 => absurd c_30 (fun h9 => h9 c_1)) (fun c_30 => ?_)
        refine lv_aload_n hx hb dX7_readPart_90 rfl (lv_at hl 3 rfl) ?_
        refine lv_aload_n hx hb dX7_readPart_91 rfl (lv_at hl 3 rfl) ?_
        refine va_get (D := (dC, dI)) (ci := 7) (v := .int pop) (C := RX7) (T := TX7) (N := 9) hx hb htw inlX7 hown hK hP 0 rfl rfl 8 (by decide) (htw _ (ck_18 _ (List.mem_of_getElem? (i := 10) rfl))) (fun _ h9 => h9) rfl dX7_readPart_92 ?_
        refine lv_bipush (v := 8) hx hb dX7_readPart_95 (by decide) ?_
        refine lv_icmp_lt (tgt := 104) hx hb dX7_readPart_97 (by decide) (fun c_31 => ?_) (fun c_31 => ?_)
        · refine lv_iconst (v := 0) hx hb dX7_readPart_104 (by decide) ?_
          refine lv_iconst (v := 2) hx hb dX7_readPart_105 (by decide) ?_
          refine lv_aload_n hx hb dX7_readPart_106 rfl (lv_at hl 3 rfl) ?_
          refine va_get (D := (dC, dI)) (ci := 7) (v := .ref lx) (C := RX7) (T := TX7) (N := 9) hx hb htw inlX7 hown hK hP 0 rfl rfl 0 (by decide) (htw _ (ck_3 _ (List.mem_of_getElem? (i := 5) rfl))) (fun _ h9 => h9) rfl dX7_readPart_107 ?_
          refine va_get (D := (dC, dI)) (ci := 3) (v := .int lxp) (C := RX3) (T := TX3) (N := 9) hx hb htw inlX3 hown hK hP 1 rfl rfl 6 (by decide) (htw _ (ck_15 _ (List.mem_of_getElem? (i := 13) rfl))) (fun _ h9 => h9) rfl dX7_readPart_110 ?_
          have hPc := hP.sub (ws' := []) [] rfl
          have hKc := hK.sub (tys' := []) [] rfl
          refine va_csv (W.runV (As := [.int 0, .int 2, .int lxp]) (rest := []) ⟨hx, hb, hml, hown, htw⟩ (gp_ref0 l dC dI (0 : Int32) (2 : Int32) lxp pa (gp_readPart_s8 )) (cwV 3 htw (xg_V (ck_16 _ (List.mem_of_getElem? (i := 6) rfl)) (ck_16 _ (List.mem_of_getElem? (i := 7) rfl)) (ck_16 _ (List.mem_of_getElem? (i := 8) rfl)) (ck_1 _ (List.mem_of_getElem? (i := 16) rfl)) (ck_16 _ (List.mem_of_getElem? (i := 9) rfl))) rfl rfl rfl (by exact ⟨rfl, hdc_15.1, hdc_15.2, hdd_48⟩) ⟨Nat.le_of_ble_eq_true rfl, Nat.le_of_ble_eq_true rfl⟩) ⟨fun a U g mk q => by obtain ⟨q0, qP, qK⟩ := q; exact ⟨q0, qP, va_K.moved (u := U) (U := U.calling g mk a) (Vm.Alike.refl U.vm) qK⟩, va_recv hK hP (ci := 7) (q0 := 0) rfl rfl, fun U hU hW => ⟨rfl, by rw [hU]; exact hPc, va_K.moved hW.alike hKc⟩⟩ rfl rfl hl.1 rfl (lv_room (Nat.le_of_ble_eq_true rfl)) dX7_readPart_113 ⟨Nat.le_of_ble_eq_true rfl, Nat.le_of_ble_eq_true rfl⟩) (fun hw => ?_)
          try dsimp only at hw
          refine lv_aload_n hx hb dX7_readPart_116 rfl (lv_at hl 3 rfl) ?_
          refine lv_dup hx hb dX7_readPart_117 rfl ?_
          refine va_get (D := (dC, dI)) (ci := 7) (v := .int pop) (C := RX7) (T := TX7) (N := 9) hx hb htw inlX7 hown hK hP 0 rfl rfl 8 (by decide) (htw _ (ck_18 _ (List.mem_of_getElem? (i := 10) rfl))) (fun _ h9 => h9) rfl dX7_readPart_118 ?_
          refine lv_iconst (v := 1) hx hb dX7_readPart_121 (by decide) ?_
          refine lv_iadd hx hb dX7_readPart_122 ?_
          refine va_put (D := (dC, dI)) (ci := 7) (v := .int (pop + 1)) (ty := tyX7 8) (C := RX7) (T := TX7) (N := 9) hx hb htw inlX7 tyX7 tyX7_ok nmX7 hown hK hP hD hS 0 rfl rfl 8 (by decide) (htw _ (ck_18 _ (List.mem_of_getElem? (i := 10) rfl))) (fun _ h9 => h9) rfl (tyX7_ok 8 (by decide)) rfl rfl (Nat.le_of_ble_eq_true rfl) dX7_readPart_123 (fun H locs hP hD hS => ?_)
          obtain ⟨hP, hD⟩ := zre [(eO7a pa lx bk pfa pfp psk phe phr phs (pop + 1)), (eO3a lx lby lfi lco lxe lxa lxt lxp lxn lxl), (eA0 lby cBy 900 fBy), (eA0 lco cCo 23 fCo), (eA0 phe cHe 72 fHe), (eA0 phr cHr 72 fHr), (eO0a bk bto bnm bla bsk bru bbo bdi bda bdk bdt bdp bno), (eO8a bru rco rsz ren rst rkn), (eA0 rco cRc 64 fRc)] hP hD rfl
          refine lv_aload_n hx hb dX7_readPart_126 rfl (lv_at hl 3 rfl) ?_
          refine lv_iload_n hx hb dX7_readPart_127 rfl (lv_at hl 2 rfl) ?_
          obtain ⟨hPc, hDc, hFc, hCc⟩ := zsub3 (ws' := [(eO7a pa lx bk pfa pfp psk phe phr phs (pop + 1)), (eA0 phe cHe 72 fHe), (eA0 phr cHr 72 fHr)]) hP hD hS hA [0, 4, 5] (by decide) rfl
          have hKc := hK.sub (tys' := [(cHe, .int), (cHr, .int)]) [2, 3] rfl
          refine va_callv (va_runV (As := [.int lxt]) (rest := []) ⟨hx, hb, hml, hown, htw⟩ (gp_hold l dC dI pa lx bk pfa pfp psk phe phr phs (pop + 1) cHe fHe cHr fHr lxt H.size h0_phs h7_phs) (cwV 1 htw (xg_V (ck_18 _ (List.mem_of_getElem? (i := 23) rfl)) (ck_19 _ (List.mem_of_getElem? (i := 0) rfl)) (ck_19 _ (List.mem_of_getElem? (i := 1) rfl)) (ck_1 _ (List.mem_of_getElem? (i := 16) rfl)) (ck_19 _ (List.mem_of_getElem? (i := 2) rfl))) rfl rfl rfl (by exact ⟨rfl, hdc_15.1, hdc_15.2, hdd_9⟩) ⟨Nat.le_of_ble_eq_true rfl, Nat.le_of_ble_eq_true rfl⟩) ⟨fun a U g mk q => by obtain ⟨q0, q1, qP, qK, qD⟩ := q; exact ⟨q0, q1, qP, va_K.moved (u := U) (U := U.calling g mk a) (Vm.Alike.refl U.vm) qK, qD⟩, va_recv hKc hPc (ci := 7) (q0 := 0) rfl rfl, fun U hU hW => ⟨rfl, by rw [hU], by rw [hU]; exact hPc, va_K.moved hW.alike hKc, hDc.weaken (fun _ _ _ _ => trivial)⟩⟩ rfl rfl hl.1 rfl (lv_room (Nat.le_of_ble_eq_true rfl)) dX7_readPart_128 ⟨Nat.le_of_ble_eq_true rfl, Nat.le_of_ble_eq_true rfl⟩) hS (fun q _ h => hFc q h) hFc (fun u_34 t H1 locs ht hvm hw hB hz1 hk1 hS => ?_)
          try dsimp only at hw
          obtain ⟨hP1, hK1, hD1⟩ := hB
          rw [ht] at hP1
          have hK1 := va_K.moved hvm.symm hK1
          have hK1 : va_K (dC, dI) vwCl [] s := hK1
          obtain ⟨hP, hD⟩ := va_join (wr := [(eO3a lx lby lfi lco lxe lxa lxt lxp lxn lxl), (eA0 lby cBy 900 fBy), (eA0 lco cCo 23 fCo), (eO0a bk bto bnm bla bsk bru bbo bdi bda bdk bdt bdp bno), (eO8a bru rco rsz ren rst rkn), (eA0 rco cRc 64 fRc)]) (w1 := [(eO7a pa lx bk pfa pfp psk phe phr u_34.1 (pop + 1)), (eA0 phe cHe 72 u_34.2.1), (eA0 phr cHr 72 u_34.2.2)]) hP hD [0, 4, 5] [1, 2, 3, 6, 7, 8] hCc rfl (by decide) (by decide) hk1 hFc hP1 hD1
          generalize H1 = H at hP hS ⊢
          obtain ⟨hP, hD⟩ := zre [(eO3a lx lby lfi lco lxe lxa lxt lxp lxn lxl), (eA0 lby cBy 900 fBy), (eA0 lco cCo 23 fCo), (eO0a bk bto bnm bla bsk bru bbo bdi bda bdk bdt bdp bno), (eO8a bru rco rsz ren rst rkn), (eA0 rco cRc 64 fRc), (eO7a pa lx bk pfa pfp psk phe phr u_34.1 (pop + 1)), (eA0 phe cHe 72 u_34.2.1), (eA0 phr cHr 72 u_34.2.2)] hP hD rfl
          refine W.widen (k := 0) (n := 0) (by omega) (by omega) ?_
          obtain ⟨hw, hp_38, hp_39⟩ := hw
          have hq_u_34 : u_34 = (fp_hold phs fHe fHr lxt) := hw
          refine lv_goto (tgt := 230) hx hb dX7_readPart_131 (by decide) ?_
          refine lv_aload_n hx hb dX7_readPart_230 rfl (lv_at hl 3 rfl) ?_
          refine va_get (D := (dC, dI)) (ci := 7) (v := .ref lx) (C := RX7) (T := TX7) (N := 9) hx hb htw inlX7 hown hK hP 6 rfl rfl 0 (by decide) (htw _ (ck_3 _ (List.mem_of_getElem? (i := 5) rfl))) (fun _ h9 => h9) rfl dX7_readPart_231 ?_
          obtain ⟨hPc, hDc, hFc, hCc⟩ := zsub3 (ws' := [(eO3a lx lby lfi lco lxe lxa lxt lxp lxn lxl), (eA0 lby cBy 900 fBy), (eA0 lco cCo 23 fCo)]) hP hD hS hA [0, 1, 2] (by decide) rfl
          have hKc := hK.sub (tys' := [(cBy, .byte), (cCo, .int)]) [0, 1] rfl
          refine va_callv (va_runV (As := []) (rest := []) ⟨hx, hb, hml, hown, htw⟩ (gz_advance l dC dI lx lby lfi lco lxe lxa lxt lxp lxn lxl cBy fBy cCo fCo H.size h0_lxa h9_lxe) (cwV 0 htw (xg_V (ck_16 _ (List.mem_of_getElem? (i := 11) rfl)) (ck_14 _ (List.mem_of_getElem? (i := 13) rfl)) (ck_14 _ (List.mem_of_getElem? (i := 14) rfl)) (ck_3 _ (List.mem_of_getElem? (i := 4) rfl)) (ck_14 _ (List.mem_of_getElem? (i := 15) rfl))) rfl rfl rfl (by exact ⟨rfl, hdc_4.1, hdc_4.2, hdd_13⟩) ⟨Nat.le_of_ble_eq_true rfl, Nat.le_of_ble_eq_true rfl⟩) ⟨fun a U g mk q => by obtain ⟨q0, q1, qP, qK, qD⟩ := q; exact ⟨q0, q1, qP, va_K.moved (u := U) (U := U.calling g mk a) (Vm.Alike.refl U.vm) qK, qD⟩, va_recv hKc hPc (ci := 3) (q0 := 0) rfl rfl, fun U hU hW => ⟨rfl, by rw [hU], by rw [hU]; exact hPc, va_K.moved hW.alike hKc, hDc.weaken (fun _ _ _ _ => trivial)⟩⟩ rfl rfl hl.1 rfl (lv_room (Nat.le_of_ble_eq_true rfl)) dX7_readPart_234 ⟨Nat.le_of_ble_eq_true rfl, Nat.le_of_ble_eq_true rfl⟩) hS (fun q _ h => hFc q h) hFc (fun u_41 t H1 locs ht hvm hw hB hz1 hk1 hS => ?_)
          try dsimp only at hw
          obtain ⟨hP1, hK1, hD1⟩ := hB
          rw [ht] at hP1
          have hK1 := va_K.moved hvm.symm hK1
          have hK1 : va_K (dC, dI) vwCl [] s := hK1
          obtain ⟨hP, hD⟩ := va_join (wr := [(eO0a bk bto bnm bla bsk bru bbo bdi bda bdk bdt bdp bno), (eO8a bru rco rsz ren rst rkn), (eA0 rco cRc 64 fRc), (eO7a pa lx bk pfa pfp psk phe phr u_34.1 (pop + 1)), (eA0 phe cHe 72 u_34.2.1), (eA0 phr cHr 72 u_34.2.2)]) (w1 := [(eO3a lx lby lfi lco lxe u_41.1 u_41.2.1 u_41.2.2.1 u_41.2.2.2.1 u_41.2.2.2.2), (eA0 lby cBy 900 fBy), (eA0 lco cCo 23 fCo)]) hP hD [0, 1, 2] [3, 4, 5, 6, 7, 8] hCc rfl (by decide) (by decide) hk1 hFc hP1 hD1
          generalize H1 = H at hP hS ⊢
          obtain ⟨hP, hD⟩ := zre [(eO0a bk bto bnm bla bsk bru bbo bdi bda bdk bdt bdp bno), (eO8a bru rco rsz ren rst rkn), (eA0 rco cRc 64 fRc), (eO7a pa lx bk pfa pfp psk phe phr u_34.1 (pop + 1)), (eA0 phe cHe 72 u_34.2.1), (eA0 phr cHr 72 u_34.2.2), (eO3a lx lby lfi lco lxe u_41.1 u_41.2.1 u_41.2.2.1 u_41.2.2.2.1 u_41.2.2.2.2), (eA0 lby cBy 900 fBy), (eA0 lco cCo 23 fCo)] hP hD rfl
          refine W.widen (k := 0) (n := 0) (by omega) (by omega) ?_
          obtain ⟨hw, hp_47⟩ := hw
          have hq_u_41 : u_41 = (fe_advance lxe lxa lxn lxl fBy fCo) := hw
          refine lv_iload_n hx hb dX7_readPart_237 rfl (lv_at hl 1 rfl) ?_
          refine xs_size (fun hHz => ?_)
          refine vx_ret ?_
          refine W.widen (k := 1) (n := 6) (by omega) (by omega) ?_
          obtain ⟨hP9, hD9⟩ := zsub2 (ws' := [(eO7a pa lx bk pfa pfp psk phe phr u_34.1 (pop + 1)), (eO3a lx lby lfi lco lxe u_41.1 u_41.2.1 u_41.2.2.1 u_41.2.2.2.1 u_41.2.2.2.2), (eA0 lby cBy 900 fBy), (eA0 lco cCo 23 fCo), (eA0 phe cHe 72 u_34.2.1), (eA0 phr cHr 72 u_34.2.2), (eO0a bk bto bnm bla bsk bru bbo bdi bda bdk bdt bdp bno), (eO8a bru rco rsz ren rst rkn), (eA0 rco cRc 64 fRc)]) hP hD [3, 6, 7, 8, 4, 5, 0, 1, 2] (by decide +kernel) rfl
          have hK9 := hK.sub (tys' := []) [] rfl
          exact W.zret (v := 1) hx hb hr (by first | rfl | decide) (fun t ht hW => ⟨⟨1, (pfa, pfp, u_34.1, (pop + 1), u_41.1, u_41.2.1, u_41.2.2.1, u_41.2.2.2.1, u_41.2.2.2.2, u_34.2.1, u_34.2.2, rsz, rkn, fRc), rfl, ⟨((fun e9 => ⟨by rw [e9], by rw [e9], by rw [e9]⟩ : fp_readPart pfa pfp phs pop lxe lxa lxt lxp lxn lxl fBy fCo fHe fHr rsz rkn fRc = ((0 : Int32), (1 : Int32), pfa, pfp, u_34.1, (pop + 1), u_41.1, u_41.2.1, u_41.2.2.1, u_41.2.2.2.1, u_41.2.2.2.2, u_34.2.1, u_34.2.2, rsz, rkn, fRc) → _) ((by rw [fp_readPart]; (try rw [if_pos c_1]); (try rw [if_pos c_2]); (try rw [← hq_r_25]); (try rw [xL_eq]); (try rw [if_pos c_28]); (try rw [if_pos c_31]); (try rw [← hq_u_34]); (try rw [xL_eq]); (try rw [← hq_u_41]); (try rw [xL_eq]); try rfl))), Or.inr rfl, (gp_readPart_s9 (y0 := u_41.1) hp_47), (gp_readPart_s10 (y0 := u_34.1) hp_38 hp_39), (gp_readPart_s11 (y0 := u_34.1) hp_38 hp_39), (gp_readPart_s12 (y0 := rsz) h0_rsz)⟩, ⟨by rw [ht]; exact hP9, va_K.moved hW.alike hK9, hD9⟩, by rw [ht]; first | exact hHz | exact hHz.trans (by rw [rH])⟩, hS.F ht⟩) hS.2.2 dX7_readPart_238
        · refine lv_iconst (v := 1) hx hb dX7_readPart_100 (by decide) ?_
          refine lv_goto (tgt := 105) hx hb dX7_readPart_101 (by decide) ?_
          refine lv_iconst (v := 2) hx hb dX7_readPart_105 (by decide) ?_
          refine lv_aload_n hx hb dX7_readPart_106 rfl (lv_at hl 3 rfl) ?_
          refine va_get (D := (dC, dI)) (ci := 7) (v := .ref lx) (C := RX7) (T := TX7) (N := 9) hx hb htw inlX7 hown hK hP 0 rfl rfl 0 (by decide) (htw _ (ck_3 _ (List.mem_of_getElem? (i := 5) rfl))) (fun _ h9 => h9) rfl dX7_readPart_107 ?_
          refine va_get (D := (dC, dI)) (ci := 3) (v := .int lxp) (C := RX3) (T := TX3) (N := 9) hx hb htw inlX3 hown hK hP 1 rfl rfl 6 (by decide) (htw _ (ck_15 _ (List.mem_of_getElem? (i := 13) rfl))) (fun _ h9 => h9) rfl dX7_readPart_110 ?_
          refine xs_size (fun hHz => ?_)
          obtain ⟨hPc, hDc, hFc, hCc⟩ := zsub3 (ws' := [(eO7a pa lx bk pfa pfp psk phe phr phs pop)]) hP hD hS hA [0] (by decide) rfl
          have hKc := hK.sub (tys' := []) [] rfl
          refine vx_callv (vx_runV (As := [.int 1, .int 2, .int lxp]) (rest := []) ⟨hx, hb, hml, hown, htw⟩ (gp_refT l hst dC dI pa lx bk pfa pfp psk phe phr phs pop (1 : Int32) (2 : Int32) lxp sL H.size (gp_readPart_s13 )) (cwV 3 htw (xg_V (ck_16 _ (List.mem_of_getElem? (i := 6) rfl)) (ck_16 _ (List.mem_of_getElem? (i := 7) rfl)) (ck_16 _ (List.mem_of_getElem? (i := 8) rfl)) (ck_1 _ (List.mem_of_getElem? (i := 16) rfl)) (ck_16 _ (List.mem_of_getElem? (i := 9) rfl))) rfl rfl rfl (by exact ⟨rfl, hdc_15.1, hdc_15.2, hdd_48⟩) ⟨Nat.le_of_ble_eq_true rfl, Nat.le_of_ble_eq_true rfl⟩) ⟨fun a U g mk q => by obtain ⟨q0, q1, qP, qK, qD, qx0⟩ := q; exact ⟨q0, q1, qP, va_K.moved (u := U) (U := U.calling g mk a) (Vm.Alike.refl U.vm) qK, qD, xl.calling qx0⟩, va_recv hKc hPc (ci := 7) (q0 := 0) rfl rfl, fun U hU hW => ⟨rfl, by rw [hU], by rw [hU]; exact hPc, va_K.moved hW.alike hKc, hDc.weaken (fun _ _ _ _ => trivial), by rw [hU]; exact xl.warm hW ((xl.kept hXL hS.2.1).narrow hFc)⟩⟩ rfl rfl hl.1 rfl (lv_room (Nat.le_of_ble_eq_true rfl)) dX7_readPart_113 ⟨Nat.le_of_ble_eq_true rfl, Nat.le_of_ble_eq_true rfl⟩) hS (fun q _ h => hFc q h) hFc (fun q _ h => hFc q h) (fun E ce q9 u_48 t H1 locs ht hvm hw hB hz1 hk1 hS hcell hcv hcl => ?_) (fun u_50 t H1 locs ht hvm hw hB hz1 hk1 hS => hw.elim)
          obtain ⟨hE9, hB⟩ := hB
          subst hE9
          obtain ⟨hP1, hK1, hD1⟩ := hB
          rw [ht] at hP1
          have hK1 := va_K.moved hvm.symm hK1
          have hK1 : va_K (dC, dI) vwCl [] s := hK1
          obtain ⟨hP, hD⟩ := va_join (wr := [(eO3a lx lby lfi lco lxe lxa lxt lxp lxn lxl), (eA0 lby cBy 900 fBy), (eA0 lco cCo 23 fCo), (eA0 phe cHe 72 fHe), (eA0 phr cHr 72 fHr), (eO0a bk bto bnm bla bsk bru bbo bdi bda bdk bdt bdp bno), (eO8a bru rco rsz ren rst rkn), (eA0 rco cRc 64 fRc)]) (w1 := [(eO7a pa lx bk 2 lxp psk phe phr phs pop)]) hP hD [0] [1, 2, 3, 4, 5, 6, 7, 8] hCc rfl (by decide +kernel) (by decide +kernel) hk1 hFc hP1 hD1
          generalize H1 = H at hP hS hcell ⊢
          obtain ⟨hP, hD⟩ := zre [(eO3a lx lby lfi lco lxe lxa lxt lxp lxn lxl), (eA0 lby cBy 900 fBy), (eA0 lco cCo 23 fCo), (eA0 phe cHe 72 fHe), (eA0 phr cHr 72 fHr), (eO0a bk bto bnm bla bsk bru bbo bdi bda bdk bdt bdp bno), (eO8a bru rco rsz ren rst rkn), (eA0 rco cRc 64 fRc), (eO7a pa lx bk 2 lxp psk phe phr phs pop)] hP hD rfl
          obtain ⟨hP9, hD9⟩ := zsub2 (ws' := [(eO7a pa lx bk 2 lxp psk phe phr phs pop), (eO3a lx lby lfi lco lxe lxa lxt lxp lxn lxl), (eA0 lby cBy 900 fBy), (eA0 lco cCo 23 fCo), (eA0 phe cHe 72 fHe), (eA0 phr cHr 72 fHr), (eO0a bk bto bnm bla bsk bru bbo bdi bda bdk bdt bdp bno), (eO8a bru rco rsz ren rst rkn), (eA0 rco cRc 64 fRc)]) hP hD [8, 0, 1, 2, 3, 4, 5, 6, 7] (by decide +kernel) rfl
          have hK9 := hK.sub (tys' := []) [] rfl
          exact vx_widen (k := 1) (n := 6) (Nat.le_of_ble_eq_true rfl) (Nat.le_of_ble_eq_true rfl) (vx_out (fun x h9 => (hex x h9).elim) hlocks hcell hcv hcl (fun t ht hal => ⟨(2, lxp, phs, pop, lxa, lxt, lxp, lxn, lxl, fHe, fHr, rsz, rkn, fRc), ((fun e9 => ⟨by rw [e9], by rw [e9]⟩ : fp_readPart pfa pfp phs pop lxe lxa lxt lxp lxn lxl fBy fCo fHe fHr rsz rkn fRc = ((1 : Int32), (0 : Int32), (2 : Int32), lxp, phs, pop, lxa, lxt, lxp, lxn, lxl, fHe, fHr, rsz, rkn, fRc) → _) ((by rw [fp_readPart]; (try rw [if_pos c_1]); (try rw [if_pos c_2]); (try rw [← hq_r_25]); (try rw [xL_eq]); (try rw [if_pos c_28]); (try rw [if_neg c_31]); try rfl))), ⟨rfl, by rw [ht]; exact hP9, va_K.moved hal hK9, hD9⟩, hS.F ht⟩) hS.2.2 (Nat.le_of_ble_eq_true rfl) (Nat.le_of_ble_eq_true rfl))
      · refine lv_iconst (v := 1) hx hb dX7_readPart_40 (by decide) ?_
        refine lv_goto (tgt := 45) hx hb dX7_readPart_41 (by decide) ?_
        refine lv_istore_n (lv' := [(3, .int 1), (2, .int 1), (1, .int lxt), (0, .ref pa)]) hx hb dX7_readPart_45 rfl hl (by decide) rfl (fun ls hl => ?_)
        refine lv_aload_n hx hb dX7_readPart_46 rfl (lv_at hl 3 rfl) ?_
        refine lv_iload_n hx hb dX7_readPart_47 rfl (lv_at hl 0 rfl) ?_
        refine lv_if_ne (tgt := 68) hx hb dX7_readPart_48 (by decide) (fun _ => ?_) (fun c => absurd c (by decide))
        refine lv_iconst (v := 1) hx hb dX7_readPart_68 (by decide) ?_
        refine lv_goto (tgt := 73) hx hb dX7_readPart_69 (by decide) ?_
        refine lv_iconst (v := 1) hx hb dX7_readPart_73 (by decide) ?_
        refine lv_aload_n hx hb dX7_readPart_74 rfl (lv_at hl 3 rfl) ?_
        refine va_get (D := (dC, dI)) (ci := 7) (v := .ref lx) (C := RX7) (T := TX7) (N := 9) hx hb htw inlX7 hown hK hP 0 rfl rfl 0 (by decide) (htw _ (ck_3 _ (List.mem_of_getElem? (i := 5) rfl))) (fun _ h9 => h9) rfl dX7_readPart_75 ?_
        refine va_get (D := (dC, dI)) (ci := 3) (v := .int lxp) (C := RX3) (T := TX3) (N := 9) hx hb htw inlX3 hown hK hP 1 rfl rfl 6 (by decide) (htw _ (ck_15 _ (List.mem_of_getElem? (i := 13) rfl))) (fun _ h9 => h9) rfl dX7_readPart_78 ?_
        refine xs_size (fun hHz => ?_)
        obtain ⟨hPc, hDc, hFc, hCc⟩ := zsub3 (ws' := [(eO7a pa lx bk pfa pfp psk phe phr phs pop)]) hP hD hS hA [0] (by decide) rfl
        have hKc := hK.sub (tys' := []) [] rfl
        refine vx_callv (vx_runV (As := [.int 1, .int 1, .int lxp]) (rest := []) ⟨hx, hb, hml, hown, htw⟩ (gp_refT l hst dC dI pa lx bk pfa pfp psk phe phr phs pop (1 : Int32) (1 : Int32) lxp sL H.size (gp_readPart_s14 )) (cwV 3 htw (xg_V (ck_16 _ (List.mem_of_getElem? (i := 6) rfl)) (ck_16 _ (List.mem_of_getElem? (i := 7) rfl)) (ck_16 _ (List.mem_of_getElem? (i := 8) rfl)) (ck_1 _ (List.mem_of_getElem? (i := 16) rfl)) (ck_16 _ (List.mem_of_getElem? (i := 9) rfl))) rfl rfl rfl (by exact ⟨rfl, hdc_15.1, hdc_15.2, hdd_48⟩) ⟨Nat.le_of_ble_eq_true rfl, Nat.le_of_ble_eq_true rfl⟩) ⟨fun a U g mk q => by obtain ⟨q0, q1, qP, qK, qD, qx0⟩ := q; exact ⟨q0, q1, qP, va_K.moved (u := U) (U := U.calling g mk a) (Vm.Alike.refl U.vm) qK, qD, xl.calling qx0⟩, va_recv hKc hPc (ci := 7) (q0 := 0) rfl rfl, fun U hU hW => ⟨rfl, by rw [hU], by rw [hU]; exact hPc, va_K.moved hW.alike hKc, hDc.weaken (fun _ _ _ _ => trivial), by rw [hU]; exact xl.warm hW ((xl.kept hXL hS.2.1).narrow hFc)⟩⟩ rfl rfl hl.1 rfl (lv_room (Nat.le_of_ble_eq_true rfl)) dX7_readPart_81 ⟨Nat.le_of_ble_eq_true rfl, Nat.le_of_ble_eq_true rfl⟩) hS (fun q _ h => hFc q h) hFc (fun q _ h => hFc q h) (fun E ce q9 u_51 t H1 locs ht hvm hw hB hz1 hk1 hS hcell hcv hcl => ?_) (fun u_53 t H1 locs ht hvm hw hB hz1 hk1 hS => hw.elim)
        obtain ⟨hE9, hB⟩ := hB
        subst hE9
        obtain ⟨hP1, hK1, hD1⟩ := hB
        rw [ht] at hP1
        have hK1 := va_K.moved hvm.symm hK1
        have hK1 : va_K (dC, dI) vwCl [] s := hK1
        obtain ⟨hP, hD⟩ := va_join (wr := [(eO3a lx lby lfi lco lxe lxa lxt lxp lxn lxl), (eA0 lby cBy 900 fBy), (eA0 lco cCo 23 fCo), (eA0 phe cHe 72 fHe), (eA0 phr cHr 72 fHr), (eO0a bk bto bnm bla bsk bru bbo bdi bda bdk bdt bdp bno), (eO8a bru rco rsz ren rst rkn), (eA0 rco cRc 64 fRc)]) (w1 := [(eO7a pa lx bk 1 lxp psk phe phr phs pop)]) hP hD [0] [1, 2, 3, 4, 5, 6, 7, 8] hCc rfl (by decide +kernel) (by decide +kernel) hk1 hFc hP1 hD1
        generalize H1 = H at hP hS hcell ⊢
        obtain ⟨hP, hD⟩ := zre [(eO3a lx lby lfi lco lxe lxa lxt lxp lxn lxl), (eA0 lby cBy 900 fBy), (eA0 lco cCo 23 fCo), (eA0 phe cHe 72 fHe), (eA0 phr cHr 72 fHr), (eO0a bk bto bnm bla bsk bru bbo bdi bda bdk bdt bdp bno), (eO8a bru rco rsz ren rst rkn), (eA0 rco cRc 64 fRc), (eO7a pa lx bk 1 lxp psk phe phr phs pop)] hP hD rfl
        obtain ⟨hP9, hD9⟩ := zsub2 (ws' := [(eO7a pa lx bk 1 lxp psk phe phr phs pop), (eO3a lx lby lfi lco lxe lxa lxt lxp lxn lxl), (eA0 lby cBy 900 fBy), (eA0 lco cCo 23 fCo), (eA0 phe cHe 72 fHe), (eA0 phr cHr 72 fHr), (eO0a bk bto bnm bla bsk bru bbo bdi bda bdk bdt bdp bno), (eO8a bru rco rsz ren rst rkn), (eA0 rco cRc 64 fRc)]) hP hD [8, 0, 1, 2, 3, 4, 5, 6, 7] (by decide +kernel) rfl
        have hK9 := hK.sub (tys' := []) [] rfl
        exact vx_widen (k := 1) (n := 6) (Nat.le_of_ble_eq_true rfl) (Nat.le_of_ble_eq_true rfl) (vx_out (fun x h9 => (hex x h9).elim) hlocks hcell hcv hcl (fun t ht hal => ⟨(1, lxp, phs, pop, lxa, lxt, lxp, lxn, lxl, fHe, fHr, rsz, rkn, fRc), ((fun e9 => ⟨by rw [e9], by rw [e9]⟩ : fp_readPart pfa pfp phs pop lxe lxa lxt lxp lxn lxl fBy fCo fHe fHr rsz rkn fRc = ((1 : Int32), (0 : Int32), (1 : Int32), lxp, phs, pop, lxa, lxt, lxp, lxn, lxl, fHe, fHr, rsz, rkn, fRc) → _) ((by rw [fp_readPart]; (try rw [if_pos c_1]); (try rw [if_pos c_2]); (try rw [← hq_r_25]); (try rw [xL_eq]); (try rw [if_neg c_28]); try rfl))), ⟨rfl, by rw [ht]; exact hP9, va_K.moved hal hK9, hD9⟩, hS.F ht⟩) hS.2.2 (Nat.le_of_ble_eq_true rfl) (Nat.le_of_ble_eq_true rfl))
  · refine lv_iload_n hx hb dX7_readPart_14 rfl (lv_at hl 0 rfl) ?_
    refine lv_bipush (v := 21) hx hb dX7_readPart_15 (by decide) ?_
    refine lv_icmp_ne (tgt := 24) hx hb dX7_readPart_17 (by decide) (fun c_54 => ?_) (fun c_54 => ?_)
    · refine lv_iconst (v := 0) hx hb dX7_readPart_24 (by decide) ?_
      refine lv_istore_n (lv' := [(2, .int 0), (1, .int lxt), (0, .ref pa)]) hx hb dX7_readPart_25 rfl hl (by decide) rfl (fun ls hl => ?_)
      refine lv_iload_n hx hb dX7_readPart_26 rfl (lv_at hl 1 rfl) ?_
      refine lv_bipush (v := 21) hx hb dX7_readPart_27 (by decide) ?_
      refine lv_icmp_ne (tgt := 44) hx hb dX7_readPart_29 (by decide) (fun c_55 => ?_) (fun c_55 => absurd c_55 (fun h9 => absurd h9 c_54))
      refine lv_iconst (v := 0) hx hb dX7_readPart_44 (by decide) ?_
      refine lv_istore_n (lv' := [(3, .int 0), (2, .int 0), (1, .int lxt), (0, .ref pa)]) hx hb dX7_readPart_45 rfl hl (by decide) rfl (fun ls hl => ?_)
      refine lv_aload_n hx hb dX7_readPart_46 rfl (lv_at hl 3 rfl) ?_
      refine lv_iload_n hx hb dX7_readPart_47 rfl (lv_at hl 0 rfl) ?_
      refine lv_if_ne (tgt := 68) hx hb dX7_readPart_48 (by decide) (fun c => absurd c (by decide)) (fun _ => ?_)
      refine lv_iload_n hx hb dX7_readPart_51 rfl (lv_at hl 1 rfl) ?_
      refine lv_if_ne (tgt := 72) hx hb dX7_readPart_52 (by decide) (fun c => absurd c (by decide)) (fun _ => ?_)
      refine lv_iload_n hx hb dX7_readPart_55 rfl (lv_at hl 2 rfl) ?_
      refine lv_bipush (v := 24) hx hb dX7_readPart_56 (by decide) ?_
      refine lv_icmp_eq (tgt := 72) hx hb dX7_readPart_58 (by decide) (fun c_56 => ?_) (fun c_56 => ?_)
      · refine lv_iconst (v := 0) hx hb dX7_readPart_72 (by decide) ?_
        refine lv_iconst (v := 1) hx hb dX7_readPart_73 (by decide) ?_
        refine lv_aload_n hx hb dX7_readPart_74 rfl (lv_at hl 3 rfl) ?_
        refine va_get (D := (dC, dI)) (ci := 7) (v := .ref lx) (C := RX7) (T := TX7) (N := 9) hx hb htw inlX7 hown hK hP 0 rfl rfl 0 (by decide) (htw _ (ck_3 _ (List.mem_of_getElem? (i := 5) rfl))) (fun _ h9 => h9) rfl dX7_readPart_75 ?_
        refine va_get (D := (dC, dI)) (ci := 3) (v := .int lxp) (C := RX3) (T := TX3) (N := 9) hx hb htw inlX3 hown hK hP 1 rfl rfl 6 (by decide) (htw _ (ck_15 _ (List.mem_of_getElem? (i := 13) rfl))) (fun _ h9 => h9) rfl dX7_readPart_78 ?_
        have hPc := hP.sub (ws' := []) [] rfl
        have hKc := hK.sub (tys' := []) [] rfl
        refine va_csv (W.runV (As := [.int 0, .int 1, .int lxp]) (rest := []) ⟨hx, hb, hml, hown, htw⟩ (gp_ref0 l dC dI (0 : Int32) (1 : Int32) lxp pa (gp_readPart_s15 )) (cwV 3 htw (xg_V (ck_16 _ (List.mem_of_getElem? (i := 6) rfl)) (ck_16 _ (List.mem_of_getElem? (i := 7) rfl)) (ck_16 _ (List.mem_of_getElem? (i := 8) rfl)) (ck_1 _ (List.mem_of_getElem? (i := 16) rfl)) (ck_16 _ (List.mem_of_getElem? (i := 9) rfl))) rfl rfl rfl (by exact ⟨rfl, hdc_15.1, hdc_15.2, hdd_48⟩) ⟨Nat.le_of_ble_eq_true rfl, Nat.le_of_ble_eq_true rfl⟩) ⟨fun a U g mk q => by obtain ⟨q0, qP, qK⟩ := q; exact ⟨q0, qP, va_K.moved (u := U) (U := U.calling g mk a) (Vm.Alike.refl U.vm) qK⟩, va_recv hK hP (ci := 7) (q0 := 0) rfl rfl, fun U hU hW => ⟨rfl, by rw [hU]; exact hPc, va_K.moved hW.alike hKc⟩⟩ rfl rfl hl.1 rfl (lv_room (Nat.le_of_ble_eq_true rfl)) dX7_readPart_81 ⟨Nat.le_of_ble_eq_true rfl, Nat.le_of_ble_eq_true rfl⟩) (fun hw => ?_)
        try dsimp only at hw
        refine lv_iload_n hx hb dX7_readPart_84 rfl (lv_at hl 2 rfl) ?_
        refine lv_bipush (v := 26) hx hb dX7_readPart_85 (by decide) ?_
        refine lv_icmp_ne (tgt := 134) hx hb dX7_readPart_87 (by decide) (fun c_58 => ?_) (fun c_58 => absurd c_58 (fun h9 => absurd h9 c_1))
        refine lv_iload_n hx hb dX7_readPart_134 rfl (lv_at hl 2 rfl) ?_
        refine lv_bipush (v := 21) hx hb dX7_readPart_135 (by decide) ?_
        refine lv_icmp_ne (tgt := 152) hx hb dX7_readPart_137 (by decide) (fun c_59 => ?_) (fun c_59 => absurd c_59 (fun h9 => absurd h9 c_54))
        refine lv_iload_n hx hb dX7_readPart_152 rfl (lv_at hl 2 rfl) ?_
        refine lv_bipush (v := 24) hx hb dX7_readPart_153 (by decide) ?_
        refine lv_icmp_ne (tgt := 212) hx hb dX7_readPart_155 (by decide) (fun c_60 => absurd c_60 (fun h9 => h9 c_56)) (fun c_60 => ?_)
        refine lv_aload_n hx hb dX7_readPart_158 rfl (lv_at hl 3 rfl) ?_
        refine lv_aload_n hx hb dX7_readPart_159 rfl (lv_at hl 3 rfl) ?_
        refine va_get (D := (dC, dI)) (ci := 7) (v := .ref lx) (C := RX7) (T := TX7) (N := 9) hx hb htw inlX7 hown hK hP 0 rfl rfl 0 (by decide) (htw _ (ck_3 _ (List.mem_of_getElem? (i := 5) rfl))) (fun _ h9 => h9) rfl dX7_readPart_160 ?_
        refine va_get (D := (dC, dI)) (ci := 3) (v := .int lxn) (C := RX3) (T := TX3) (N := 9) hx hb htw inlX3 hown hK hP 1 rfl rfl 7 (by decide) (htw _ (ck_16 _ (List.mem_of_getElem? (i := 20) rfl))) (fun _ h9 => h9) rfl dX7_readPart_163 ?_
        refine lv_sipush (v := 9999) hx hb dX7_readPart_166 (by decide) ?_
        refine lv_icmp_le (tgt := 176) hx hb dX7_readPart_169 (by decide) (fun c_61 => ?_) (fun c_61 => ?_)
        · refine lv_iconst (v := 0) hx hb dX7_readPart_176 (by decide) ?_
          refine lv_iconst (v := 2) hx hb dX7_readPart_177 (by decide) ?_
          refine lv_aload_n hx hb dX7_readPart_178 rfl (lv_at hl 3 rfl) ?_
          refine va_get (D := (dC, dI)) (ci := 7) (v := .ref lx) (C := RX7) (T := TX7) (N := 9) hx hb htw inlX7 hown hK hP 0 rfl rfl 0 (by decide) (htw _ (ck_3 _ (List.mem_of_getElem? (i := 5) rfl))) (fun _ h9 => h9) rfl dX7_readPart_179 ?_
          refine va_get (D := (dC, dI)) (ci := 3) (v := .int lxp) (C := RX3) (T := TX3) (N := 9) hx hb htw inlX3 hown hK hP 1 rfl rfl 6 (by decide) (htw _ (ck_15 _ (List.mem_of_getElem? (i := 13) rfl))) (fun _ h9 => h9) rfl dX7_readPart_182 ?_
          have hPc := hP.sub (ws' := []) [] rfl
          have hKc := hK.sub (tys' := []) [] rfl
          refine va_csv (W.runV (As := [.int 0, .int 2, .int lxp]) (rest := []) ⟨hx, hb, hml, hown, htw⟩ (gp_ref0 l dC dI (0 : Int32) (2 : Int32) lxp pa (gp_readPart_s16 )) (cwV 3 htw (xg_V (ck_16 _ (List.mem_of_getElem? (i := 6) rfl)) (ck_16 _ (List.mem_of_getElem? (i := 7) rfl)) (ck_16 _ (List.mem_of_getElem? (i := 8) rfl)) (ck_1 _ (List.mem_of_getElem? (i := 16) rfl)) (ck_16 _ (List.mem_of_getElem? (i := 9) rfl))) rfl rfl rfl (by exact ⟨rfl, hdc_15.1, hdc_15.2, hdd_48⟩) ⟨Nat.le_of_ble_eq_true rfl, Nat.le_of_ble_eq_true rfl⟩) ⟨fun a U g mk q => by obtain ⟨q0, qP, qK⟩ := q; exact ⟨q0, qP, va_K.moved (u := U) (U := U.calling g mk a) (Vm.Alike.refl U.vm) qK⟩, va_recv hK hP (ci := 7) (q0 := 0) rfl rfl, fun U hU hW => ⟨rfl, by rw [hU]; exact hPc, va_K.moved hW.alike hKc⟩⟩ rfl rfl hl.1 rfl (lv_room (Nat.le_of_ble_eq_true rfl)) dX7_readPart_185 ⟨Nat.le_of_ble_eq_true rfl, Nat.le_of_ble_eq_true rfl⟩) (fun hw => ?_)
          try dsimp only at hw
          refine lv_aload_n hx hb dX7_readPart_188 rfl (lv_at hl 3 rfl) ?_
          refine xs_size (fun hHz => ?_)
          obtain ⟨hPc, hDc, hFc, hCc⟩ := zsub3 (ws' := [(eO7a pa lx bk pfa pfp psk phe phr phs pop), (eO3a lx lby lfi lco lxe lxa lxt lxp lxn lxl), (eO0a bk bto bnm bla bsk bru bbo bdi bda bdk bdt bdp bno), (eO8a bru rco rsz ren rst rkn)]) hP hD hS hA [0, 1, 6, 7] (by decide) rfl
          have hKc := hK.sub (tys' := []) [] rfl
          obtain ⟨X_63, hX_63⟩ : ∃ X9 : Int32 × (Int32) × (Int32) × (Int32), X9 = (fp_countKnot pfa pfp lxp rkn) := ⟨_, rfl⟩
          refine vx_callv (vx_runV (As := []) (rest := []) ⟨hx, hb, hml, hown, htw⟩ (gp_countKnot l hst dC dI pa lx bk pfa pfp psk phe phr phs pop lby lfi lco lxe lxa lxt lxp lxn lxl bto bnm bla bsk bru bbo bdi bda bdk bdt bdp bno rco rsz ren rst rkn sL H.size) (cwV 0 htw (xg_V (ck_19 _ (List.mem_of_getElem? (i := 6) rfl)) (ck_19 _ (List.mem_of_getElem? (i := 7) rfl)) (ck_19 _ (List.mem_of_getElem? (i := 8) rfl)) (ck_1 _ (List.mem_of_getElem? (i := 16) rfl)) (ck_19 _ (List.mem_of_getElem? (i := 9) rfl))) rfl rfl rfl (by exact ⟨rfl, hdc_15.1, hdc_15.2, hdd_13⟩) ⟨Nat.le_of_ble_eq_true rfl, Nat.le_of_ble_eq_true rfl⟩) ⟨fun a U g mk q => by obtain ⟨q0, q1, qP, qK, qD, qx0⟩ := q; exact ⟨q0, q1, qP, va_K.moved (u := U) (U := U.calling g mk a) (Vm.Alike.refl U.vm) qK, qD, xl.calling qx0⟩, va_recv hKc hPc (ci := 7) (q0 := 0) rfl rfl, fun U hU hW => ⟨rfl, by rw [hU], by rw [hU]; exact hPc, va_K.moved hW.alike hKc, hDc.weaken (fun _ _ _ _ => trivial), by rw [hU]; exact xl.warm hW ((xl.kept hXL hS.2.1).narrow hFc)⟩⟩ rfl rfl hl.1 rfl (lv_room (Nat.le_of_ble_eq_true rfl)) dX7_readPart_189 ⟨Nat.le_of_ble_eq_true rfl, Nat.le_of_ble_eq_true rfl⟩) hS (fun q _ h => hFc q h) hFc (fun q _ h => hFc q h) (fun E ce q9 u_64 t H1 locs ht hvm hw hB hz1 hk1 hS hcell hcv hcl => ?_) (fun u_66 t H1 locs ht hvm hw hB hz1 hk1 hS => ?_)
          · obtain ⟨hE9, hB⟩ := hB
            subst hE9
            obtain ⟨hP1, hK1, hD1⟩ := hB
            rw [ht] at hP1
            have hK1 := va_K.moved hvm.symm hK1
            have hK1 : va_K (dC, dI) vwCl [] s := hK1
            obtain ⟨hP, hD⟩ := va_join (wr := [(eA0 lby cBy 900 fBy), (eA0 lco cCo 23 fCo), (eA0 phe cHe 72 fHe), (eA0 phr cHr 72 fHr), (eA0 rco cRc 64 fRc)]) (w1 := [(eO7a pa lx bk u_64.1 u_64.2.1 psk phe phr phs pop), (eO3a lx lby lfi lco lxe lxa lxt lxp lxn lxl), (eO0a bk bto bnm bla bsk bru bbo bdi bda bdk bdt bdp bno), (eO8a bru rco rsz ren rst u_64.2.2)]) hP hD [0, 1, 6, 7] [2, 3, 4, 5, 8] hCc rfl (by decide) (by decide) hk1 hFc hP1 hD1
            generalize H1 = H at hP hS hcell ⊢
            obtain ⟨hP, hD⟩ := zre [(eA0 lby cBy 900 fBy), (eA0 lco cCo 23 fCo), (eA0 phe cHe 72 fHe), (eA0 phr cHr 72 fHr), (eA0 rco cRc 64 fRc), (eO7a pa lx bk u_64.1 u_64.2.1 psk phe phr phs pop), (eO3a lx lby lfi lco lxe lxa lxt lxp lxn lxl), (eO0a bk bto bnm bla bsk bru bbo bdi bda bdk bdt bdp bno), (eO8a bru rco rsz ren rst u_64.2.2)] hP hD rfl
            have hTX_63 : X_63.1 = 1 := by rw [hX_63]; exact hw.1
            have hq_u_64 : u_64 = X_63.2 := by rw [hX_63]; exact hw.2
            obtain ⟨hP9, hD9⟩ := zsub2 (ws' := [(eO7a pa lx bk u_64.1 u_64.2.1 psk phe phr phs pop), (eO3a lx lby lfi lco lxe lxa lxt lxp lxn lxl), (eA0 lby cBy 900 fBy), (eA0 lco cCo 23 fCo), (eA0 phe cHe 72 fHe), (eA0 phr cHr 72 fHr), (eO0a bk bto bnm bla bsk bru bbo bdi bda bdk bdt bdp bno), (eO8a bru rco rsz ren rst u_64.2.2), (eA0 rco cRc 64 fRc)]) hP hD [5, 6, 0, 1, 2, 3, 7, 8, 4] (by decide +kernel) rfl
            have hK9 := hK.sub (tys' := []) [] rfl
            exact vx_widen (k := 1) (n := 6) (Nat.le_of_ble_eq_true rfl) (Nat.le_of_ble_eq_true rfl) (vx_out (fun x h9 => (hex x h9).elim) hlocks hcell hcv hcl (fun t ht hal => ⟨(u_64.1, u_64.2.1, phs, pop, lxa, lxt, lxp, lxn, lxl, fHe, fHr, rsz, u_64.2.2, fRc), ((fun e9 => ⟨by rw [e9], by rw [e9]⟩ : fp_readPart pfa pfp phs pop lxe lxa lxt lxp lxn lxl fBy fCo fHe fHr rsz rkn fRc = ((1 : Int32), (0 : Int32), u_64.1, u_64.2.1, phs, pop, lxa, lxt, lxp, lxn, lxl, fHe, fHr, rsz, u_64.2.2, fRc) → _) ((by rw [fp_readPart]; (try rw [if_neg c_1]); (try rw [if_neg c_54]); (try rw [if_pos c_56]); (try rw [if_pos c_61]); (try rw [← hX_63]); (try rw [xL_eq]); (try rw [if_pos hTX_63]); (try rw [← hq_u_64]); try rfl))), ⟨rfl, by rw [ht]; exact hP9, va_K.moved hal hK9, hD9⟩, hS.F ht⟩) hS.2.2 (Nat.le_of_ble_eq_true rfl) (Nat.le_of_ble_eq_true rfl))
          · obtain ⟨hB, hsz9⟩ := hB
            obtain ⟨hP1, hK1, hD1⟩ := hB
            rw [ht] at hP1
            have hK1 := va_K.moved hvm.symm hK1
            have hK1 : va_K (dC, dI) vwCl [] s := hK1
            obtain ⟨hP, hD⟩ := va_join (wr := [(eA0 lby cBy 900 fBy), (eA0 lco cCo 23 fCo), (eA0 phe cHe 72 fHe), (eA0 phr cHr 72 fHr), (eA0 rco cRc 64 fRc)]) (w1 := [(eO7a pa lx bk u_66.1 u_66.2.1 psk phe phr phs pop), (eO3a lx lby lfi lco lxe lxa lxt lxp lxn lxl), (eO0a bk bto bnm bla bsk bru bbo bdi bda bdk bdt bdp bno), (eO8a bru rco rsz ren rst u_66.2.2)]) hP hD [0, 1, 6, 7] [2, 3, 4, 5, 8] rfl rfl (by decide) (by decide) hk1 hFc hP1 hD1
            refine xs_tight (show H1.size = s.heap.size by rw [← ht, hsz9]; exact hHz) ?_
            generalize H1 = H at hP hS ⊢
            obtain ⟨hP, hD⟩ := zre [(eA0 lby cBy 900 fBy), (eA0 lco cCo 23 fCo), (eA0 phe cHe 72 fHe), (eA0 phr cHr 72 fHr), (eA0 rco cRc 64 fRc), (eO7a pa lx bk u_66.1 u_66.2.1 psk phe phr phs pop), (eO3a lx lby lfi lco lxe lxa lxt lxp lxn lxl), (eO0a bk bto bnm bla bsk bru bbo bdi bda bdk bdt bdp bno), (eO8a bru rco rsz ren rst u_66.2.2)] hP hD rfl
            have hTX_63 : ¬ X_63.1 = 1 := by rw [hX_63, hw.1]; decide
            have hq_u_66 : u_66 = X_63.2 := by rw [hX_63]; exact hw.2
            refine lv_aload_n hx hb dX7_readPart_192 rfl (lv_at hl 3 rfl) ?_
            refine va_get (D := (dC, dI)) (ci := 7) (v := .ref bk) (C := RX7) (T := TX7) (N := 9) hx hb htw inlX7 hown hK hP 5 rfl rfl 1 (by decide) (htw _ (ck_13 _ (List.mem_of_getElem? (i := 6) rfl))) (fun _ h9 => h9) rfl dX7_readPart_193 ?_
            refine va_get (D := (dC, dI)) (ci := 0) (v := .ref bru) (C := RX0) (T := TX0) (N := 12) hx hb htw inlX0 hown hK hP 7 rfl rfl 4 (by decide) (htw _ (ck_18 _ (List.mem_of_getElem? (i := 11) rfl))) (fun _ h9 => h9) rfl dX7_readPart_196 ?_
            refine lv_aload_n hx hb dX7_readPart_199 rfl (lv_at hl 3 rfl) ?_
            refine va_get (D := (dC, dI)) (ci := 7) (v := .ref lx) (C := RX7) (T := TX7) (N := 9) hx hb htw inlX7 hown hK hP 5 rfl rfl 0 (by decide) (htw _ (ck_3 _ (List.mem_of_getElem? (i := 5) rfl))) (fun _ h9 => h9) rfl dX7_readPart_200 ?_
            refine va_get (D := (dC, dI)) (ci := 3) (v := .int lxn) (C := RX3) (T := TX3) (N := 9) hx hb htw inlX3 hown hK hP 6 rfl rfl 7 (by decide) (htw _ (ck_16 _ (List.mem_of_getElem? (i := 20) rfl))) (fun _ h9 => h9) rfl dX7_readPart_203 ?_
            obtain ⟨hPc, hDc, hFc, hCc⟩ := zsub3 (ws' := [(eO8a bru rco rsz ren rst u_66.2.2), (eA0 rco cRc 64 fRc)]) hP hD hS hA [8, 4] (by decide) rfl
            have hKc := hK.sub (tys' := [(cRc, .int)]) [4] rfl
            refine va_callv (va_runV (As := [.int lxn]) (rest := []) ⟨hx, hb, hml, hown, htw⟩ (gp_put l dC dI bru rco rsz ren rst u_66.2.2 cRc fRc lxn H.size h0_rsz) (cwV 1 htw (xg_V (ck_19 _ (List.mem_of_getElem? (i := 11) rfl)) (ck_19 _ (List.mem_of_getElem? (i := 12) rfl)) (ck_19 _ (List.mem_of_getElem? (i := 13) rfl)) (ck_6 _ (List.mem_of_getElem? (i := 8) rfl)) (ck_19 _ (List.mem_of_getElem? (i := 14) rfl))) rfl rfl rfl (by exact ⟨rfl, hdc_1.1, hdc_1.2, hdd_9⟩) ⟨Nat.le_of_ble_eq_true rfl, Nat.le_of_ble_eq_true rfl⟩) ⟨fun a U g mk q => by obtain ⟨q0, q1, qP, qK, qD⟩ := q; exact ⟨q0, q1, qP, va_K.moved (u := U) (U := U.calling g mk a) (Vm.Alike.refl U.vm) qK, qD⟩, va_recv hKc hPc (ci := 8) (q0 := 0) rfl rfl, fun U hU hW => ⟨rfl, by rw [hU], by rw [hU]; exact hPc, va_K.moved hW.alike hKc, hDc.weaken (fun _ _ _ _ => trivial)⟩⟩ rfl rfl hl.1 rfl (lv_room (Nat.le_of_ble_eq_true rfl)) dX7_readPart_206 ⟨Nat.le_of_ble_eq_true rfl, Nat.le_of_ble_eq_true rfl⟩) hS (fun q _ h => hFc q h) hFc (fun u_74 t H1 locs ht hvm hw hB hz1 hk1 hS => ?_)
            try dsimp only at hw
            obtain ⟨hP1, hK1, hD1⟩ := hB
            rw [ht] at hP1
            have hK1 := va_K.moved hvm.symm hK1
            have hK1 : va_K (dC, dI) vwCl [] s := hK1
            obtain ⟨hP, hD⟩ := va_join (wr := [(eA0 lby cBy 900 fBy), (eA0 lco cCo 23 fCo), (eA0 phe cHe 72 fHe), (eA0 phr cHr 72 fHr), (eO7a pa lx bk u_66.1 u_66.2.1 psk phe phr phs pop), (eO3a lx lby lfi lco lxe lxa lxt lxp lxn lxl), (eO0a bk bto bnm bla bsk bru bbo bdi bda bdk bdt bdp bno)]) (w1 := [(eO8a bru rco u_74.1 ren rst u_66.2.2), (eA0 rco cRc 64 u_74.2)]) hP hD [8, 4] [0, 1, 2, 3, 5, 6, 7] hCc rfl (by decide) (by decide) hk1 hFc hP1 hD1
            generalize H1 = H at hP hS ⊢
            obtain ⟨hP, hD⟩ := zre [(eA0 lby cBy 900 fBy), (eA0 lco cCo 23 fCo), (eA0 phe cHe 72 fHe), (eA0 phr cHr 72 fHr), (eO7a pa lx bk u_66.1 u_66.2.1 psk phe phr phs pop), (eO3a lx lby lfi lco lxe lxa lxt lxp lxn lxl), (eO0a bk bto bnm bla bsk bru bbo bdi bda bdk bdt bdp bno), (eO8a bru rco u_74.1 ren rst u_66.2.2), (eA0 rco cRc 64 u_74.2)] hP hD rfl
            refine W.widen (k := 0) (n := 0) (by omega) (by omega) ?_
            obtain ⟨hw, hp_77⟩ := hw
            have hq_u_74 : u_74 = (fp_put rsz fRc lxn) := hw
            refine lv_goto (tgt := 230) hx hb dX7_readPart_209 (by decide) ?_
            refine lv_aload_n hx hb dX7_readPart_230 rfl (lv_at hl 3 rfl) ?_
            refine va_get (D := (dC, dI)) (ci := 7) (v := .ref lx) (C := RX7) (T := TX7) (N := 9) hx hb htw inlX7 hown hK hP 4 rfl rfl 0 (by decide) (htw _ (ck_3 _ (List.mem_of_getElem? (i := 5) rfl))) (fun _ h9 => h9) rfl dX7_readPart_231 ?_
            obtain ⟨hPc, hDc, hFc, hCc⟩ := zsub3 (ws' := [(eO3a lx lby lfi lco lxe lxa lxt lxp lxn lxl), (eA0 lby cBy 900 fBy), (eA0 lco cCo 23 fCo)]) hP hD hS hA [5, 0, 1] (by decide) rfl
            have hKc := hK.sub (tys' := [(cBy, .byte), (cCo, .int)]) [0, 1] rfl
            refine va_callv (va_runV (As := []) (rest := []) ⟨hx, hb, hml, hown, htw⟩ (gz_advance l dC dI lx lby lfi lco lxe lxa lxt lxp lxn lxl cBy fBy cCo fCo H.size h0_lxa h9_lxe) (cwV 0 htw (xg_V (ck_16 _ (List.mem_of_getElem? (i := 11) rfl)) (ck_14 _ (List.mem_of_getElem? (i := 13) rfl)) (ck_14 _ (List.mem_of_getElem? (i := 14) rfl)) (ck_3 _ (List.mem_of_getElem? (i := 4) rfl)) (ck_14 _ (List.mem_of_getElem? (i := 15) rfl))) rfl rfl rfl (by exact ⟨rfl, hdc_4.1, hdc_4.2, hdd_13⟩) ⟨Nat.le_of_ble_eq_true rfl, Nat.le_of_ble_eq_true rfl⟩) ⟨fun a U g mk q => by obtain ⟨q0, q1, qP, qK, qD⟩ := q; exact ⟨q0, q1, qP, va_K.moved (u := U) (U := U.calling g mk a) (Vm.Alike.refl U.vm) qK, qD⟩, va_recv hKc hPc (ci := 3) (q0 := 0) rfl rfl, fun U hU hW => ⟨rfl, by rw [hU], by rw [hU]; exact hPc, va_K.moved hW.alike hKc, hDc.weaken (fun _ _ _ _ => trivial)⟩⟩ rfl rfl hl.1 rfl (lv_room (Nat.le_of_ble_eq_true rfl)) dX7_readPart_234 ⟨Nat.le_of_ble_eq_true rfl, Nat.le_of_ble_eq_true rfl⟩) hS (fun q _ h => hFc q h) hFc (fun u_79 t H1 locs ht hvm hw hB hz1 hk1 hS => ?_)
            try dsimp only at hw
            obtain ⟨hP1, hK1, hD1⟩ := hB
            rw [ht] at hP1
            have hK1 := va_K.moved hvm.symm hK1
            have hK1 : va_K (dC, dI) vwCl [] s := hK1
            obtain ⟨hP, hD⟩ := va_join (wr := [(eA0 phe cHe 72 fHe), (eA0 phr cHr 72 fHr), (eO7a pa lx bk u_66.1 u_66.2.1 psk phe phr phs pop), (eO0a bk bto bnm bla bsk bru bbo bdi bda bdk bdt bdp bno), (eO8a bru rco u_74.1 ren rst u_66.2.2), (eA0 rco cRc 64 u_74.2)]) (w1 := [(eO3a lx lby lfi lco lxe u_79.1 u_79.2.1 u_79.2.2.1 u_79.2.2.2.1 u_79.2.2.2.2), (eA0 lby cBy 900 fBy), (eA0 lco cCo 23 fCo)]) hP hD [5, 0, 1] [2, 3, 4, 6, 7, 8] hCc rfl (by decide) (by decide) hk1 hFc hP1 hD1
            generalize H1 = H at hP hS ⊢
            obtain ⟨hP, hD⟩ := zre [(eA0 phe cHe 72 fHe), (eA0 phr cHr 72 fHr), (eO7a pa lx bk u_66.1 u_66.2.1 psk phe phr phs pop), (eO0a bk bto bnm bla bsk bru bbo bdi bda bdk bdt bdp bno), (eO8a bru rco u_74.1 ren rst u_66.2.2), (eA0 rco cRc 64 u_74.2), (eO3a lx lby lfi lco lxe u_79.1 u_79.2.1 u_79.2.2.1 u_79.2.2.2.1 u_79.2.2.2.2), (eA0 lby cBy 900 fBy), (eA0 lco cCo 23 fCo)] hP hD rfl
            refine W.widen (k := 0) (n := 0) (by omega) (by omega) ?_
            obtain ⟨hw, hp_85⟩ := hw
            have hq_u_79 : u_79 = (fe_advance lxe lxa lxn lxl fBy fCo) := hw
            refine lv_iload_n hx hb dX7_readPart_237 rfl (lv_at hl 1 rfl) ?_
            refine xs_size (fun hHz => ?_)
            refine vx_ret ?_
            refine W.widen (k := 1) (n := 6) (by omega) (by omega) ?_
            obtain ⟨hP9, hD9⟩ := zsub2 (ws' := [(eO7a pa lx bk u_66.1 u_66.2.1 psk phe phr phs pop), (eO3a lx lby lfi lco lxe u_79.1 u_79.2.1 u_79.2.2.1 u_79.2.2.2.1 u_79.2.2.2.2), (eA0 lby cBy 900 fBy), (eA0 lco cCo 23 fCo), (eA0 phe cHe 72 fHe), (eA0 phr cHr 72 fHr), (eO0a bk bto bnm bla bsk bru bbo bdi bda bdk bdt bdp bno), (eO8a bru rco u_74.1 ren rst u_66.2.2), (eA0 rco cRc 64 u_74.2)]) hP hD [2, 6, 7, 8, 0, 1, 3, 4, 5] (by decide +kernel) rfl
            have hK9 := hK.sub (tys' := []) [] rfl
            exact W.zret (v := 0) hx hb hr (by first | rfl | decide) (fun t ht hW => ⟨⟨0, (u_66.1, u_66.2.1, phs, pop, u_79.1, u_79.2.1, u_79.2.2.1, u_79.2.2.2.1, u_79.2.2.2.2, fHe, fHr, u_74.1, u_66.2.2, u_74.2), rfl, ⟨((fun e9 => ⟨by rw [e9], by rw [e9], by rw [e9]⟩ : fp_readPart pfa pfp phs pop lxe lxa lxt lxp lxn lxl fBy fCo fHe fHr rsz rkn fRc = ((0 : Int32), (0 : Int32), u_66.1, u_66.2.1, phs, pop, u_79.1, u_79.2.1, u_79.2.2.1, u_79.2.2.2.1, u_79.2.2.2.2, fHe, fHr, u_74.1, u_66.2.2, u_74.2) → _) ((by rw [fp_readPart]; (try rw [if_neg c_1]); (try rw [if_neg c_54]); (try rw [if_pos c_56]); (try rw [if_pos c_61]); (try rw [← hX_63]); (try rw [xL_eq]); (try rw [if_neg hTX_63]); (try rw [← hq_u_66]); (try rw [← hq_u_74]); (try rw [xL_eq]); (try rw [← hq_u_79]); (try rw [xL_eq]); try rfl))), Or.inl rfl, (gp_readPart_s17 (y0 := u_79.1) hp_85), (gp_readPart_s18 (y0 := phs) h0_phs h7_phs), (gp_readPart_s19 (y0 := phs) h0_phs h7_phs), (gp_readPart_s20 (y0 := u_74.1) hp_77)⟩, ⟨by rw [ht]; exact hP9, va_K.moved hW.alike hK9, hD9⟩, by rw [ht]; first | exact hHz | exact hHz.trans (by rw [rH])⟩, hS.F ht⟩) hS.2.2 dX7_readPart_238
        · refine lv_iconst (v := 1) hx hb dX7_readPart_172 (by decide) ?_
          refine lv_goto (tgt := 177) hx hb dX7_readPart_173 (by decide) ?_
          refine lv_iconst (v := 2) hx hb dX7_readPart_177 (by decide) ?_
          refine lv_aload_n hx hb dX7_readPart_178 rfl (lv_at hl 3 rfl) ?_
          refine va_get (D := (dC, dI)) (ci := 7) (v := .ref lx) (C := RX7) (T := TX7) (N := 9) hx hb htw inlX7 hown hK hP 0 rfl rfl 0 (by decide) (htw _ (ck_3 _ (List.mem_of_getElem? (i := 5) rfl))) (fun _ h9 => h9) rfl dX7_readPart_179 ?_
          refine va_get (D := (dC, dI)) (ci := 3) (v := .int lxp) (C := RX3) (T := TX3) (N := 9) hx hb htw inlX3 hown hK hP 1 rfl rfl 6 (by decide) (htw _ (ck_15 _ (List.mem_of_getElem? (i := 13) rfl))) (fun _ h9 => h9) rfl dX7_readPart_182 ?_
          refine xs_size (fun hHz => ?_)
          obtain ⟨hPc, hDc, hFc, hCc⟩ := zsub3 (ws' := [(eO7a pa lx bk pfa pfp psk phe phr phs pop)]) hP hD hS hA [0] (by decide) rfl
          have hKc := hK.sub (tys' := []) [] rfl
          refine vx_callv (vx_runV (As := [.int 1, .int 2, .int lxp]) (rest := []) ⟨hx, hb, hml, hown, htw⟩ (gp_refT l hst dC dI pa lx bk pfa pfp psk phe phr phs pop (1 : Int32) (2 : Int32) lxp sL H.size (gp_readPart_s21 )) (cwV 3 htw (xg_V (ck_16 _ (List.mem_of_getElem? (i := 6) rfl)) (ck_16 _ (List.mem_of_getElem? (i := 7) rfl)) (ck_16 _ (List.mem_of_getElem? (i := 8) rfl)) (ck_1 _ (List.mem_of_getElem? (i := 16) rfl)) (ck_16 _ (List.mem_of_getElem? (i := 9) rfl))) rfl rfl rfl (by exact ⟨rfl, hdc_15.1, hdc_15.2, hdd_48⟩) ⟨Nat.le_of_ble_eq_true rfl, Nat.le_of_ble_eq_true rfl⟩) ⟨fun a U g mk q => by obtain ⟨q0, q1, qP, qK, qD, qx0⟩ := q; exact ⟨q0, q1, qP, va_K.moved (u := U) (U := U.calling g mk a) (Vm.Alike.refl U.vm) qK, qD, xl.calling qx0⟩, va_recv hKc hPc (ci := 7) (q0 := 0) rfl rfl, fun U hU hW => ⟨rfl, by rw [hU], by rw [hU]; exact hPc, va_K.moved hW.alike hKc, hDc.weaken (fun _ _ _ _ => trivial), by rw [hU]; exact xl.warm hW ((xl.kept hXL hS.2.1).narrow hFc)⟩⟩ rfl rfl hl.1 rfl (lv_room (Nat.le_of_ble_eq_true rfl)) dX7_readPart_185 ⟨Nat.le_of_ble_eq_true rfl, Nat.le_of_ble_eq_true rfl⟩) hS (fun q _ h => hFc q h) hFc (fun q _ h => hFc q h) (fun E ce q9 u_86 t H1 locs ht hvm hw hB hz1 hk1 hS hcell hcv hcl => ?_) (fun u_88 t H1 locs ht hvm hw hB hz1 hk1 hS => hw.elim)
          obtain ⟨hE9, hB⟩ := hB
          subst hE9
          obtain ⟨hP1, hK1, hD1⟩ := hB
          rw [ht] at hP1
          have hK1 := va_K.moved hvm.symm hK1
          have hK1 : va_K (dC, dI) vwCl [] s := hK1
          obtain ⟨hP, hD⟩ := va_join (wr := [(eO3a lx lby lfi lco lxe lxa lxt lxp lxn lxl), (eA0 lby cBy 900 fBy), (eA0 lco cCo 23 fCo), (eA0 phe cHe 72 fHe), (eA0 phr cHr 72 fHr), (eO0a bk bto bnm bla bsk bru bbo bdi bda bdk bdt bdp bno), (eO8a bru rco rsz ren rst rkn), (eA0 rco cRc 64 fRc)]) (w1 := [(eO7a pa lx bk 2 lxp psk phe phr phs pop)]) hP hD [0] [1, 2, 3, 4, 5, 6, 7, 8] hCc rfl (by decide +kernel) (by decide +kernel) hk1 hFc hP1 hD1
          generalize H1 = H at hP hS hcell ⊢
          obtain ⟨hP, hD⟩ := zre [(eO3a lx lby lfi lco lxe lxa lxt lxp lxn lxl), (eA0 lby cBy 900 fBy), (eA0 lco cCo 23 fCo), (eA0 phe cHe 72 fHe), (eA0 phr cHr 72 fHr), (eO0a bk bto bnm bla bsk bru bbo bdi bda bdk bdt bdp bno), (eO8a bru rco rsz ren rst rkn), (eA0 rco cRc 64 fRc), (eO7a pa lx bk 2 lxp psk phe phr phs pop)] hP hD rfl
          obtain ⟨hP9, hD9⟩ := zsub2 (ws' := [(eO7a pa lx bk 2 lxp psk phe phr phs pop), (eO3a lx lby lfi lco lxe lxa lxt lxp lxn lxl), (eA0 lby cBy 900 fBy), (eA0 lco cCo 23 fCo), (eA0 phe cHe 72 fHe), (eA0 phr cHr 72 fHr), (eO0a bk bto bnm bla bsk bru bbo bdi bda bdk bdt bdp bno), (eO8a bru rco rsz ren rst rkn), (eA0 rco cRc 64 fRc)]) hP hD [8, 0, 1, 2, 3, 4, 5, 6, 7] (by decide +kernel) rfl
          have hK9 := hK.sub (tys' := []) [] rfl
          exact vx_widen (k := 1) (n := 6) (Nat.le_of_ble_eq_true rfl) (Nat.le_of_ble_eq_true rfl) (vx_out (fun x h9 => (hex x h9).elim) hlocks hcell hcv hcl (fun t ht hal => ⟨(2, lxp, phs, pop, lxa, lxt, lxp, lxn, lxl, fHe, fHr, rsz, rkn, fRc), ((fun e9 => ⟨by rw [e9], by rw [e9]⟩ : fp_readPart pfa pfp phs pop lxe lxa lxt lxp lxn lxl fBy fCo fHe fHr rsz rkn fRc = ((1 : Int32), (0 : Int32), (2 : Int32), lxp, phs, pop, lxa, lxt, lxp, lxn, lxl, fHe, fHr, rsz, rkn, fRc) → _) ((by rw [fp_readPart]; (try rw [if_neg c_1]); (try rw [if_neg c_54]); (try rw [if_pos c_56]); (try rw [if_neg c_61]); try rfl))), ⟨rfl, by rw [ht]; exact hP9, va_K.moved hal hK9, hD9⟩, hS.F ht⟩) hS.2.2 (Nat.le_of_ble_eq_true rfl) (Nat.le_of_ble_eq_true rfl))
      · refine lv_iload_n hx hb dX7_readPart_61 rfl (lv_at hl 2 rfl) ?_
        have hPc := hP.sub (ws' := []) [] rfl
        have hKc := hK.sub (tys' := []) [] rfl
        refine vp_callSi (W.runS (As := [.int lxt]) (rest := [.ref pa]) ⟨hx, hb, hml, hown, htw⟩ (gr_isName l dC dI lxt) (va_cwS 1 htw (xg_S (ck_18 _ (List.mem_of_getElem? (i := 20) rfl)) (ck_18 _ (List.mem_of_getElem? (i := 21) rfl)) (ck_6 _ (List.mem_of_getElem? (i := 8) rfl)) (ck_18 _ (List.mem_of_getElem? (i := 22) rfl))) rfl rfl rfl (by exact ⟨hdc_1.1, hdc_1.2, hdd_26⟩) ⟨Nat.le_of_ble_eq_true rfl, Nat.le_of_ble_eq_true rfl⟩) ⟨fun a U g mk q => by obtain ⟨q0, qP, qK⟩ := q; exact ⟨q0, qP, va_K.moved (u := U) (U := U.calling g mk a) (Vm.Alike.refl U.vm) qK⟩, fun U hU hW => ⟨rfl, by rw [hU]; exact hPc, va_K.moved hW.alike hKc⟩⟩ rfl rfl hl.1 rfl (lv_room (Nat.le_of_ble_eq_true rfl)) dX7_readPart_62 ⟨Nat.le_of_ble_eq_true rfl, Nat.le_of_ble_eq_true rfl⟩) (fun r_89 hw => ?_)
        try dsimp only at hw
        have hq_r_89 : r_89 = fr_isName lxt := hw
        refine lv_if_ne (tgt := 72) hx hb dX7_readPart_65 (by decide) (fun c_90 => ?_) (fun c_90 => ?_)
        · refine lv_iconst (v := 0) hx hb dX7_readPart_72 (by decide) ?_
          refine lv_iconst (v := 1) hx hb dX7_readPart_73 (by decide) ?_
          refine lv_aload_n hx hb dX7_readPart_74 rfl (lv_at hl 3 rfl) ?_
          refine va_get (D := (dC, dI)) (ci := 7) (v := .ref lx) (C := RX7) (T := TX7) (N := 9) hx hb htw inlX7 hown hK hP 0 rfl rfl 0 (by decide) (htw _ (ck_3 _ (List.mem_of_getElem? (i := 5) rfl))) (fun _ h9 => h9) rfl dX7_readPart_75 ?_
          refine va_get (D := (dC, dI)) (ci := 3) (v := .int lxp) (C := RX3) (T := TX3) (N := 9) hx hb htw inlX3 hown hK hP 1 rfl rfl 6 (by decide) (htw _ (ck_15 _ (List.mem_of_getElem? (i := 13) rfl))) (fun _ h9 => h9) rfl dX7_readPart_78 ?_
          have hPc := hP.sub (ws' := []) [] rfl
          have hKc := hK.sub (tys' := []) [] rfl
          refine va_csv (W.runV (As := [.int 0, .int 1, .int lxp]) (rest := []) ⟨hx, hb, hml, hown, htw⟩ (gp_ref0 l dC dI (0 : Int32) (1 : Int32) lxp pa (gp_readPart_s22 )) (cwV 3 htw (xg_V (ck_16 _ (List.mem_of_getElem? (i := 6) rfl)) (ck_16 _ (List.mem_of_getElem? (i := 7) rfl)) (ck_16 _ (List.mem_of_getElem? (i := 8) rfl)) (ck_1 _ (List.mem_of_getElem? (i := 16) rfl)) (ck_16 _ (List.mem_of_getElem? (i := 9) rfl))) rfl rfl rfl (by exact ⟨rfl, hdc_15.1, hdc_15.2, hdd_48⟩) ⟨Nat.le_of_ble_eq_true rfl, Nat.le_of_ble_eq_true rfl⟩) ⟨fun a U g mk q => by obtain ⟨q0, qP, qK⟩ := q; exact ⟨q0, qP, va_K.moved (u := U) (U := U.calling g mk a) (Vm.Alike.refl U.vm) qK⟩, va_recv hK hP (ci := 7) (q0 := 0) rfl rfl, fun U hU hW => ⟨rfl, by rw [hU]; exact hPc, va_K.moved hW.alike hKc⟩⟩ rfl rfl hl.1 rfl (lv_room (Nat.le_of_ble_eq_true rfl)) dX7_readPart_81 ⟨Nat.le_of_ble_eq_true rfl, Nat.le_of_ble_eq_true rfl⟩) (fun hw => ?_)
          try dsimp only at hw
          refine lv_iload_n hx hb dX7_readPart_84 rfl (lv_at hl 2 rfl) ?_
          refine lv_bipush (v := 26) hx hb dX7_readPart_85 (by decide) ?_
          refine lv_icmp_ne (tgt := 134) hx hb dX7_readPart_87 (by decide) (fun c_92 => ?_) (fun c_92 => absurd c_92 (fun h9 => absurd h9 c_1))
          refine lv_iload_n hx hb dX7_readPart_134 rfl (lv_at hl 2 rfl) ?_
          refine lv_bipush (v := 21) hx hb dX7_readPart_135 (by decide) ?_
          refine lv_icmp_ne (tgt := 152) hx hb dX7_readPart_137 (by decide) (fun c_93 => ?_) (fun c_93 => absurd c_93 (fun h9 => absurd h9 c_54))
          refine lv_iload_n hx hb dX7_readPart_152 rfl (lv_at hl 2 rfl) ?_
          refine lv_bipush (v := 24) hx hb dX7_readPart_153 (by decide) ?_
          refine lv_icmp_ne (tgt := 212) hx hb dX7_readPart_155 (by decide) (fun c_94 => ?_) (fun c_94 => absurd c_94 (fun h9 => absurd h9 c_56))
          refine lv_aload_n hx hb dX7_readPart_212 rfl (lv_at hl 3 rfl) ?_
          refine xs_size (fun hHz => ?_)
          obtain ⟨hPc, hDc, hFc, hCc⟩ := zsub3 (ws' := [(eO7a pa lx bk pfa pfp psk phe phr phs pop), (eO3a lx lby lfi lco lxe lxa lxt lxp lxn lxl), (eO0a bk bto bnm bla bsk bru bbo bdi bda bdk bdt bdp bno), (eO8a bru rco rsz ren rst rkn)]) hP hD hS hA [0, 1, 6, 7] (by decide) rfl
          have hKc := hK.sub (tys' := []) [] rfl
          obtain ⟨X_95, hX_95⟩ : ∃ X9 : Int32 × (Int32) × (Int32) × (Int32), X9 = (fp_countKnot pfa pfp lxp rkn) := ⟨_, rfl⟩
          refine vx_callv (vx_runV (As := []) (rest := []) ⟨hx, hb, hml, hown, htw⟩ (gp_countKnot l hst dC dI pa lx bk pfa pfp psk phe phr phs pop lby lfi lco lxe lxa lxt lxp lxn lxl bto bnm bla bsk bru bbo bdi bda bdk bdt bdp bno rco rsz ren rst rkn sL H.size) (cwV 0 htw (xg_V (ck_19 _ (List.mem_of_getElem? (i := 6) rfl)) (ck_19 _ (List.mem_of_getElem? (i := 7) rfl)) (ck_19 _ (List.mem_of_getElem? (i := 8) rfl)) (ck_1 _ (List.mem_of_getElem? (i := 16) rfl)) (ck_19 _ (List.mem_of_getElem? (i := 9) rfl))) rfl rfl rfl (by exact ⟨rfl, hdc_15.1, hdc_15.2, hdd_13⟩) ⟨Nat.le_of_ble_eq_true rfl, Nat.le_of_ble_eq_true rfl⟩) ⟨fun a U g mk q => by obtain ⟨q0, q1, qP, qK, qD, qx0⟩ := q; exact ⟨q0, q1, qP, va_K.moved (u := U) (U := U.calling g mk a) (Vm.Alike.refl U.vm) qK, qD, xl.calling qx0⟩, va_recv hKc hPc (ci := 7) (q0 := 0) rfl rfl, fun U hU hW => ⟨rfl, by rw [hU], by rw [hU]; exact hPc, va_K.moved hW.alike hKc, hDc.weaken (fun _ _ _ _ => trivial), by rw [hU]; exact xl.warm hW ((xl.kept hXL hS.2.1).narrow hFc)⟩⟩ rfl rfl hl.1 rfl (lv_room (Nat.le_of_ble_eq_true rfl)) dX7_readPart_213 ⟨Nat.le_of_ble_eq_true rfl, Nat.le_of_ble_eq_true rfl⟩) hS (fun q _ h => hFc q h) hFc (fun q _ h => hFc q h) (fun E ce q9 u_96 t H1 locs ht hvm hw hB hz1 hk1 hS hcell hcv hcl => ?_) (fun u_98 t H1 locs ht hvm hw hB hz1 hk1 hS => ?_)
          · obtain ⟨hE9, hB⟩ := hB
            subst hE9
            obtain ⟨hP1, hK1, hD1⟩ := hB
            rw [ht] at hP1
            have hK1 := va_K.moved hvm.symm hK1
            have hK1 : va_K (dC, dI) vwCl [] s := hK1
            obtain ⟨hP, hD⟩ := va_join (wr := [(eA0 lby cBy 900 fBy), (eA0 lco cCo 23 fCo), (eA0 phe cHe 72 fHe), (eA0 phr cHr 72 fHr), (eA0 rco cRc 64 fRc)]) (w1 := [(eO7a pa lx bk u_96.1 u_96.2.1 psk phe phr phs pop), (eO3a lx lby lfi lco lxe lxa lxt lxp lxn lxl), (eO0a bk bto bnm bla bsk bru bbo bdi bda bdk bdt bdp bno), (eO8a bru rco rsz ren rst u_96.2.2)]) hP hD [0, 1, 6, 7] [2, 3, 4, 5, 8] hCc rfl (by decide) (by decide) hk1 hFc hP1 hD1
            generalize H1 = H at hP hS hcell ⊢
            obtain ⟨hP, hD⟩ := zre [(eA0 lby cBy 900 fBy), (eA0 lco cCo 23 fCo), (eA0 phe cHe 72 fHe), (eA0 phr cHr 72 fHr), (eA0 rco cRc 64 fRc), (eO7a pa lx bk u_96.1 u_96.2.1 psk phe phr phs pop), (eO3a lx lby lfi lco lxe lxa lxt lxp lxn lxl), (eO0a bk bto bnm bla bsk bru bbo bdi bda bdk bdt bdp bno), (eO8a bru rco rsz ren rst u_96.2.2)] hP hD rfl
            have hTX_95 : X_95.1 = 1 := by rw [hX_95]; exact hw.1
            have hq_u_96 : u_96 = X_95.2 := by rw [hX_95]; exact hw.2
            obtain ⟨hP9, hD9⟩ := zsub2 (ws' := [(eO7a pa lx bk u_96.1 u_96.2.1 psk phe phr phs pop), (eO3a lx lby lfi lco lxe lxa lxt lxp lxn lxl), (eA0 lby cBy 900 fBy), (eA0 lco cCo 23 fCo), (eA0 phe cHe 72 fHe), (eA0 phr cHr 72 fHr), (eO0a bk bto bnm bla bsk bru bbo bdi bda bdk bdt bdp bno), (eO8a bru rco rsz ren rst u_96.2.2), (eA0 rco cRc 64 fRc)]) hP hD [5, 6, 0, 1, 2, 3, 7, 8, 4] (by decide +kernel) rfl
            have hK9 := hK.sub (tys' := []) [] rfl
            exact vx_widen (k := 1) (n := 6) (Nat.le_of_ble_eq_true rfl) (Nat.le_of_ble_eq_true rfl) (vx_out (fun x h9 => (hex x h9).elim) hlocks hcell hcv hcl (fun t ht hal => ⟨(u_96.1, u_96.2.1, phs, pop, lxa, lxt, lxp, lxn, lxl, fHe, fHr, rsz, u_96.2.2, fRc), ((fun e9 => ⟨by rw [e9], by rw [e9]⟩ : fp_readPart pfa pfp phs pop lxe lxa lxt lxp lxn lxl fBy fCo fHe fHr rsz rkn fRc = ((1 : Int32), (0 : Int32), u_96.1, u_96.2.1, phs, pop, lxa, lxt, lxp, lxn, lxl, fHe, fHr, rsz, u_96.2.2, fRc) → _) ((by rw [fp_readPart]; (try rw [if_neg c_1]); (try rw [if_neg c_54]); (try rw [if_neg c_56]); (try rw [← hq_r_89]); (try rw [xL_eq]); (try rw [if_neg c_90]); (try rw [← hX_95]); (try rw [xL_eq]); (try rw [if_pos hTX_95]); (try rw [← hq_u_96]); try rfl))), ⟨rfl, by rw [ht]; exact hP9, va_K.moved hal hK9, hD9⟩, hS.F ht⟩) hS.2.2 (Nat.le_of_ble_eq_true rfl) (Nat.le_of_ble_eq_true rfl))
          · obtain ⟨hB, hsz9⟩ := hB
            obtain ⟨hP1, hK1, hD1⟩ := hB
            rw [ht] at hP1
            have hK1 := va_K.moved hvm.symm hK1
            have hK1 : va_K (dC, dI) vwCl [] s := hK1
            obtain ⟨hP, hD⟩ := va_join (wr := [(eA0 lby cBy 900 fBy), (eA0 lco cCo 23 fCo), (eA0 phe cHe 72 fHe), (eA0 phr cHr 72 fHr), (eA0 rco cRc 64 fRc)]) (w1 := [(eO7a pa lx bk u_98.1 u_98.2.1 psk phe phr phs pop), (eO3a lx lby lfi lco lxe lxa lxt lxp lxn lxl), (eO0a bk bto bnm bla bsk bru bbo bdi bda bdk bdt bdp bno), (eO8a bru rco rsz ren rst u_98.2.2)]) hP hD [0, 1, 6, 7] [2, 3, 4, 5, 8] rfl rfl (by decide) (by decide) hk1 hFc hP1 hD1
            refine xs_tight (show H1.size = s.heap.size by rw [← ht, hsz9]; exact hHz) ?_
            generalize H1 = H at hP hS ⊢
            obtain ⟨hP, hD⟩ := zre [(eA0 lby cBy 900 fBy), (eA0 lco cCo 23 fCo), (eA0 phe cHe 72 fHe), (eA0 phr cHr 72 fHr), (eA0 rco cRc 64 fRc), (eO7a pa lx bk u_98.1 u_98.2.1 psk phe phr phs pop), (eO3a lx lby lfi lco lxe lxa lxt lxp lxn lxl), (eO0a bk bto bnm bla bsk bru bbo bdi bda bdk bdt bdp bno), (eO8a bru rco rsz ren rst u_98.2.2)] hP hD rfl
            have hTX_95 : ¬ X_95.1 = 1 := by rw [hX_95, hw.1]; decide
            have hq_u_98 : u_98 = X_95.2 := by rw [hX_95]; exact hw.2
            refine lv_aload_n hx hb dX7_readPart_216 rfl (lv_at hl 3 rfl) ?_
            refine va_get (D := (dC, dI)) (ci := 7) (v := .ref bk) (C := RX7) (T := TX7) (N := 9) hx hb htw inlX7 hown hK hP 5 rfl rfl 1 (by decide) (htw _ (ck_13 _ (List.mem_of_getElem? (i := 6) rfl))) (fun _ h9 => h9) rfl dX7_readPart_217 ?_
            refine va_get (D := (dC, dI)) (ci := 0) (v := .ref bru) (C := RX0) (T := TX0) (N := 12) hx hb htw inlX0 hown hK hP 7 rfl rfl 4 (by decide) (htw _ (ck_18 _ (List.mem_of_getElem? (i := 11) rfl))) (fun _ h9 => h9) rfl dX7_readPart_220 ?_
            refine lv_iload_n hx hb dX7_readPart_223 rfl (lv_at hl 2 rfl) ?_
            have hPc := hP.sub (ws' := []) [] rfl
            have hKc := hK.sub (tys' := []) [] rfl
            refine vp_callSi (W.runS (As := [.int lxt]) (rest := [.ref bru]) ⟨hx, hb, hml, hown, htw⟩ (gr_knotOf l dC dI lxt) (va_cwS 1 htw (xg_S (ck_19 _ (List.mem_of_getElem? (i := 15) rfl)) (ck_19 _ (List.mem_of_getElem? (i := 16) rfl)) (ck_6 _ (List.mem_of_getElem? (i := 8) rfl)) (ck_19 _ (List.mem_of_getElem? (i := 17) rfl))) rfl rfl rfl (by exact ⟨hdc_1.1, hdc_1.2, hdd_2⟩) ⟨Nat.le_of_ble_eq_true rfl, Nat.le_of_ble_eq_true rfl⟩) ⟨fun a U g mk q => by obtain ⟨q0, qP, qK⟩ := q; exact ⟨q0, qP, va_K.moved (u := U) (U := U.calling g mk a) (Vm.Alike.refl U.vm) qK⟩, fun U hU hW => ⟨rfl, by rw [hU]; exact hPc, va_K.moved hW.alike hKc⟩⟩ rfl rfl hl.1 rfl (lv_room (Nat.le_of_ble_eq_true rfl)) dX7_readPart_224 ⟨Nat.le_of_ble_eq_true rfl, Nat.le_of_ble_eq_true rfl⟩) (fun r_105 hw => ?_)
            try dsimp only at hw
            have hq_r_105 : r_105 = fr_knotOf lxt := hw
            obtain ⟨hPc, hDc, hFc, hCc⟩ := zsub3 (ws' := [(eO8a bru rco rsz ren rst u_98.2.2), (eA0 rco cRc 64 fRc)]) hP hD hS hA [8, 4] (by decide) rfl
            have hKc := hK.sub (tys' := [(cRc, .int)]) [4] rfl
            refine va_callv (va_runV (As := [.int r_105]) (rest := []) ⟨hx, hb, hml, hown, htw⟩ (gp_put l dC dI bru rco rsz ren rst u_98.2.2 cRc fRc r_105 H.size h0_rsz) (cwV 1 htw (xg_V (ck_19 _ (List.mem_of_getElem? (i := 11) rfl)) (ck_19 _ (List.mem_of_getElem? (i := 12) rfl)) (ck_19 _ (List.mem_of_getElem? (i := 13) rfl)) (ck_6 _ (List.mem_of_getElem? (i := 8) rfl)) (ck_19 _ (List.mem_of_getElem? (i := 14) rfl))) rfl rfl rfl (by exact ⟨rfl, hdc_1.1, hdc_1.2, hdd_9⟩) ⟨Nat.le_of_ble_eq_true rfl, Nat.le_of_ble_eq_true rfl⟩) ⟨fun a U g mk q => by obtain ⟨q0, q1, qP, qK, qD⟩ := q; exact ⟨q0, q1, qP, va_K.moved (u := U) (U := U.calling g mk a) (Vm.Alike.refl U.vm) qK, qD⟩, va_recv hKc hPc (ci := 8) (q0 := 0) rfl rfl, fun U hU hW => ⟨rfl, by rw [hU], by rw [hU]; exact hPc, va_K.moved hW.alike hKc, hDc.weaken (fun _ _ _ _ => trivial)⟩⟩ rfl rfl hl.1 rfl (lv_room (Nat.le_of_ble_eq_true rfl)) dX7_readPart_227 ⟨Nat.le_of_ble_eq_true rfl, Nat.le_of_ble_eq_true rfl⟩) hS (fun q _ h => hFc q h) hFc (fun u_107 t H1 locs ht hvm hw hB hz1 hk1 hS => ?_)
            try dsimp only at hw
            obtain ⟨hP1, hK1, hD1⟩ := hB
            rw [ht] at hP1
            have hK1 := va_K.moved hvm.symm hK1
            have hK1 : va_K (dC, dI) vwCl [] s := hK1
            obtain ⟨hP, hD⟩ := va_join (wr := [(eA0 lby cBy 900 fBy), (eA0 lco cCo 23 fCo), (eA0 phe cHe 72 fHe), (eA0 phr cHr 72 fHr), (eO7a pa lx bk u_98.1 u_98.2.1 psk phe phr phs pop), (eO3a lx lby lfi lco lxe lxa lxt lxp lxn lxl), (eO0a bk bto bnm bla bsk bru bbo bdi bda bdk bdt bdp bno)]) (w1 := [(eO8a bru rco u_107.1 ren rst u_98.2.2), (eA0 rco cRc 64 u_107.2)]) hP hD [8, 4] [0, 1, 2, 3, 5, 6, 7] hCc rfl (by decide) (by decide) hk1 hFc hP1 hD1
            generalize H1 = H at hP hS ⊢
            obtain ⟨hP, hD⟩ := zre [(eA0 lby cBy 900 fBy), (eA0 lco cCo 23 fCo), (eA0 phe cHe 72 fHe), (eA0 phr cHr 72 fHr), (eO7a pa lx bk u_98.1 u_98.2.1 psk phe phr phs pop), (eO3a lx lby lfi lco lxe lxa lxt lxp lxn lxl), (eO0a bk bto bnm bla bsk bru bbo bdi bda bdk bdt bdp bno), (eO8a bru rco u_107.1 ren rst u_98.2.2), (eA0 rco cRc 64 u_107.2)] hP hD rfl
            refine W.widen (k := 0) (n := 0) (by omega) (by omega) ?_
            obtain ⟨hw, hp_110⟩ := hw
            have hq_u_107 : u_107 = (fp_put rsz fRc r_105) := hw
            refine lv_aload_n hx hb dX7_readPart_230 rfl (lv_at hl 3 rfl) ?_
            refine va_get (D := (dC, dI)) (ci := 7) (v := .ref lx) (C := RX7) (T := TX7) (N := 9) hx hb htw inlX7 hown hK hP 4 rfl rfl 0 (by decide) (htw _ (ck_3 _ (List.mem_of_getElem? (i := 5) rfl))) (fun _ h9 => h9) rfl dX7_readPart_231 ?_
            obtain ⟨hPc, hDc, hFc, hCc⟩ := zsub3 (ws' := [(eO3a lx lby lfi lco lxe lxa lxt lxp lxn lxl), (eA0 lby cBy 900 fBy), (eA0 lco cCo 23 fCo)]) hP hD hS hA [5, 0, 1] (by decide) rfl
            have hKc := hK.sub (tys' := [(cBy, .byte), (cCo, .int)]) [0, 1] rfl
            refine va_callv (va_runV (As := []) (rest := []) ⟨hx, hb, hml, hown, htw⟩ (gz_advance l dC dI lx lby lfi lco lxe lxa lxt lxp lxn lxl cBy fBy cCo fCo H.size h0_lxa h9_lxe) (cwV 0 htw (xg_V (ck_16 _ (List.mem_of_getElem? (i := 11) rfl)) (ck_14 _ (List.mem_of_getElem? (i := 13) rfl)) (ck_14 _ (List.mem_of_getElem? (i := 14) rfl)) (ck_3 _ (List.mem_of_getElem? (i := 4) rfl)) (ck_14 _ (List.mem_of_getElem? (i := 15) rfl))) rfl rfl rfl (by exact ⟨rfl, hdc_4.1, hdc_4.2, hdd_13⟩) ⟨Nat.le_of_ble_eq_true rfl, Nat.le_of_ble_eq_true rfl⟩) ⟨fun a U g mk q => by obtain ⟨q0, q1, qP, qK, qD⟩ := q; exact ⟨q0, q1, qP, va_K.moved (u := U) (U := U.calling g mk a) (Vm.Alike.refl U.vm) qK, qD⟩, va_recv hKc hPc (ci := 3) (q0 := 0) rfl rfl, fun U hU hW => ⟨rfl, by rw [hU], by rw [hU]; exact hPc, va_K.moved hW.alike hKc, hDc.weaken (fun _ _ _ _ => trivial)⟩⟩ rfl rfl hl.1 rfl (lv_room (Nat.le_of_ble_eq_true rfl)) dX7_readPart_234 ⟨Nat.le_of_ble_eq_true rfl, Nat.le_of_ble_eq_true rfl⟩) hS (fun q _ h => hFc q h) hFc (fun u_112 t H1 locs ht hvm hw hB hz1 hk1 hS => ?_)
            try dsimp only at hw
            obtain ⟨hP1, hK1, hD1⟩ := hB
            rw [ht] at hP1
            have hK1 := va_K.moved hvm.symm hK1
            have hK1 : va_K (dC, dI) vwCl [] s := hK1
            obtain ⟨hP, hD⟩ := va_join (wr := [(eA0 phe cHe 72 fHe), (eA0 phr cHr 72 fHr), (eO7a pa lx bk u_98.1 u_98.2.1 psk phe phr phs pop), (eO0a bk bto bnm bla bsk bru bbo bdi bda bdk bdt bdp bno), (eO8a bru rco u_107.1 ren rst u_98.2.2), (eA0 rco cRc 64 u_107.2)]) (w1 := [(eO3a lx lby lfi lco lxe u_112.1 u_112.2.1 u_112.2.2.1 u_112.2.2.2.1 u_112.2.2.2.2), (eA0 lby cBy 900 fBy), (eA0 lco cCo 23 fCo)]) hP hD [5, 0, 1] [2, 3, 4, 6, 7, 8] hCc rfl (by decide) (by decide) hk1 hFc hP1 hD1
            generalize H1 = H at hP hS ⊢
            obtain ⟨hP, hD⟩ := zre [(eA0 phe cHe 72 fHe), (eA0 phr cHr 72 fHr), (eO7a pa lx bk u_98.1 u_98.2.1 psk phe phr phs pop), (eO0a bk bto bnm bla bsk bru bbo bdi bda bdk bdt bdp bno), (eO8a bru rco u_107.1 ren rst u_98.2.2), (eA0 rco cRc 64 u_107.2), (eO3a lx lby lfi lco lxe u_112.1 u_112.2.1 u_112.2.2.1 u_112.2.2.2.1 u_112.2.2.2.2), (eA0 lby cBy 900 fBy), (eA0 lco cCo 23 fCo)] hP hD rfl
            refine W.widen (k := 0) (n := 0) (by omega) (by omega) ?_
            obtain ⟨hw, hp_118⟩ := hw
            have hq_u_112 : u_112 = (fe_advance lxe lxa lxn lxl fBy fCo) := hw
            refine lv_iload_n hx hb dX7_readPart_237 rfl (lv_at hl 1 rfl) ?_
            refine xs_size (fun hHz => ?_)
            refine vx_ret ?_
            refine W.widen (k := 1) (n := 6) (by omega) (by omega) ?_
            obtain ⟨hP9, hD9⟩ := zsub2 (ws' := [(eO7a pa lx bk u_98.1 u_98.2.1 psk phe phr phs pop), (eO3a lx lby lfi lco lxe u_112.1 u_112.2.1 u_112.2.2.1 u_112.2.2.2.1 u_112.2.2.2.2), (eA0 lby cBy 900 fBy), (eA0 lco cCo 23 fCo), (eA0 phe cHe 72 fHe), (eA0 phr cHr 72 fHr), (eO0a bk bto bnm bla bsk bru bbo bdi bda bdk bdt bdp bno), (eO8a bru rco u_107.1 ren rst u_98.2.2), (eA0 rco cRc 64 u_107.2)]) hP hD [2, 6, 7, 8, 0, 1, 3, 4, 5] (by decide +kernel) rfl
            have hK9 := hK.sub (tys' := []) [] rfl
            exact W.zret (v := 0) hx hb hr (by first | rfl | decide) (fun t ht hW => ⟨⟨0, (u_98.1, u_98.2.1, phs, pop, u_112.1, u_112.2.1, u_112.2.2.1, u_112.2.2.2.1, u_112.2.2.2.2, fHe, fHr, u_107.1, u_98.2.2, u_107.2), rfl, ⟨((fun e9 => ⟨by rw [e9], by rw [e9], by rw [e9]⟩ : fp_readPart pfa pfp phs pop lxe lxa lxt lxp lxn lxl fBy fCo fHe fHr rsz rkn fRc = ((0 : Int32), (0 : Int32), u_98.1, u_98.2.1, phs, pop, u_112.1, u_112.2.1, u_112.2.2.1, u_112.2.2.2.1, u_112.2.2.2.2, fHe, fHr, u_107.1, u_98.2.2, u_107.2) → _) ((by rw [fp_readPart]; (try rw [if_neg c_1]); (try rw [if_neg c_54]); (try rw [if_neg c_56]); (try rw [← hq_r_89]); (try rw [xL_eq]); (try rw [if_neg c_90]); (try rw [← hX_95]); (try rw [xL_eq]); (try rw [if_neg hTX_95]); (try rw [← hq_u_98]); (try rw [← hq_r_105]); (try rw [xL_eq]); (try rw [← hq_u_107]); (try rw [xL_eq]); (try rw [← hq_u_112]); (try rw [xL_eq]); try rfl))), Or.inl rfl, (gp_readPart_s23 (y0 := u_112.1) hp_118), (gp_readPart_s24 (y0 := phs) h0_phs h7_phs), (gp_readPart_s25 (y0 := phs) h0_phs h7_phs), (gp_readPart_s26 (y0 := u_107.1) hp_110)⟩, ⟨by rw [ht]; exact hP9, va_K.moved hW.alike hK9, hD9⟩, by rw [ht]; first | exact hHz | exact hHz.trans (by rw [rH])⟩, hS.F ht⟩) hS.2.2 dX7_readPart_238
        · refine lv_iconst (v := 1) hx hb dX7_readPart_68 (by decide) ?_
          refine lv_goto (tgt := 73) hx hb dX7_readPart_69 (by decide) ?_
          refine lv_iconst (v := 1) hx hb dX7_readPart_73 (by decide) ?_
          refine lv_aload_n hx hb dX7_readPart_74 rfl (lv_at hl 3 rfl) ?_
          refine va_get (D := (dC, dI)) (ci := 7) (v := .ref lx) (C := RX7) (T := TX7) (N := 9) hx hb htw inlX7 hown hK hP 0 rfl rfl 0 (by decide) (htw _ (ck_3 _ (List.mem_of_getElem? (i := 5) rfl))) (fun _ h9 => h9) rfl dX7_readPart_75 ?_
          refine va_get (D := (dC, dI)) (ci := 3) (v := .int lxp) (C := RX3) (T := TX3) (N := 9) hx hb htw inlX3 hown hK hP 1 rfl rfl 6 (by decide) (htw _ (ck_15 _ (List.mem_of_getElem? (i := 13) rfl))) (fun _ h9 => h9) rfl dX7_readPart_78 ?_
          refine xs_size (fun hHz => ?_)
          obtain ⟨hPc, hDc, hFc, hCc⟩ := zsub3 (ws' := [(eO7a pa lx bk pfa pfp psk phe phr phs pop)]) hP hD hS hA [0] (by decide) rfl
          have hKc := hK.sub (tys' := []) [] rfl
          refine vx_callv (vx_runV (As := [.int 1, .int 1, .int lxp]) (rest := []) ⟨hx, hb, hml, hown, htw⟩ (gp_refT l hst dC dI pa lx bk pfa pfp psk phe phr phs pop (1 : Int32) (1 : Int32) lxp sL H.size (gp_readPart_s27 )) (cwV 3 htw (xg_V (ck_16 _ (List.mem_of_getElem? (i := 6) rfl)) (ck_16 _ (List.mem_of_getElem? (i := 7) rfl)) (ck_16 _ (List.mem_of_getElem? (i := 8) rfl)) (ck_1 _ (List.mem_of_getElem? (i := 16) rfl)) (ck_16 _ (List.mem_of_getElem? (i := 9) rfl))) rfl rfl rfl (by exact ⟨rfl, hdc_15.1, hdc_15.2, hdd_48⟩) ⟨Nat.le_of_ble_eq_true rfl, Nat.le_of_ble_eq_true rfl⟩) ⟨fun a U g mk q => by obtain ⟨q0, q1, qP, qK, qD, qx0⟩ := q; exact ⟨q0, q1, qP, va_K.moved (u := U) (U := U.calling g mk a) (Vm.Alike.refl U.vm) qK, qD, xl.calling qx0⟩, va_recv hKc hPc (ci := 7) (q0 := 0) rfl rfl, fun U hU hW => ⟨rfl, by rw [hU], by rw [hU]; exact hPc, va_K.moved hW.alike hKc, hDc.weaken (fun _ _ _ _ => trivial), by rw [hU]; exact xl.warm hW ((xl.kept hXL hS.2.1).narrow hFc)⟩⟩ rfl rfl hl.1 rfl (lv_room (Nat.le_of_ble_eq_true rfl)) dX7_readPart_81 ⟨Nat.le_of_ble_eq_true rfl, Nat.le_of_ble_eq_true rfl⟩) hS (fun q _ h => hFc q h) hFc (fun q _ h => hFc q h) (fun E ce q9 u_119 t H1 locs ht hvm hw hB hz1 hk1 hS hcell hcv hcl => ?_) (fun u_121 t H1 locs ht hvm hw hB hz1 hk1 hS => hw.elim)
          obtain ⟨hE9, hB⟩ := hB
          subst hE9
          obtain ⟨hP1, hK1, hD1⟩ := hB
          rw [ht] at hP1
          have hK1 := va_K.moved hvm.symm hK1
          have hK1 : va_K (dC, dI) vwCl [] s := hK1
          obtain ⟨hP, hD⟩ := va_join (wr := [(eO3a lx lby lfi lco lxe lxa lxt lxp lxn lxl), (eA0 lby cBy 900 fBy), (eA0 lco cCo 23 fCo), (eA0 phe cHe 72 fHe), (eA0 phr cHr 72 fHr), (eO0a bk bto bnm bla bsk bru bbo bdi bda bdk bdt bdp bno), (eO8a bru rco rsz ren rst rkn), (eA0 rco cRc 64 fRc)]) (w1 := [(eO7a pa lx bk 1 lxp psk phe phr phs pop)]) hP hD [0] [1, 2, 3, 4, 5, 6, 7, 8] hCc rfl (by decide +kernel) (by decide +kernel) hk1 hFc hP1 hD1
          generalize H1 = H at hP hS hcell ⊢
          obtain ⟨hP, hD⟩ := zre [(eO3a lx lby lfi lco lxe lxa lxt lxp lxn lxl), (eA0 lby cBy 900 fBy), (eA0 lco cCo 23 fCo), (eA0 phe cHe 72 fHe), (eA0 phr cHr 72 fHr), (eO0a bk bto bnm bla bsk bru bbo bdi bda bdk bdt bdp bno), (eO8a bru rco rsz ren rst rkn), (eA0 rco cRc 64 fRc), (eO7a pa lx bk 1 lxp psk phe phr phs pop)] hP hD rfl
          obtain ⟨hP9, hD9⟩ := zsub2 (ws' := [(eO7a pa lx bk 1 lxp psk phe phr phs pop), (eO3a lx lby lfi lco lxe lxa lxt lxp lxn lxl), (eA0 lby cBy 900 fBy), (eA0 lco cCo 23 fCo), (eA0 phe cHe 72 fHe), (eA0 phr cHr 72 fHr), (eO0a bk bto bnm bla bsk bru bbo bdi bda bdk bdt bdp bno), (eO8a bru rco rsz ren rst rkn), (eA0 rco cRc 64 fRc)]) hP hD [8, 0, 1, 2, 3, 4, 5, 6, 7] (by decide +kernel) rfl
          have hK9 := hK.sub (tys' := []) [] rfl
          exact vx_widen (k := 1) (n := 6) (Nat.le_of_ble_eq_true rfl) (Nat.le_of_ble_eq_true rfl) (vx_out (fun x h9 => (hex x h9).elim) hlocks hcell hcv hcl (fun t ht hal => ⟨(1, lxp, phs, pop, lxa, lxt, lxp, lxn, lxl, fHe, fHr, rsz, rkn, fRc), ((fun e9 => ⟨by rw [e9], by rw [e9]⟩ : fp_readPart pfa pfp phs pop lxe lxa lxt lxp lxn lxl fBy fCo fHe fHr rsz rkn fRc = ((1 : Int32), (0 : Int32), (1 : Int32), lxp, phs, pop, lxa, lxt, lxp, lxn, lxl, fHe, fHr, rsz, rkn, fRc) → _) ((by rw [fp_readPart]; (try rw [if_neg c_1]); (try rw [if_neg c_54]); (try rw [if_neg c_56]); (try rw [← hq_r_89]); (try rw [xL_eq]); (try rw [if_pos c_90]); try rfl))), ⟨rfl, by rw [ht]; exact hP9, va_K.moved hal hK9, hD9⟩, hS.F ht⟩) hS.2.2 (Nat.le_of_ble_eq_true rfl) (Nat.le_of_ble_eq_true rfl))
    · refine lv_iconst (v := 1) hx hb dX7_readPart_20 (by decide) ?_
      refine lv_goto (tgt := 25) hx hb dX7_readPart_21 (by decide) ?_
      refine lv_istore_n (lv' := [(2, .int 1), (1, .int lxt), (0, .ref pa)]) hx hb dX7_readPart_25 rfl hl (by decide) rfl (fun ls hl => ?_)
      refine lv_iload_n hx hb dX7_readPart_26 rfl (lv_at hl 1 rfl) ?_
      refine lv_bipush (v := 21) hx hb dX7_readPart_27 (by decide) ?_
      refine lv_icmp_ne (tgt := 44) hx hb dX7_readPart_29 (by decide) (fun c_122 => absurd c_122 (fun h9 => h9 c_54)) (fun c_122 => ?_)
      refine lv_aload_n hx hb dX7_readPart_32 rfl (lv_at hl 2 rfl) ?_
      have hPc := hP.sub (ws' := [(eO7a pa lx bk pfa pfp psk phe phr phs pop), (eA0 phr cHr 72 fHr)]) [0, 5] rfl
      have hKc := hK.sub (tys' := [(cHr, .int)]) [3] rfl
      refine vp_callSi (W.runV (As := []) (rest := []) ⟨hx, hb, hml, hown, htw⟩ (gp_heldRank l dC dI pa lx bk pfa pfp psk phe phr phs pop cHr fHr) (cwV 0 htw (xg_V (ck_18 _ (List.mem_of_getElem? (i := 16) rfl)) (ck_18 _ (List.mem_of_getElem? (i := 17) rfl)) (ck_18 _ (List.mem_of_getElem? (i := 18) rfl)) (ck_1 _ (List.mem_of_getElem? (i := 16) rfl)) (ck_18 _ (List.mem_of_getElem? (i := 19) rfl))) rfl rfl rfl (by exact ⟨rfl, hdc_15.1, hdc_15.2, hdd_45⟩) ⟨Nat.le_of_ble_eq_true rfl, Nat.le_of_ble_eq_true rfl⟩) ⟨fun a U g mk q => by obtain ⟨q0, qP, qK⟩ := q; exact ⟨q0, qP, va_K.moved (u := U) (U := U.calling g mk a) (Vm.Alike.refl U.vm) qK⟩, va_recv hKc hPc (ci := 7) (q0 := 0) rfl rfl, fun U hU hW => ⟨rfl, by rw [hU]; exact hPc, va_K.moved hW.alike hKc⟩⟩ rfl rfl hl.1 rfl (lv_room (Nat.le_of_ble_eq_true rfl)) dX7_readPart_33 ⟨Nat.le_of_ble_eq_true rfl, Nat.le_of_ble_eq_true rfl⟩) (fun r_123 hw => ?_)
      try dsimp only at hw
      obtain ⟨hw, hp_124, hp_125⟩ := hw
      have hq_r_123 : r_123 = (fp_heldRank phs fHr) := hw
      refine lv_iconst (v := 3) hx hb dX7_readPart_36 (by decide) ?_
      refine lv_icmp_le (tgt := 44) hx hb dX7_readPart_37 (by decide) (fun c_126 => ?_) (fun c_126 => ?_)
      · refine lv_iconst (v := 0) hx hb dX7_readPart_44 (by decide) ?_
        refine lv_istore_n (lv' := [(3, .int 0), (2, .int 1), (1, .int lxt), (0, .ref pa)]) hx hb dX7_readPart_45 rfl hl (by decide) rfl (fun ls hl => ?_)
        refine lv_aload_n hx hb dX7_readPart_46 rfl (lv_at hl 3 rfl) ?_
        refine lv_iload_n hx hb dX7_readPart_47 rfl (lv_at hl 0 rfl) ?_
        refine lv_if_ne (tgt := 68) hx hb dX7_readPart_48 (by decide) (fun c => absurd c (by decide)) (fun _ => ?_)
        refine lv_iload_n hx hb dX7_readPart_51 rfl (lv_at hl 1 rfl) ?_
        refine lv_if_ne (tgt := 72) hx hb dX7_readPart_52 (by decide) (fun _ => ?_) (fun c => absurd c (by decide))
        refine lv_iconst (v := 0) hx hb dX7_readPart_72 (by decide) ?_
        refine lv_iconst (v := 1) hx hb dX7_readPart_73 (by decide) ?_
        refine lv_aload_n hx hb dX7_readPart_74 rfl (lv_at hl 3 rfl) ?_
        refine va_get (D := (dC, dI)) (ci := 7) (v := .ref lx) (C := RX7) (T := TX7) (N := 9) hx hb htw inlX7 hown hK hP 0 rfl rfl 0 (by decide) (htw _ (ck_3 _ (List.mem_of_getElem? (i := 5) rfl))) (fun _ h9 => h9) rfl dX7_readPart_75 ?_
        refine va_get (D := (dC, dI)) (ci := 3) (v := .int lxp) (C := RX3) (T := TX3) (N := 9) hx hb htw inlX3 hown hK hP 1 rfl rfl 6 (by decide) (htw _ (ck_15 _ (List.mem_of_getElem? (i := 13) rfl))) (fun _ h9 => h9) rfl dX7_readPart_78 ?_
        have hPc := hP.sub (ws' := []) [] rfl
        have hKc := hK.sub (tys' := []) [] rfl
        refine va_csv (W.runV (As := [.int 0, .int 1, .int lxp]) (rest := []) ⟨hx, hb, hml, hown, htw⟩ (gp_ref0 l dC dI (0 : Int32) (1 : Int32) lxp pa (gp_readPart_s28 )) (cwV 3 htw (xg_V (ck_16 _ (List.mem_of_getElem? (i := 6) rfl)) (ck_16 _ (List.mem_of_getElem? (i := 7) rfl)) (ck_16 _ (List.mem_of_getElem? (i := 8) rfl)) (ck_1 _ (List.mem_of_getElem? (i := 16) rfl)) (ck_16 _ (List.mem_of_getElem? (i := 9) rfl))) rfl rfl rfl (by exact ⟨rfl, hdc_15.1, hdc_15.2, hdd_48⟩) ⟨Nat.le_of_ble_eq_true rfl, Nat.le_of_ble_eq_true rfl⟩) ⟨fun a U g mk q => by obtain ⟨q0, qP, qK⟩ := q; exact ⟨q0, qP, va_K.moved (u := U) (U := U.calling g mk a) (Vm.Alike.refl U.vm) qK⟩, va_recv hK hP (ci := 7) (q0 := 0) rfl rfl, fun U hU hW => ⟨rfl, by rw [hU]; exact hPc, va_K.moved hW.alike hKc⟩⟩ rfl rfl hl.1 rfl (lv_room (Nat.le_of_ble_eq_true rfl)) dX7_readPart_81 ⟨Nat.le_of_ble_eq_true rfl, Nat.le_of_ble_eq_true rfl⟩) (fun hw => ?_)
        try dsimp only at hw
        refine lv_iload_n hx hb dX7_readPart_84 rfl (lv_at hl 2 rfl) ?_
        refine lv_bipush (v := 26) hx hb dX7_readPart_85 (by decide) ?_
        refine lv_icmp_ne (tgt := 134) hx hb dX7_readPart_87 (by decide) (fun c_128 => ?_) (fun c_128 => absurd c_128 (fun h9 => absurd h9 c_1))
        refine lv_iload_n hx hb dX7_readPart_134 rfl (lv_at hl 2 rfl) ?_
        refine lv_bipush (v := 21) hx hb dX7_readPart_135 (by decide) ?_
        refine lv_icmp_ne (tgt := 152) hx hb dX7_readPart_137 (by decide) (fun c_129 => absurd c_129 (fun h9 => h9 c_54)) (fun c_129 => ?_)
        refine lv_aload_n hx hb dX7_readPart_140 rfl (lv_at hl 3 rfl) ?_
        refine xs_size (fun hHz => ?_)
        obtain ⟨hPc, hDc, hFc, hCc⟩ := zsub3 (ws' := [(eO7a pa lx bk pfa pfp psk phe phr phs pop), (eO3a lx lby lfi lco lxe lxa lxt lxp lxn lxl), (eO0a bk bto bnm bla bsk bru bbo bdi bda bdk bdt bdp bno), (eO8a bru rco rsz ren rst rkn)]) hP hD hS hA [0, 1, 6, 7] (by decide) rfl
        have hKc := hK.sub (tys' := []) [] rfl
        obtain ⟨X_130, hX_130⟩ : ∃ X9 : Int32 × (Int32) × (Int32) × (Int32), X9 = (fp_countKnot pfa pfp lxp rkn) := ⟨_, rfl⟩
        refine vx_callv (vx_runV (As := []) (rest := []) ⟨hx, hb, hml, hown, htw⟩ (gp_countKnot l hst dC dI pa lx bk pfa pfp psk phe phr phs pop lby lfi lco lxe lxa lxt lxp lxn lxl bto bnm bla bsk bru bbo bdi bda bdk bdt bdp bno rco rsz ren rst rkn sL H.size) (cwV 0 htw (xg_V (ck_19 _ (List.mem_of_getElem? (i := 6) rfl)) (ck_19 _ (List.mem_of_getElem? (i := 7) rfl)) (ck_19 _ (List.mem_of_getElem? (i := 8) rfl)) (ck_1 _ (List.mem_of_getElem? (i := 16) rfl)) (ck_19 _ (List.mem_of_getElem? (i := 9) rfl))) rfl rfl rfl (by exact ⟨rfl, hdc_15.1, hdc_15.2, hdd_13⟩) ⟨Nat.le_of_ble_eq_true rfl, Nat.le_of_ble_eq_true rfl⟩) ⟨fun a U g mk q => by obtain ⟨q0, q1, qP, qK, qD, qx0⟩ := q; exact ⟨q0, q1, qP, va_K.moved (u := U) (U := U.calling g mk a) (Vm.Alike.refl U.vm) qK, qD, xl.calling qx0⟩, va_recv hKc hPc (ci := 7) (q0 := 0) rfl rfl, fun U hU hW => ⟨rfl, by rw [hU], by rw [hU]; exact hPc, va_K.moved hW.alike hKc, hDc.weaken (fun _ _ _ _ => trivial), by rw [hU]; exact xl.warm hW ((xl.kept hXL hS.2.1).narrow hFc)⟩⟩ rfl rfl hl.1 rfl (lv_room (Nat.le_of_ble_eq_true rfl)) dX7_readPart_141 ⟨Nat.le_of_ble_eq_true rfl, Nat.le_of_ble_eq_true rfl⟩) hS (fun q _ h => hFc q h) hFc (fun q _ h => hFc q h) (fun E ce q9 u_131 t H1 locs ht hvm hw hB hz1 hk1 hS hcell hcv hcl => ?_) (fun u_133 t H1 locs ht hvm hw hB hz1 hk1 hS => ?_)
        · obtain ⟨hE9, hB⟩ := hB
          subst hE9
          obtain ⟨hP1, hK1, hD1⟩ := hB
          rw [ht] at hP1
          have hK1 := va_K.moved hvm.symm hK1
          have hK1 : va_K (dC, dI) vwCl [] s := hK1
          obtain ⟨hP, hD⟩ := va_join (wr := [(eA0 lby cBy 900 fBy), (eA0 lco cCo 23 fCo), (eA0 phe cHe 72 fHe), (eA0 phr cHr 72 fHr), (eA0 rco cRc 64 fRc)]) (w1 := [(eO7a pa lx bk u_131.1 u_131.2.1 psk phe phr phs pop), (eO3a lx lby lfi lco lxe lxa lxt lxp lxn lxl), (eO0a bk bto bnm bla bsk bru bbo bdi bda bdk bdt bdp bno), (eO8a bru rco rsz ren rst u_131.2.2)]) hP hD [0, 1, 6, 7] [2, 3, 4, 5, 8] hCc rfl (by decide) (by decide) hk1 hFc hP1 hD1
          generalize H1 = H at hP hS hcell ⊢
          obtain ⟨hP, hD⟩ := zre [(eA0 lby cBy 900 fBy), (eA0 lco cCo 23 fCo), (eA0 phe cHe 72 fHe), (eA0 phr cHr 72 fHr), (eA0 rco cRc 64 fRc), (eO7a pa lx bk u_131.1 u_131.2.1 psk phe phr phs pop), (eO3a lx lby lfi lco lxe lxa lxt lxp lxn lxl), (eO0a bk bto bnm bla bsk bru bbo bdi bda bdk bdt bdp bno), (eO8a bru rco rsz ren rst u_131.2.2)] hP hD rfl
          have hTX_130 : X_130.1 = 1 := by rw [hX_130]; exact hw.1
          have hq_u_131 : u_131 = X_130.2 := by rw [hX_130]; exact hw.2
          obtain ⟨hP9, hD9⟩ := zsub2 (ws' := [(eO7a pa lx bk u_131.1 u_131.2.1 psk phe phr phs pop), (eO3a lx lby lfi lco lxe lxa lxt lxp lxn lxl), (eA0 lby cBy 900 fBy), (eA0 lco cCo 23 fCo), (eA0 phe cHe 72 fHe), (eA0 phr cHr 72 fHr), (eO0a bk bto bnm bla bsk bru bbo bdi bda bdk bdt bdp bno), (eO8a bru rco rsz ren rst u_131.2.2), (eA0 rco cRc 64 fRc)]) hP hD [5, 6, 0, 1, 2, 3, 7, 8, 4] (by decide +kernel) rfl
          have hK9 := hK.sub (tys' := []) [] rfl
          exact vx_widen (k := 1) (n := 6) (Nat.le_of_ble_eq_true rfl) (Nat.le_of_ble_eq_true rfl) (vx_out (fun x h9 => (hex x h9).elim) hlocks hcell hcv hcl (fun t ht hal => ⟨(u_131.1, u_131.2.1, phs, pop, lxa, lxt, lxp, lxn, lxl, fHe, fHr, rsz, u_131.2.2, fRc), ((fun e9 => ⟨by rw [e9], by rw [e9]⟩ : fp_readPart pfa pfp phs pop lxe lxa lxt lxp lxn lxl fBy fCo fHe fHr rsz rkn fRc = ((1 : Int32), (0 : Int32), u_131.1, u_131.2.1, phs, pop, lxa, lxt, lxp, lxn, lxl, fHe, fHr, rsz, u_131.2.2, fRc) → _) ((by rw [fp_readPart]; (try rw [if_neg c_1]); (try rw [if_pos c_54]); (try rw [← hq_r_123]); (try rw [xL_eq]); (try rw [if_pos c_126]); (try rw [← hX_130]); (try rw [xL_eq]); (try rw [if_pos hTX_130]); (try rw [← hq_u_131]); try rfl))), ⟨rfl, by rw [ht]; exact hP9, va_K.moved hal hK9, hD9⟩, hS.F ht⟩) hS.2.2 (Nat.le_of_ble_eq_true rfl) (Nat.le_of_ble_eq_true rfl))
        · obtain ⟨hB, hsz9⟩ := hB
          obtain ⟨hP1, hK1, hD1⟩ := hB
          rw [ht] at hP1
          have hK1 := va_K.moved hvm.symm hK1
          have hK1 : va_K (dC, dI) vwCl [] s := hK1
          obtain ⟨hP, hD⟩ := va_join (wr := [(eA0 lby cBy 900 fBy), (eA0 lco cCo 23 fCo), (eA0 phe cHe 72 fHe), (eA0 phr cHr 72 fHr), (eA0 rco cRc 64 fRc)]) (w1 := [(eO7a pa lx bk u_133.1 u_133.2.1 psk phe phr phs pop), (eO3a lx lby lfi lco lxe lxa lxt lxp lxn lxl), (eO0a bk bto bnm bla bsk bru bbo bdi bda bdk bdt bdp bno), (eO8a bru rco rsz ren rst u_133.2.2)]) hP hD [0, 1, 6, 7] [2, 3, 4, 5, 8] rfl rfl (by decide) (by decide) hk1 hFc hP1 hD1
          refine xs_tight (show H1.size = s.heap.size by rw [← ht, hsz9]; exact hHz) ?_
          generalize H1 = H at hP hS ⊢
          obtain ⟨hP, hD⟩ := zre [(eA0 lby cBy 900 fBy), (eA0 lco cCo 23 fCo), (eA0 phe cHe 72 fHe), (eA0 phr cHr 72 fHr), (eA0 rco cRc 64 fRc), (eO7a pa lx bk u_133.1 u_133.2.1 psk phe phr phs pop), (eO3a lx lby lfi lco lxe lxa lxt lxp lxn lxl), (eO0a bk bto bnm bla bsk bru bbo bdi bda bdk bdt bdp bno), (eO8a bru rco rsz ren rst u_133.2.2)] hP hD rfl
          have hTX_130 : ¬ X_130.1 = 1 := by rw [hX_130, hw.1]; decide
          have hq_u_133 : u_133 = X_130.2 := by rw [hX_130]; exact hw.2
          refine lv_aload_n hx hb dX7_readPart_144 rfl (lv_at hl 3 rfl) ?_
          refine lv_iload_n hx hb dX7_readPart_145 rfl (lv_at hl 2 rfl) ?_
          obtain ⟨hPc, hDc, hFc, hCc⟩ := zsub3 (ws' := [(eO7a pa lx bk u_133.1 u_133.2.1 psk phe phr phs pop), (eA0 phe cHe 72 fHe), (eA0 phr cHr 72 fHr)]) hP hD hS hA [5, 2, 3] (by decide) rfl
          have hKc := hK.sub (tys' := [(cHe, .int), (cHr, .int)]) [2, 3] rfl
          refine va_callv (va_runV (As := [.int lxt]) (rest := []) ⟨hx, hb, hml, hown, htw⟩ (gp_hold l dC dI pa lx bk u_133.1 u_133.2.1 psk phe phr phs pop cHe fHe cHr fHr lxt H.size h0_phs h7_phs) (cwV 1 htw (xg_V (ck_18 _ (List.mem_of_getElem? (i := 23) rfl)) (ck_19 _ (List.mem_of_getElem? (i := 0) rfl)) (ck_19 _ (List.mem_of_getElem? (i := 1) rfl)) (ck_1 _ (List.mem_of_getElem? (i := 16) rfl)) (ck_19 _ (List.mem_of_getElem? (i := 2) rfl))) rfl rfl rfl (by exact ⟨rfl, hdc_15.1, hdc_15.2, hdd_9⟩) ⟨Nat.le_of_ble_eq_true rfl, Nat.le_of_ble_eq_true rfl⟩) ⟨fun a U g mk q => by obtain ⟨q0, q1, qP, qK, qD⟩ := q; exact ⟨q0, q1, qP, va_K.moved (u := U) (U := U.calling g mk a) (Vm.Alike.refl U.vm) qK, qD⟩, va_recv hKc hPc (ci := 7) (q0 := 0) rfl rfl, fun U hU hW => ⟨rfl, by rw [hU], by rw [hU]; exact hPc, va_K.moved hW.alike hKc, hDc.weaken (fun _ _ _ _ => trivial)⟩⟩ rfl rfl hl.1 rfl (lv_room (Nat.le_of_ble_eq_true rfl)) dX7_readPart_146 ⟨Nat.le_of_ble_eq_true rfl, Nat.le_of_ble_eq_true rfl⟩) hS (fun q _ h => hFc q h) hFc (fun u_141 t H1 locs ht hvm hw hB hz1 hk1 hS => ?_)
          try dsimp only at hw
          obtain ⟨hP1, hK1, hD1⟩ := hB
          rw [ht] at hP1
          have hK1 := va_K.moved hvm.symm hK1
          have hK1 : va_K (dC, dI) vwCl [] s := hK1
          obtain ⟨hP, hD⟩ := va_join (wr := [(eA0 lby cBy 900 fBy), (eA0 lco cCo 23 fCo), (eA0 rco cRc 64 fRc), (eO3a lx lby lfi lco lxe lxa lxt lxp lxn lxl), (eO0a bk bto bnm bla bsk bru bbo bdi bda bdk bdt bdp bno), (eO8a bru rco rsz ren rst u_133.2.2)]) (w1 := [(eO7a pa lx bk u_133.1 u_133.2.1 psk phe phr u_141.1 pop), (eA0 phe cHe 72 u_141.2.1), (eA0 phr cHr 72 u_141.2.2)]) hP hD [5, 2, 3] [0, 1, 4, 6, 7, 8] hCc rfl (by decide) (by decide) hk1 hFc hP1 hD1
          generalize H1 = H at hP hS ⊢
          obtain ⟨hP, hD⟩ := zre [(eA0 lby cBy 900 fBy), (eA0 lco cCo 23 fCo), (eA0 rco cRc 64 fRc), (eO3a lx lby lfi lco lxe lxa lxt lxp lxn lxl), (eO0a bk bto bnm bla bsk bru bbo bdi bda bdk bdt bdp bno), (eO8a bru rco rsz ren rst u_133.2.2), (eO7a pa lx bk u_133.1 u_133.2.1 psk phe phr u_141.1 pop), (eA0 phe cHe 72 u_141.2.1), (eA0 phr cHr 72 u_141.2.2)] hP hD rfl
          refine W.widen (k := 0) (n := 0) (by omega) (by omega) ?_
          obtain ⟨hw, hp_145, hp_146⟩ := hw
          have hq_u_141 : u_141 = (fp_hold phs fHe fHr lxt) := hw
          refine lv_goto (tgt := 230) hx hb dX7_readPart_149 (by decide) ?_
          refine lv_aload_n hx hb dX7_readPart_230 rfl (lv_at hl 3 rfl) ?_
          refine va_get (D := (dC, dI)) (ci := 7) (v := .ref lx) (C := RX7) (T := TX7) (N := 9) hx hb htw inlX7 hown hK hP 6 rfl rfl 0 (by decide) (htw _ (ck_3 _ (List.mem_of_getElem? (i := 5) rfl))) (fun _ h9 => h9) rfl dX7_readPart_231 ?_
          obtain ⟨hPc, hDc, hFc, hCc⟩ := zsub3 (ws' := [(eO3a lx lby lfi lco lxe lxa lxt lxp lxn lxl), (eA0 lby cBy 900 fBy), (eA0 lco cCo 23 fCo)]) hP hD hS hA [3, 0, 1] (by decide) rfl
          have hKc := hK.sub (tys' := [(cBy, .byte), (cCo, .int)]) [0, 1] rfl
          refine va_callv (va_runV (As := []) (rest := []) ⟨hx, hb, hml, hown, htw⟩ (gz_advance l dC dI lx lby lfi lco lxe lxa lxt lxp lxn lxl cBy fBy cCo fCo H.size h0_lxa h9_lxe) (cwV 0 htw (xg_V (ck_16 _ (List.mem_of_getElem? (i := 11) rfl)) (ck_14 _ (List.mem_of_getElem? (i := 13) rfl)) (ck_14 _ (List.mem_of_getElem? (i := 14) rfl)) (ck_3 _ (List.mem_of_getElem? (i := 4) rfl)) (ck_14 _ (List.mem_of_getElem? (i := 15) rfl))) rfl rfl rfl (by exact ⟨rfl, hdc_4.1, hdc_4.2, hdd_13⟩) ⟨Nat.le_of_ble_eq_true rfl, Nat.le_of_ble_eq_true rfl⟩) ⟨fun a U g mk q => by obtain ⟨q0, q1, qP, qK, qD⟩ := q; exact ⟨q0, q1, qP, va_K.moved (u := U) (U := U.calling g mk a) (Vm.Alike.refl U.vm) qK, qD⟩, va_recv hKc hPc (ci := 3) (q0 := 0) rfl rfl, fun U hU hW => ⟨rfl, by rw [hU], by rw [hU]; exact hPc, va_K.moved hW.alike hKc, hDc.weaken (fun _ _ _ _ => trivial)⟩⟩ rfl rfl hl.1 rfl (lv_room (Nat.le_of_ble_eq_true rfl)) dX7_readPart_234 ⟨Nat.le_of_ble_eq_true rfl, Nat.le_of_ble_eq_true rfl⟩) hS (fun q _ h => hFc q h) hFc (fun u_148 t H1 locs ht hvm hw hB hz1 hk1 hS => ?_)
          try dsimp only at hw
          obtain ⟨hP1, hK1, hD1⟩ := hB
          rw [ht] at hP1
          have hK1 := va_K.moved hvm.symm hK1
          have hK1 : va_K (dC, dI) vwCl [] s := hK1
          obtain ⟨hP, hD⟩ := va_join (wr := [(eA0 rco cRc 64 fRc), (eO0a bk bto bnm bla bsk bru bbo bdi bda bdk bdt bdp bno), (eO8a bru rco rsz ren rst u_133.2.2), (eO7a pa lx bk u_133.1 u_133.2.1 psk phe phr u_141.1 pop), (eA0 phe cHe 72 u_141.2.1), (eA0 phr cHr 72 u_141.2.2)]) (w1 := [(eO3a lx lby lfi lco lxe u_148.1 u_148.2.1 u_148.2.2.1 u_148.2.2.2.1 u_148.2.2.2.2), (eA0 lby cBy 900 fBy), (eA0 lco cCo 23 fCo)]) hP hD [3, 0, 1] [2, 4, 5, 6, 7, 8] hCc rfl (by decide) (by decide) hk1 hFc hP1 hD1
          generalize H1 = H at hP hS ⊢
          obtain ⟨hP, hD⟩ := zre [(eA0 rco cRc 64 fRc), (eO0a bk bto bnm bla bsk bru bbo bdi bda bdk bdt bdp bno), (eO8a bru rco rsz ren rst u_133.2.2), (eO7a pa lx bk u_133.1 u_133.2.1 psk phe phr u_141.1 pop), (eA0 phe cHe 72 u_141.2.1), (eA0 phr cHr 72 u_141.2.2), (eO3a lx lby lfi lco lxe u_148.1 u_148.2.1 u_148.2.2.1 u_148.2.2.2.1 u_148.2.2.2.2), (eA0 lby cBy 900 fBy), (eA0 lco cCo 23 fCo)] hP hD rfl
          refine W.widen (k := 0) (n := 0) (by omega) (by omega) ?_
          obtain ⟨hw, hp_154⟩ := hw
          have hq_u_148 : u_148 = (fe_advance lxe lxa lxn lxl fBy fCo) := hw
          refine lv_iload_n hx hb dX7_readPart_237 rfl (lv_at hl 1 rfl) ?_
          refine xs_size (fun hHz => ?_)
          refine vx_ret ?_
          refine W.widen (k := 1) (n := 6) (by omega) (by omega) ?_
          obtain ⟨hP9, hD9⟩ := zsub2 (ws' := [(eO7a pa lx bk u_133.1 u_133.2.1 psk phe phr u_141.1 pop), (eO3a lx lby lfi lco lxe u_148.1 u_148.2.1 u_148.2.2.1 u_148.2.2.2.1 u_148.2.2.2.2), (eA0 lby cBy 900 fBy), (eA0 lco cCo 23 fCo), (eA0 phe cHe 72 u_141.2.1), (eA0 phr cHr 72 u_141.2.2), (eO0a bk bto bnm bla bsk bru bbo bdi bda bdk bdt bdp bno), (eO8a bru rco rsz ren rst u_133.2.2), (eA0 rco cRc 64 fRc)]) hP hD [3, 6, 7, 8, 4, 5, 1, 2, 0] (by decide +kernel) rfl
          have hK9 := hK.sub (tys' := []) [] rfl
          exact W.zret (v := 1) hx hb hr (by first | rfl | decide) (fun t ht hW => ⟨⟨1, (u_133.1, u_133.2.1, u_141.1, pop, u_148.1, u_148.2.1, u_148.2.2.1, u_148.2.2.2.1, u_148.2.2.2.2, u_141.2.1, u_141.2.2, rsz, u_133.2.2, fRc), rfl, ⟨((fun e9 => ⟨by rw [e9], by rw [e9], by rw [e9]⟩ : fp_readPart pfa pfp phs pop lxe lxa lxt lxp lxn lxl fBy fCo fHe fHr rsz rkn fRc = ((0 : Int32), (1 : Int32), u_133.1, u_133.2.1, u_141.1, pop, u_148.1, u_148.2.1, u_148.2.2.1, u_148.2.2.2.1, u_148.2.2.2.2, u_141.2.1, u_141.2.2, rsz, u_133.2.2, fRc) → _) ((by rw [fp_readPart]; (try rw [if_neg c_1]); (try rw [if_pos c_54]); (try rw [← hq_r_123]); (try rw [xL_eq]); (try rw [if_pos c_126]); (try rw [← hX_130]); (try rw [xL_eq]); (try rw [if_neg hTX_130]); (try rw [← hq_u_133]); (try rw [← hq_u_141]); (try rw [xL_eq]); (try rw [← hq_u_148]); (try rw [xL_eq]); try rfl))), Or.inr rfl, (gp_readPart_s29 (y0 := u_148.1) hp_154), (gp_readPart_s30 (y0 := u_141.1) hp_145 hp_146), (gp_readPart_s31 (y0 := u_141.1) hp_145 hp_146), (gp_readPart_s32 (y0 := rsz) h0_rsz)⟩, ⟨by rw [ht]; exact hP9, va_K.moved hW.alike hK9, hD9⟩, by rw [ht]; first | exact hHz | exact hHz.trans (by rw [rH])⟩, hS.F ht⟩) hS.2.2 dX7_readPart_238
      · refine lv_iconst (v := 1) hx hb dX7_readPart_40 (by decide) ?_
        refine lv_goto (tgt := 45) hx hb dX7_readPart_41 (by decide) ?_
        refine lv_istore_n (lv' := [(3, .int 1), (2, .int 1), (1, .int lxt), (0, .ref pa)]) hx hb dX7_readPart_45 rfl hl (by decide) rfl (fun ls hl => ?_)
        refine lv_aload_n hx hb dX7_readPart_46 rfl (lv_at hl 3 rfl) ?_
        refine lv_iload_n hx hb dX7_readPart_47 rfl (lv_at hl 0 rfl) ?_
        refine lv_if_ne (tgt := 68) hx hb dX7_readPart_48 (by decide) (fun _ => ?_) (fun c => absurd c (by decide))
        refine lv_iconst (v := 1) hx hb dX7_readPart_68 (by decide) ?_
        refine lv_goto (tgt := 73) hx hb dX7_readPart_69 (by decide) ?_
        refine lv_iconst (v := 1) hx hb dX7_readPart_73 (by decide) ?_
        refine lv_aload_n hx hb dX7_readPart_74 rfl (lv_at hl 3 rfl) ?_
        refine va_get (D := (dC, dI)) (ci := 7) (v := .ref lx) (C := RX7) (T := TX7) (N := 9) hx hb htw inlX7 hown hK hP 0 rfl rfl 0 (by decide) (htw _ (ck_3 _ (List.mem_of_getElem? (i := 5) rfl))) (fun _ h9 => h9) rfl dX7_readPart_75 ?_
        refine va_get (D := (dC, dI)) (ci := 3) (v := .int lxp) (C := RX3) (T := TX3) (N := 9) hx hb htw inlX3 hown hK hP 1 rfl rfl 6 (by decide) (htw _ (ck_15 _ (List.mem_of_getElem? (i := 13) rfl))) (fun _ h9 => h9) rfl dX7_readPart_78 ?_
        refine xs_size (fun hHz => ?_)
        obtain ⟨hPc, hDc, hFc, hCc⟩ := zsub3 (ws' := [(eO7a pa lx bk pfa pfp psk phe phr phs pop)]) hP hD hS hA [0] (by decide) rfl
        have hKc := hK.sub (tys' := []) [] rfl
        refine vx_callv (vx_runV (As := [.int 1, .int 1, .int lxp]) (rest := []) ⟨hx, hb, hml, hown, htw⟩ (gp_refT l hst dC dI pa lx bk pfa pfp psk phe phr phs pop (1 : Int32) (1 : Int32) lxp sL H.size (gp_readPart_s33 )) (cwV 3 htw (xg_V (ck_16 _ (List.mem_of_getElem? (i := 6) rfl)) (ck_16 _ (List.mem_of_getElem? (i := 7) rfl)) (ck_16 _ (List.mem_of_getElem? (i := 8) rfl)) (ck_1 _ (List.mem_of_getElem? (i := 16) rfl)) (ck_16 _ (List.mem_of_getElem? (i := 9) rfl))) rfl rfl rfl (by exact ⟨rfl, hdc_15.1, hdc_15.2, hdd_48⟩) ⟨Nat.le_of_ble_eq_true rfl, Nat.le_of_ble_eq_true rfl⟩) ⟨fun a U g mk q => by obtain ⟨q0, q1, qP, qK, qD, qx0⟩ := q; exact ⟨q0, q1, qP, va_K.moved (u := U) (U := U.calling g mk a) (Vm.Alike.refl U.vm) qK, qD, xl.calling qx0⟩, va_recv hKc hPc (ci := 7) (q0 := 0) rfl rfl, fun U hU hW => ⟨rfl, by rw [hU], by rw [hU]; exact hPc, va_K.moved hW.alike hKc, hDc.weaken (fun _ _ _ _ => trivial), by rw [hU]; exact xl.warm hW ((xl.kept hXL hS.2.1).narrow hFc)⟩⟩ rfl rfl hl.1 rfl (lv_room (Nat.le_of_ble_eq_true rfl)) dX7_readPart_81 ⟨Nat.le_of_ble_eq_true rfl, Nat.le_of_ble_eq_true rfl⟩) hS (fun q _ h => hFc q h) hFc (fun q _ h => hFc q h) (fun E ce q9 u_155 t H1 locs ht hvm hw hB hz1 hk1 hS hcell hcv hcl => ?_) (fun u_157 t H1 locs ht hvm hw hB hz1 hk1 hS => hw.elim)
        obtain ⟨hE9, hB⟩ := hB
        subst hE9
        obtain ⟨hP1, hK1, hD1⟩ := hB
        rw [ht] at hP1
        have hK1 := va_K.moved hvm.symm hK1
        have hK1 : va_K (dC, dI) vwCl [] s := hK1
        obtain ⟨hP, hD⟩ := va_join (wr := [(eO3a lx lby lfi lco lxe lxa lxt lxp lxn lxl), (eA0 lby cBy 900 fBy), (eA0 lco cCo 23 fCo), (eA0 phe cHe 72 fHe), (eA0 phr cHr 72 fHr), (eO0a bk bto bnm bla bsk bru bbo bdi bda bdk bdt bdp bno), (eO8a bru rco rsz ren rst rkn), (eA0 rco cRc 64 fRc)]) (w1 := [(eO7a pa lx bk 1 lxp psk phe phr phs pop)]) hP hD [0] [1, 2, 3, 4, 5, 6, 7, 8] hCc rfl (by decide +kernel) (by decide +kernel) hk1 hFc hP1 hD1
        generalize H1 = H at hP hS hcell ⊢
        obtain ⟨hP, hD⟩ := zre [(eO3a lx lby lfi lco lxe lxa lxt lxp lxn lxl), (eA0 lby cBy 900 fBy), (eA0 lco cCo 23 fCo), (eA0 phe cHe 72 fHe), (eA0 phr cHr 72 fHr), (eO0a bk bto bnm bla bsk bru bbo bdi bda bdk bdt bdp bno), (eO8a bru rco rsz ren rst rkn), (eA0 rco cRc 64 fRc), (eO7a pa lx bk 1 lxp psk phe phr phs pop)] hP hD rfl
        obtain ⟨hP9, hD9⟩ := zsub2 (ws' := [(eO7a pa lx bk 1 lxp psk phe phr phs pop), (eO3a lx lby lfi lco lxe lxa lxt lxp lxn lxl), (eA0 lby cBy 900 fBy), (eA0 lco cCo 23 fCo), (eA0 phe cHe 72 fHe), (eA0 phr cHr 72 fHr), (eO0a bk bto bnm bla bsk bru bbo bdi bda bdk bdt bdp bno), (eO8a bru rco rsz ren rst rkn), (eA0 rco cRc 64 fRc)]) hP hD [8, 0, 1, 2, 3, 4, 5, 6, 7] (by decide +kernel) rfl
        have hK9 := hK.sub (tys' := []) [] rfl
        exact vx_widen (k := 1) (n := 6) (Nat.le_of_ble_eq_true rfl) (Nat.le_of_ble_eq_true rfl) (vx_out (fun x h9 => (hex x h9).elim) hlocks hcell hcv hcl (fun t ht hal => ⟨(1, lxp, phs, pop, lxa, lxt, lxp, lxn, lxl, fHe, fHr, rsz, rkn, fRc), ((fun e9 => ⟨by rw [e9], by rw [e9]⟩ : fp_readPart pfa pfp phs pop lxe lxa lxt lxp lxn lxl fBy fCo fHe fHr rsz rkn fRc = ((1 : Int32), (0 : Int32), (1 : Int32), lxp, phs, pop, lxa, lxt, lxp, lxn, lxl, fHe, fHr, rsz, rkn, fRc) → _) ((by rw [fp_readPart]; (try rw [if_neg c_1]); (try rw [if_pos c_54]); (try rw [← hq_r_123]); (try rw [xL_eq]); (try rw [if_neg c_126]); try rfl))), ⟨rfl, by rw [ht]; exact hP9, va_K.moved hal hK9, hD9⟩, hS.F ht⟩) hS.2.2 (Nat.le_of_ble_eq_true rfl) (Nat.le_of_ble_eq_true rfl))
