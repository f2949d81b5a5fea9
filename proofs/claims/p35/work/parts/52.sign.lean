def fq_packed_d (f_tape : Nat → Int32) (a0 : Int32) (a1 : Int32) : Nat → (Int32) → (Int32) → Int32
  | 0, L3d, L4d => L3d
  | n + 1, L3d, L4d => (if (a0 + 6) ≤ L4d then L3d else (if a1 ≤ L4d then fq_packed_d f_tape a0 a1 n ((L3d <<< (5 &&& 31)) ||| 0) (L4d + 1) else fq_packed_d f_tape a0 a1 n ((L3d <<< (5 &&& 31)) ||| ((f_tape L4d.toNatClampNeg) - 96)) (L4d + 1)))
def fq_packed (f_tape : Nat → Int32) (a0 : Int32) (a1 : Int32) : Int32 := fq_packed_d f_tape a0 a1 6 (0 : Int32) a0
theorem gq_packed_s0 {y0 : Int32} {y1 : Int32} {y2 : Int32} (h0 : ¬ ((y1 + 6) ≤ y0)) (h1 : y2 ≤ y0) (h2 : ¬ (y0 < y1)) (h3 : y0 ≤ (y1 + 6)) (h4 : ¬ (y1 < 0)) (h5 : y2 ≤ 900) (h6 : y1 ≤ 900) : ¬ ((y0 + 1) < y1) := by lia
theorem gq_packed_s1 {y0 : Int32} {y1 : Int32} {y2 : Int32} (h0 : ¬ ((y1 + 6) ≤ y0)) (h1 : y2 ≤ y0) (h2 : ¬ (y0 < y1)) (h3 : y0 ≤ (y1 + 6)) (h4 : ¬ (y1 < 0)) (h5 : y2 ≤ 900) (h6 : y1 ≤ 900) : (y0 + 1) ≤ (y1 + 6) := by lia
theorem gq_packed_s2 {y0 : Int32} {y1 : Int32} {y2 : Int32} (h0 : ¬ ((y1 + 6) ≤ y0)) (h1 : ¬ (y2 ≤ y0)) (h2 : ¬ (y0 < y1)) (h3 : y0 ≤ (y1 + 6)) (h4 : ¬ (y1 < 0)) (h5 : y2 ≤ 900) (h6 : y1 ≤ 900) : ¬ (y0 < 0) ∧ ¬ (900 ≤ y0) := by lia
theorem gq_packed_s3 {y0 : Int32} {y1 : Int32} {y2 : Int32} (h0 : ¬ ((y1 + 6) ≤ y0)) (h1 : ¬ (y2 ≤ y0)) (h2 : ¬ (y0 < y1)) (h3 : y0 ≤ (y1 + 6)) (h4 : ¬ (y1 < 0)) (h5 : y2 ≤ 900) (h6 : y1 ≤ 900) : ¬ ((y0 + 1) < y1) := by lia
theorem gq_packed_s4 {y0 : Int32} {y1 : Int32} {y2 : Int32} (h0 : ¬ ((y1 + 6) ≤ y0)) (h1 : ¬ (y2 ≤ y0)) (h2 : ¬ (y0 < y1)) (h3 : y0 ≤ (y1 + 6)) (h4 : ¬ (y1 < 0)) (h5 : y2 ≤ 900) (h6 : y1 ≤ 900) : (y0 + 1) ≤ (y1 + 6) := by lia
theorem gq_packed_s5 {y0 : Int32} (h0 : ¬ (y0 < 0)) (h1 : y0 ≤ 900) : ¬ (y0 < y0) := by lia
theorem gq_packed_s6 {y0 : Int32} (h0 : ¬ (y0 < 0)) (h1 : y0 ≤ 900) : y0 ≤ (y0 + 6) := by lia
theorem dX12_packed_0 : decode cX12_packed 0 = .ok (.iconst 0, 1) := zk_3 (by decide +kernel)
theorem dX12_packed_1 : decode cX12_packed 1 = .ok (.istore_n 3, 1) := zk_62 (by decide +kernel)
theorem dX12_packed_2 : decode cX12_packed 2 = .ok (.iload_n 1, 1) := zk_27 (by decide +kernel)
theorem dX12_packed_3 : decode cX12_packed 3 = .ok (.istore 4, 2) := zk_54 (by decide +kernel)
theorem dX12_packed_5 : decode cX12_packed 5 = .ok (.iload 4, 2) := zk_21 (by decide +kernel)
theorem dX12_packed_7 : decode cX12_packed 7 = .ok (.iload_n 1, 1) := zk_27 (by decide +kernel)
theorem dX12_packed_8 : decode cX12_packed 8 = .ok (.bipush 6, 2) := zk_16 (by decide +kernel)
theorem dX12_packed_10 : decode cX12_packed 10 = .ok (.iadd, 1) := zk_96 (by decide +kernel)
theorem dX12_packed_11 : decode cX12_packed 11 = .ok (.if_icmp .ge 34, 3) := zk_162 (by decide +kernel)
theorem dX12_packed_45 : decode cX12_packed 45 = .ok (.iload_n 3, 1) := zk_29 (by decide +kernel)
theorem dX12_packed_46 : decode cX12_packed 46 = .ok (.ireturn, 1) := zk_172 (by decide +kernel)
theorem dX12_packed_14 : decode cX12_packed 14 = .ok (.iload_n 3, 1) := zk_29 (by decide +kernel)
theorem dX12_packed_15 : decode cX12_packed 15 = .ok (.iconst 5, 1) := zk_8 (by decide +kernel)
theorem dX12_packed_16 : decode cX12_packed 16 = .ok (.ishl, 1) := zk_120 (by decide +kernel)
theorem dX12_packed_17 : decode cX12_packed 17 = .ok (.iload 4, 2) := zk_21 (by decide +kernel)
theorem dX12_packed_19 : decode cX12_packed 19 = .ok (.iload_n 2, 1) := zk_28 (by decide +kernel)
theorem dX12_packed_20 : decode cX12_packed 20 = .ok (.if_icmp .ge 16, 3) := zk_162 (by decide +kernel)
theorem dX12_packed_36 : decode cX12_packed 36 = .ok (.iconst 0, 1) := zk_3 (by decide +kernel)
theorem dX12_packed_37 : decode cX12_packed 37 = .ok (.ior, 1) := zk_128 (by decide +kernel)
theorem dX12_packed_38 : decode cX12_packed 38 = .ok (.istore_n 3, 1) := zk_62 (by decide +kernel)
theorem dX12_packed_39 : decode cX12_packed 39 = .ok (.iinc 4 1, 3) := zk_132 (by decide +kernel)
theorem dX12_packed_42 : decode cX12_packed 42 = .ok (.goto (-37), 3) := zk_167 (by decide +kernel)
theorem dX12_packed_23 : decode cX12_packed 23 = .ok (.aload_n 0, 1) := zk_42 (by decide +kernel)
theorem dX12_packed_24 : decode cX12_packed 24 = .ok (.getfield 7, 3) := zk_180 (by decide +kernel)
theorem dX12_packed_27 : decode cX12_packed 27 = .ok (.iload 4, 2) := zk_21 (by decide +kernel)
theorem dX12_packed_29 : decode cX12_packed 29 = .ok (.iaload, 1) := zk_46 (by decide +kernel)
theorem dX12_packed_30 : decode cX12_packed 30 = .ok (.bipush 96, 2) := zk_16 (by decide +kernel)
theorem dX12_packed_32 : decode cX12_packed 32 = .ok (.isub, 1) := zk_100 (by decide +kernel)
theorem dX12_packed_33 : decode cX12_packed 33 = .ok (.goto 4, 3) := zk_167 (by decide +kernel)
set_option maxHeartbeats 4000000 in
set_option maxRecDepth 100000 in
theorem gq_packed (l : Launch) (dC : Nat → ClassId) (dI : Nat → Nat → Nat) (mq : Nat) (g : Nat → Int32) (gl : Nat → Int64) (rf : Nat → Nat) (ck : Nat → ClassId) (f_tape : Nat → Int32) (a0 : Int32) (a1 : Int32) (hk0 : ¬ a0 < 0) (hk1 : a1 ≤ 900) (hk3 : a0 ≤ 900) : Met l yX12_packed (Cond.code yX12_packed cX12_packed 5 (some .int) :: wsL_law) ({ frames := 0, cells := 0, slots := 0, locals := 0 }) (va_Pc [.ref mq, .int a0, .int a1] (fun U => va_P (dC, dI) vwCl [(mq, .inr (12, mF g gl rf)), (eA0 (rf 0) (ck 0) 900 f_tape)] U.heap ∧ va_K (dC, dI) vwCl [((ck 0), .int)] U)) (vp_Si (fun r => r = fq_packed f_tape a0 a1)) 0 0 (fun _ => False) := by
  refine Met.ofW (cc := cX12_packed) (maxL := 5) (ret := (some .int)) (by decide) rfl ?_
  intro p e s m args below meth c s₁ B hml hv
  obtain ⟨rfl, hP, hK⟩ := hv
  have hx := B.exec
  have hb := B.bytes
  have hr := B.returns
  have hts := atoms_spec (ws := Cond.code yX12_packed cX12_packed 5 (some .int) :: wsL_law) B.pre
  have htw : ∀ w ∈ wsL_law, w.before _ s = true := fun w h => hts w (List.mem_cons_of_mem _ h)
  have hown : s.vm.findClass RX12 = some m.cls := findClass_of_methodNamed B.named
  have hlocks := B.notSynchronized
  have hl := lv_entry ([.ref mq, .int a0, .int a1]) (n := 5) (Nat.le_of_ble_eq_true rfl)
  rw [lg_entry_eq]
  generalize (lg_sl ([.ref mq, .int a0, .int a1]) ++ List.replicate (5 - (lg_sl ([.ref mq, .int a0, .int a1])).length) Slot.unset).toArray = ls at hl ⊢
  have hl : lv_has ls 5 [(0, .ref mq), (1, .int a0), (2, .int a1)] := hl
  refine lv_iconst (v := 0) hx hb dX12_packed_0 (by decide) ?_
  refine lv_istore_n (lv' := [(3, .int 0), (0, .ref mq), (1, .int a0), (2, .int a1)]) hx hb dX12_packed_1 rfl hl (by decide) rfl (fun ls hl => ?_)
  refine lv_iload_n hx hb dX12_packed_2 rfl (lv_at hl 2 rfl) ?_
  refine lv_istore (lv' := [(4, .int a0), (3, .int 0), (0, .ref mq), (1, .int a0), (2, .int a1)]) hx hb dX12_packed_3 hl (by decide) rfl (fun ls hl => ?_)
  have hloop_1 : ∀ (n : Nat) (L3d : Int32) (L4d : Int32) (h0_d : ¬ L4d < a0) (h6_d : L4d ≤ (a0 + 6)) (hf_d : (a0 + 6).toInt ≤ L4d.toInt + (n : Int)) (hI_d : fq_packed f_tape a0 a1 = fq_packed_d f_tape a0 a1 n L3d L4d) (ls : Array Slot) (hl : lv_has ls 5 [(4, .int L4d), (3, .int L3d), (0, .ref mq), (1, .int a0), (2, .int a1)]), W p l e (headSpec (Cond.code yX12_packed cX12_packed 5 (some .int) :: wsL_law) ({ frames := 0, cells := 0, slots := 0, locals := 0 })).room s m ([.ref mq, .int a0, .int a1] : List Value).toArray below meth c s.heap [] 0 0 (MQ below (vp_Si (fun r => r = fq_packed f_tape a0 a1)) ([.ref mq, .int a0, .int a1] : List Value).toArray s 0 0 (fun _ => False)) (F0 m 5 ls []) := by
    intro n
    induction n with
    | zero =>
      intro L3d L4d h0_d h6_d hf_d hI_d ls hl
      refine lv_iload hx hb dX12_packed_5 (lv_at hl 0 rfl) ?_
      refine lv_iload_n hx hb dX12_packed_7 rfl (lv_at hl 3 rfl) ?_
      refine lv_bipush (v := 6) hx hb dX12_packed_8 (by decide) ?_
      refine lv_iadd hx hb dX12_packed_10 ?_
      refine lv_icmp_ge (tgt := 45) hx hb dX12_packed_11 (by decide) (fun c_2 => ?_) (fun c_2 => absurd c_2 (fun h => h (xi_z hf_d)))
      refine lv_iload_n hx hb dX12_packed_45 rfl (lv_at hl 1 rfl) ?_
      exact W.iret (v := L3d) hx hb hr (fun t ht hW => ⟨L3d, rfl, (Eq.symm (hI_d.trans (by rw [fq_packed_d]; try rfl))), ht⟩) (fun _ h => by cases h) dX12_packed_46
    | succ n ih =>
      intro L3d L4d h0_d h6_d hf_d hI_d ls hl
      refine lv_iload hx hb dX12_packed_5 (lv_at hl 0 rfl) ?_
      refine lv_iload_n hx hb dX12_packed_7 rfl (lv_at hl 3 rfl) ?_
      refine lv_bipush (v := 6) hx hb dX12_packed_8 (by decide) ?_
      refine lv_iadd hx hb dX12_packed_10 ?_
      refine lv_icmp_ge (tgt := 45) hx hb dX12_packed_11 (by decide) (fun c_3 => ?_) (fun c_3 => ?_)
      · refine lv_iload_n hx hb dX12_packed_45 rfl (lv_at hl 1 rfl) ?_
        exact W.iret (v := L3d) hx hb hr (fun t ht hW => ⟨L3d, rfl, (Eq.symm (hI_d.trans (by rw [fq_packed_d]; (try rw [if_pos c_3]); try rfl))), ht⟩) (fun _ h => by cases h) dX12_packed_46
      · refine lv_iload_n hx hb dX12_packed_14 rfl (lv_at hl 1 rfl) ?_
        refine lv_iconst (v := 5) hx hb dX12_packed_15 (by decide) ?_
        refine lv_ishl hx hb dX12_packed_16 ?_
        refine lv_iload hx hb dX12_packed_17 (lv_at hl 0 rfl) ?_
        refine lv_iload_n hx hb dX12_packed_19 rfl (lv_at hl 4 rfl) ?_
        refine lv_icmp_ge (tgt := 36) hx hb dX12_packed_20 (by decide) (fun c_4 => ?_) (fun c_4 => ?_)
        · refine lv_iconst (v := 0) hx hb dX12_packed_36 (by decide) ?_
          refine lv_ior hx hb dX12_packed_37 ?_
          refine lv_istore_n (lv' := [(3, .int ((L3d <<< (5 &&& 31)) ||| 0)), (4, .int L4d), (0, .ref mq), (1, .int a0), (2, .int a1)]) hx hb dX12_packed_38 rfl hl (by decide) rfl (fun ls hl => ?_)
          refine lv_iinc (v := (L4d + 1)) (lv' := [(4, .int (L4d + 1)), (3, .int ((L3d <<< (5 &&& 31)) ||| 0)), (0, .ref mq), (1, .int a0), (2, .int a1)]) hx hb dX12_packed_39 hl (k := 1) rfl (rfl) (by decide) rfl (fun ls hl => ?_)
          refine lv_goto (tgt := 5) hx hb dX12_packed_42 (by decide) ?_
          exact ih ((L3d <<< (5 &&& 31)) ||| 0) (L4d + 1) (gq_packed_s0 (y0 := L4d) (y1 := a0) (y2 := a1) c_3 c_4 h0_d h6_d hk0 hk1 hk3) (gq_packed_s1 (y0 := L4d) (y1 := a0) (y2 := a1) c_3 c_4 h0_d h6_d hk0 hk1 hk3) (by rw [xi_s' c_3]; omega) (hI_d.trans (by rw [fq_packed_d]; (try rw [if_neg c_3]); (try rw [if_pos c_4]); try rfl)) ls (lv_sub hl [0, 1, 2, 3, 4] rfl)
        · refine lv_aload_n hx hb dX12_packed_23 rfl (lv_at hl 2 rfl) ?_
          refine va_get (D := (dC, dI)) (ci := 12) (v := .ref (rf 0)) (C := RX12) (T := TX12) (N := 76) hx hb htw inlX12 hown hK hP 0 rfl rfl 0 (by decide) (htw _ (ck_9 _ (List.mem_of_getElem? (i := 4) rfl))) (fun _ h9 => h9) rfl dX12_packed_24 ?_
          refine lv_iload hx hb dX12_packed_27 (lv_at hl 0 rfl) ?_
          refine va_iald hx hb hK hP 1 0 rfl rfl (xg_inr (N := 900) rfl (gq_packed_s2 (y0 := L4d) (y1 := a0) (y2 := a1) c_3 c_4 h0_d h6_d hk0 hk1 hk3).1 (gq_packed_s2 (y0 := L4d) (y1 := a0) (y2 := a1) c_3 c_4 h0_d h6_d hk0 hk1 hk3).2) dX12_packed_29 ?_
          refine lv_bipush (v := 96) hx hb dX12_packed_30 (by decide) ?_
          refine lv_isub hx hb dX12_packed_32 ?_
          refine lv_goto (tgt := 37) hx hb dX12_packed_33 (by decide) ?_
          refine lv_ior hx hb dX12_packed_37 ?_
          refine lv_istore_n (lv' := [(3, .int ((L3d <<< (5 &&& 31)) ||| ((f_tape L4d.toNatClampNeg) - 96))), (4, .int L4d), (0, .ref mq), (1, .int a0), (2, .int a1)]) hx hb dX12_packed_38 rfl hl (by decide) rfl (fun ls hl => ?_)
          refine lv_iinc (v := (L4d + 1)) (lv' := [(4, .int (L4d + 1)), (3, .int ((L3d <<< (5 &&& 31)) ||| ((f_tape L4d.toNatClampNeg) - 96))), (0, .ref mq), (1, .int a0), (2, .int a1)]) hx hb dX12_packed_39 hl (k := 1) rfl (rfl) (by decide) rfl (fun ls hl => ?_)
          refine lv_goto (tgt := 5) hx hb dX12_packed_42 (by decide) ?_
          exact ih ((L3d <<< (5 &&& 31)) ||| ((f_tape L4d.toNatClampNeg) - 96)) (L4d + 1) (gq_packed_s3 (y0 := L4d) (y1 := a0) (y2 := a1) c_3 c_4 h0_d h6_d hk0 hk1 hk3) (gq_packed_s4 (y0 := L4d) (y1 := a0) (y2 := a1) c_3 c_4 h0_d h6_d hk0 hk1 hk3) (by rw [xi_s' c_3]; omega) (hI_d.trans (by rw [fq_packed_d]; (try rw [if_neg c_3]); (try rw [if_neg c_4]); try rfl)) ls (lv_sub hl [0, 1, 2, 3, 4] rfl)
  exact hloop_1 6 (0 : Int32) a0 (gq_packed_s5 (y0 := a0) hk0 hk3) (gq_packed_s6 (y0 := a0) hk0 hk3) (by rw [xw_6 hk0 hk3]; omega) ((by rw [fq_packed])) ls (lv_sub hl [0, 1, 2, 3, 4] rfl)

def fq_signToken_a (f_tape : Nat → Int32) (m_stop : Int32) (m_next : Int32) : (Int32) := (if m_stop ≤ (m_next + 1) then (0 : Int32) else f_tape ((m_next + 1).toNatClampNeg))
def fq_signToken_b (f_tape : Nat → Int32) (m_next : Int32) (S0a : Int32) : (Int32) := (if f_tape (m_next.toNatClampNeg) = 61 then (0 : Int32) else (if S0a = 61 then (1 : Int32) else (0 : Int32)))
def fq_signToken_d (S0a : Int32) : (Int32) := (if S0a = 62 then (1 : Int32) else (0 : Int32))
def fq_signToken_e (m_next : Int32) (S0b : Int32) (S0d : Int32) : (Int32) := (if S0b = 0 then (if S0d = 0 then (m_next + 1) else ((m_next + 1) + 1)) else ((m_next + 1) + 1))
def fq_signToken_f (f_tape : Nat → Int32) (m_next : Int32) (S0b : Int32) (S0d : Int32) : (Int32) := (if f_tape (m_next.toNatClampNeg) = 61 then (2 : Int32) else (if S0b = 0 then (if S0d = 0 then (0 : Int32) else (3 : Int32)) else (1 : Int32)))
def fq_signToken_a2 (f_tape : Nat → Int32) (m_stop : Int32) (m_next : Int32) : (Int32) := (if m_stop ≤ (m_next + 1) then (0 : Int32) else f_tape ((m_next + 1).toNatClampNeg))
def fq_signToken_b2 (f_tape : Nat → Int32) (m_next : Int32) (S0a : Int32) : (Int32) := (if f_tape (m_next.toNatClampNeg) = 61 then (0 : Int32) else (if S0a = 61 then (1 : Int32) else (0 : Int32)))
def fq_signToken_d2 : (Int32) := (0 : Int32)
def fq_signToken_e2 (m_next : Int32) (S0b : Int32) (S0d : Int32) : (Int32) := (if S0b = 0 then (if S0d = 0 then (m_next + 1) else ((m_next + 1) + 1)) else ((m_next + 1) + 1))
def fq_signToken_f2 (f_tape : Nat → Int32) (m_next : Int32) (S0b : Int32) : (Int32) := (if f_tape (m_next.toNatClampNeg) = 61 then (2 : Int32) else (if S0b = 0 then (5 : Int32) else (4 : Int32)))
def fq_signToken_h (f_tape : Nat → Int32) (m_next : Int32) : (Int32) := (if f_tape (m_next.toNatClampNeg) = 59 then (1 : Int32) else (if f_tape (m_next.toNatClampNeg) = 40 then (1 : Int32) else (if f_tape (m_next.toNatClampNeg) = 41 then (1 : Int32) else (if f_tape (m_next.toNatClampNeg) = 43 then (1 : Int32) else (if f_tape (m_next.toNatClampNeg) = 45 then (1 : Int32) else (if f_tape (m_next.toNatClampNeg) = 42 then (1 : Int32) else (if f_tape (m_next.toNatClampNeg) = 47 then (1 : Int32) else (if f_tape (m_next.toNatClampNeg) = 37 then (1 : Int32) else (0 : Int32)))))))))
def fq_signToken_a3 (f_tape : Nat → Int32) (m_stop : Int32) (m_next : Int32) : (Int32) := (if m_stop ≤ (m_next + 1) then (0 : Int32) else f_tape ((m_next + 1).toNatClampNeg))
def fq_signToken_b3 : (Int32) := (0 : Int32)
def fq_signToken_d3 : (Int32) := (0 : Int32)
def fq_signToken_e3 (m_next : Int32) (S0b : Int32) (S0d : Int32) : (Int32) := (if S0b = 0 then (if S0d = 0 then (m_next + 1) else ((m_next + 1) + 1)) else ((m_next + 1) + 1))
def fq_signToken_f3 : (Int32) := (2 : Int32)
def fq_signToken (f_tape : Nat → Int32) (m_stop : Int32) (m_next : Int32) : (Int32) × (Int32) × (Int32) := (if f_tape (m_next.toNatClampNeg) = 60 then (xL (fq_signToken_a f_tape m_stop m_next) (fun X_2 => (xL (fq_signToken_b f_tape m_next X_2) (fun X_4 => (xL (fq_signToken_d X_2) (fun X_6 => (xL (fq_signToken_e m_next X_4 X_6) (fun X_8 => (xL (fq_signToken_f f_tape m_next X_4 X_6) (fun X_10 => (X_8, (5 : Int32), X_10))))))))))) else (if f_tape (m_next.toNatClampNeg) = 62 then (xL (fq_signToken_a2 f_tape m_stop m_next) (fun X_24 => (xL (fq_signToken_b2 f_tape m_next X_24) (fun X_26 => (xL (fq_signToken_d2) (fun X_28 => (xL (fq_signToken_e2 m_next X_26 X_28) (fun X_30 => (xL (fq_signToken_f2 f_tape m_next X_26) (fun X_32 => (X_30, (5 : Int32), X_32))))))))))) else (if f_tape (m_next.toNatClampNeg) = 61 then (xL (fq_signToken_a3 f_tape m_stop m_next) (fun X_55 => (xL (fq_signToken_b3) (fun X_57 => (xL (fq_signToken_d3) (fun X_59 => (xL (fq_signToken_e3 m_next X_57 X_59) (fun X_61 => (xL (fq_signToken_f3) (fun X_63 => (X_61, (5 : Int32), X_63))))))))))) else (xL (fq_signToken_h f_tape m_next) (fun X_44 => (if X_44 = 0 then ((m_next + 1), (6 : Int32), f_tape (m_next.toNatClampNeg)) else ((m_next + 1), (4 : Int32), f_tape (m_next.toNatClampNeg))))))))
theorem gq_signToken_s0 {y0 : Int32} {y1 : Int32} (h0 : ¬ (y0 < 0)) (h1 : y1 ≤ 900) (h2 : y0 < y1) : ¬ (y0 < 0) ∧ ¬ (900 ≤ y0) := by lia
theorem gq_signToken_s1 {y0 : Int32} {y1 : Int32} {y2 : Int32} (h0 : ¬ (y0 < 0)) (h1 : y0 ≤ y1) (h2 : ¬ (y2 < 0)) (h3 : y1 ≤ 900) (h4 : y2 < y1) : ¬ (y0 < 0) := h0
theorem gq_signToken_s2 {y0 : Int32} {y1 : Int32} {y2 : Int32} (h0 : ¬ (y0 < 0)) (h1 : y0 ≤ y1) (h2 : ¬ (y2 < 0)) (h3 : y1 ≤ 900) (h4 : y2 < y1) : y0 ≤ y1 := h1
theorem gq_signToken_s3 {y0 : Int32} {y1 : Int32} (h0 : (y0 + 1) < y1) (h1 : ¬ (y0 < 0)) (h2 : y1 ≤ 900) (h3 : y0 < y1) : ¬ (((y0 + 1) + 1) < 0) := by lia
theorem gq_signToken_s4 {y0 : Int32} {y1 : Int32} (h0 : (y0 + 1) < y1) (h1 : ¬ (y0 < 0)) (h2 : y1 ≤ 900) (h3 : y0 < y1) : ((y0 + 1) + 1) ≤ y1 := by lia
theorem gq_signToken_s5 {y0 : Int32} {y1 : Int32} (h0 : ¬ (y0 < 0)) (h1 : y1 ≤ 900) (h2 : y0 < y1) : ¬ ((y0 + 1) < 0) := by lia
theorem gq_signToken_s6 {y0 : Int32} {y1 : Int32} (h0 : ¬ (y0 < 0)) (h1 : y1 ≤ 900) (h2 : y0 < y1) : (y0 + 1) ≤ y1 := by lia
theorem gq_signToken_s7 {y0 : Int32} {y1 : Int32} (h0 : (y0 + 1) < y1) (h1 : ¬ (y0 < 0)) (h2 : y1 ≤ 900) (h3 : y0 < y1) : ¬ (((y0 + 1) + 1) < 0) := gq_signToken_s3 h0 h1 h2 h3
theorem gq_signToken_s8 {y0 : Int32} {y1 : Int32} (h0 : (y0 + 1) < y1) (h1 : ¬ (y0 < 0)) (h2 : y1 ≤ 900) (h3 : y0 < y1) : ((y0 + 1) + 1) ≤ y1 := gq_signToken_s4 h0 h1 h2 h3
theorem gq_signToken_s9 {y0 : Int32} {y1 : Int32} (h0 : ¬ (y1 ≤ (y0 + 1))) (h1 : ¬ (y0 < 0)) (h2 : y1 ≤ 900) (h3 : y0 < y1) : ¬ ((y0 + 1) < 0) ∧ ¬ (900 ≤ (y0 + 1)) := by lia
theorem gq_signToken_s10 {y0 : Int32} {y1 : Int32} {y2 : Int32} (h0 : ¬ (y0 < 0)) (h1 : y0 ≤ y1) (h2 : ¬ (y2 < 0)) (h3 : y1 ≤ 900) (h4 : y2 < y1) : ¬ (y0 < 0) := gq_signToken_s1 h0 h1 h2 h3 h4
theorem gq_signToken_s11 {y0 : Int32} {y1 : Int32} {y2 : Int32} (h0 : ¬ (y0 < 0)) (h1 : y0 ≤ y1) (h2 : ¬ (y2 < 0)) (h3 : y1 ≤ 900) (h4 : y2 < y1) : y0 ≤ y1 := gq_signToken_s2 h0 h1 h2 h3 h4
theorem gq_signToken_s12 {y0 : Int32} {y1 : Int32} (h0 : (y0 + 1) < y1) (h1 : ¬ (y0 < 0)) (h2 : y1 ≤ 900) (h3 : y0 < y1) : ¬ (((y0 + 1) + 1) < 0) := gq_signToken_s3 h0 h1 h2 h3
theorem gq_signToken_s13 {y0 : Int32} {y1 : Int32} (h0 : (y0 + 1) < y1) (h1 : ¬ (y0 < 0)) (h2 : y1 ≤ 900) (h3 : y0 < y1) : ((y0 + 1) + 1) ≤ y1 := gq_signToken_s4 h0 h1 h2 h3
theorem gq_signToken_s14 {y0 : Int32} {y1 : Int32} (h0 : ¬ (y0 < 0)) (h1 : y1 ≤ 900) (h2 : y0 < y1) : ¬ ((y0 + 1) < 0) := by lia
theorem gq_signToken_s15 {y0 : Int32} {y1 : Int32} (h0 : ¬ (y0 < 0)) (h1 : y1 ≤ 900) (h2 : y0 < y1) : (y0 + 1) ≤ y1 := by lia
theorem gq_signToken_s16 {y0 : Int32} {y1 : Int32} (h0 : (y0 + 1) < y1) (h1 : ¬ (y0 < 0)) (h2 : y1 ≤ 900) (h3 : y0 < y1) : ¬ (((y0 + 1) + 1) < 0) := gq_signToken_s3 h0 h1 h2 h3
theorem gq_signToken_s17 {y0 : Int32} {y1 : Int32} (h0 : (y0 + 1) < y1) (h1 : ¬ (y0 < 0)) (h2 : y1 ≤ 900) (h3 : y0 < y1) : ((y0 + 1) + 1) ≤ y1 := gq_signToken_s4 h0 h1 h2 h3
theorem gq_signToken_s18 {y0 : Int32} {y1 : Int32} (h0 : ¬ (y1 ≤ (y0 + 1))) (h1 : ¬ (y0 < 0)) (h2 : y1 ≤ 900) (h3 : y0 < y1) : ¬ ((y0 + 1) < 0) ∧ ¬ (900 ≤ (y0 + 1)) := gq_signToken_s9 h0 h1 h2 h3
theorem gq_signToken_s19 {y0 : Int32} {y1 : Int32} (h0 : ¬ (y0 < 0)) (h1 : y1 ≤ 900) (h2 : y0 < y1) : ¬ ((y0 + 1) < 0) := by lia
theorem gq_signToken_s20 {y0 : Int32} {y1 : Int32} (h0 : ¬ (y0 < 0)) (h1 : y1 ≤ 900) (h2 : y0 < y1) : (y0 + 1) ≤ y1 := by lia
theorem gq_signToken_s21 {y0 : Int32} {y1 : Int32} (h0 : ¬ (y0 < 0)) (h1 : y1 ≤ 900) (h2 : y0 < y1) : ¬ ((y0 + 1) < 0) := by lia
theorem gq_signToken_s22 {y0 : Int32} {y1 : Int32} (h0 : ¬ (y0 < 0)) (h1 : y1 ≤ 900) (h2 : y0 < y1) : (y0 + 1) ≤ y1 := by lia
theorem gq_signToken_s23 {y0 : Int32} {y1 : Int32} {y2 : Int32} (h0 : ¬ (y0 < 0)) (h1 : y0 ≤ y1) (h2 : ¬ (y2 < 0)) (h3 : y1 ≤ 900) (h4 : y2 < y1) : ¬ (y0 < 0) := gq_signToken_s1 h0 h1 h2 h3 h4
theorem gq_signToken_s24 {y0 : Int32} {y1 : Int32} {y2 : Int32} (h0 : ¬ (y0 < 0)) (h1 : y0 ≤ y1) (h2 : ¬ (y2 < 0)) (h3 : y1 ≤ 900) (h4 : y2 < y1) : y0 ≤ y1 := gq_signToken_s2 h0 h1 h2 h3 h4
theorem gq_signToken_s25 {y0 : Int32} {y1 : Int32} (h0 : (y0 + 1) < y1) (h1 : ¬ (y0 < 0)) (h2 : y1 ≤ 900) (h3 : y0 < y1) : ¬ (((y0 + 1) + 1) < 0) := gq_signToken_s3 h0 h1 h2 h3
theorem gq_signToken_s26 {y0 : Int32} {y1 : Int32} (h0 : (y0 + 1) < y1) (h1 : ¬ (y0 < 0)) (h2 : y1 ≤ 900) (h3 : y0 < y1) : ((y0 + 1) + 1) ≤ y1 := gq_signToken_s4 h0 h1 h2 h3
theorem gq_signToken_s27 {y0 : Int32} {y1 : Int32} (h0 : ¬ (y0 < 0)) (h1 : y1 ≤ 900) (h2 : y0 < y1) : ¬ ((y0 + 1) < 0) := by lia
theorem gq_signToken_s28 {y0 : Int32} {y1 : Int32} (h0 : ¬ (y0 < 0)) (h1 : y1 ≤ 900) (h2 : y0 < y1) : (y0 + 1) ≤ y1 := by lia
theorem gq_signToken_s29 {y0 : Int32} {y1 : Int32} (h0 : (y0 + 1) < y1) (h1 : ¬ (y0 < 0)) (h2 : y1 ≤ 900) (h3 : y0 < y1) : ¬ (((y0 + 1) + 1) < 0) := gq_signToken_s3 h0 h1 h2 h3
theorem gq_signToken_s30 {y0 : Int32} {y1 : Int32} (h0 : (y0 + 1) < y1) (h1 : ¬ (y0 < 0)) (h2 : y1 ≤ 900) (h3 : y0 < y1) : ((y0 + 1) + 1) ≤ y1 := gq_signToken_s4 h0 h1 h2 h3
theorem gq_signToken_s31 {y0 : Int32} {y1 : Int32} (h0 : ¬ (y1 ≤ (y0 + 1))) (h1 : ¬ (y0 < 0)) (h2 : y1 ≤ 900) (h3 : y0 < y1) : ¬ ((y0 + 1) < 0) ∧ ¬ (900 ≤ (y0 + 1)) := gq_signToken_s9 h0 h1 h2 h3
theorem dX12_signToken_0 : decode cX12_signToken 0 = .ok (.aload_n 0, 1) := zk_42 (by decide +kernel)
theorem dX12_signToken_1 : decode cX12_signToken 1 = .ok (.aload_n 0, 1) := zk_42 (by decide +kernel)
theorem dX12_signToken_2 : decode cX12_signToken 2 = .ok (.getfield 7, 3) := zk_180 (by decide +kernel)
theorem dX12_signToken_5 : decode cX12_signToken 5 = .ok (.aload_n 0, 1) := zk_42 (by decide +kernel)
theorem dX12_signToken_6 : decode cX12_signToken 6 = .ok (.getfield 136, 3) := zk_180 (by decide +kernel)
theorem dX12_signToken_9 : decode cX12_signToken 9 = .ok (.iaload, 1) := zk_46 (by decide +kernel)
theorem dX12_signToken_10 : decode cX12_signToken 10 = .ok (.putfield 150, 3) := zk_181 (by decide +kernel)
theorem dX12_signToken_13 : decode cX12_signToken 13 = .ok (.aload_n 0, 1) := zk_42 (by decide +kernel)
theorem dX12_signToken_14 : decode cX12_signToken 14 = .ok (.dup, 1) := zk_89 (by decide +kernel)
theorem dX12_signToken_15 : decode cX12_signToken 15 = .ok (.getfield 136, 3) := zk_180 (by decide +kernel)
theorem dX12_signToken_18 : decode cX12_signToken 18 = .ok (.iconst 1, 1) := zk_4 (by decide +kernel)
theorem dX12_signToken_19 : decode cX12_signToken 19 = .ok (.iadd, 1) := zk_96 (by decide +kernel)
theorem dX12_signToken_20 : decode cX12_signToken 20 = .ok (.putfield 136, 3) := zk_181 (by decide +kernel)
theorem dX12_signToken_23 : decode cX12_signToken 23 = .ok (.aload_n 0, 1) := zk_42 (by decide +kernel)
theorem dX12_signToken_24 : decode cX12_signToken 24 = .ok (.getfield 150, 3) := zk_180 (by decide +kernel)
theorem dX12_signToken_27 : decode cX12_signToken 27 = .ok (.bipush 60, 2) := zk_16 (by decide +kernel)
theorem dX12_signToken_29 : decode cX12_signToken 29 = .ok (.if_icmp .eq 21, 3) := zk_159 (by decide +kernel)
theorem dX12_signToken_50 : decode cX12_signToken 50 = .ok (.aload_n 0, 1) := zk_42 (by decide +kernel)
theorem dX12_signToken_51 : decode cX12_signToken 51 = .ok (.getfield 136, 3) := zk_180 (by decide +kernel)
theorem dX12_signToken_54 : decode cX12_signToken 54 = .ok (.aload_n 0, 1) := zk_42 (by decide +kernel)
theorem dX12_signToken_55 : decode cX12_signToken 55 = .ok (.getfield 133, 3) := zk_180 (by decide +kernel)
theorem dX12_signToken_74 : decode cX12_signToken 74 = .ok (.istore_n 1, 1) := zk_60 (by decide +kernel)
theorem dX12_signToken_75 : decode cX12_signToken 75 = .ok (.aload_n 0, 1) := zk_42 (by decide +kernel)
theorem dX12_signToken_76 : decode cX12_signToken 76 = .ok (.getfield 150, 3) := zk_180 (by decide +kernel)
theorem dX12_signToken_79 : decode cX12_signToken 79 = .ok (.bipush 61, 2) := zk_16 (by decide +kernel)
theorem dX12_signToken_95 : decode cX12_signToken 95 = .ok (.istore_n 2, 1) := zk_61 (by decide +kernel)
theorem dX12_signToken_96 : decode cX12_signToken 96 = .ok (.aload_n 0, 1) := zk_42 (by decide +kernel)
theorem dX12_signToken_97 : decode cX12_signToken 97 = .ok (.getfield 150, 3) := zk_180 (by decide +kernel)
theorem dX12_signToken_100 : decode cX12_signToken 100 = .ok (.bipush 60, 2) := zk_16 (by decide +kernel)
theorem dX12_signToken_116 : decode cX12_signToken 116 = .ok (.istore_n 3, 1) := zk_62 (by decide +kernel)
theorem dX12_signToken_117 : decode cX12_signToken 117 = .ok (.iload_n 2, 1) := zk_28 (by decide +kernel)
theorem dX12_signToken_135 : decode cX12_signToken 135 = .ok (.aload_n 0, 1) := zk_42 (by decide +kernel)
theorem dX12_signToken_136 : decode cX12_signToken 136 = .ok (.iconst 5, 1) := zk_8 (by decide +kernel)
theorem dX12_signToken_137 : decode cX12_signToken 137 = .ok (.putfield 139, 3) := zk_181 (by decide +kernel)
theorem dX12_signToken_140 : decode cX12_signToken 140 = .ok (.aload_n 0, 1) := zk_42 (by decide +kernel)
theorem dX12_signToken_141 : decode cX12_signToken 141 = .ok (.aload_n 0, 1) := zk_42 (by decide +kernel)
theorem dX12_signToken_142 : decode cX12_signToken 142 = .ok (.getfield 150, 3) := zk_180 (by decide +kernel)
theorem dX12_signToken_145 : decode cX12_signToken 145 = .ok (.bipush 61, 2) := zk_16 (by decide +kernel)
theorem dX12_signToken_192 : decode cX12_signToken 192 = .ok (.putfield 150, 3) := zk_181 (by decide +kernel)
theorem dX12_signToken_195 : decode cX12_signToken 195 = .ok (.goto 95, 3) := zk_167 (by decide +kernel)
theorem dX12_signToken_290 : decode cX12_signToken 290 = .ok (.return_, 1) := zk_177 (by decide +kernel)
theorem dX12_signToken_147 : decode cX12_signToken 147 = .ok (.if_icmp .ne 7, 3) := zk_160 (by decide +kernel)
theorem dX12_signToken_154 : decode cX12_signToken 154 = .ok (.aload_n 0, 1) := zk_42 (by decide +kernel)
theorem dX12_signToken_155 : decode cX12_signToken 155 = .ok (.getfield 150, 3) := zk_180 (by decide +kernel)
theorem dX12_signToken_158 : decode cX12_signToken 158 = .ok (.bipush 60, 2) := zk_16 (by decide +kernel)
theorem dX12_signToken_160 : decode cX12_signToken 160 = .ok (.if_icmp .ne 23, 3) := zk_160 (by decide +kernel)
theorem dX12_signToken_163 : decode cX12_signToken 163 = .ok (.iload_n 2, 1) := zk_28 (by decide +kernel)
theorem dX12_signToken_164 : decode cX12_signToken 164 = .ok (.ifCond .eq 7, 3) := zk_153 (by decide +kernel)
theorem dX12_signToken_171 : decode cX12_signToken 171 = .ok (.iload_n 3, 1) := zk_29 (by decide +kernel)
theorem dX12_signToken_172 : decode cX12_signToken 172 = .ok (.ifCond .eq 7, 3) := zk_153 (by decide +kernel)
theorem dX12_signToken_179 : decode cX12_signToken 179 = .ok (.iconst 0, 1) := zk_3 (by decide +kernel)
theorem dX12_signToken_180 : decode cX12_signToken 180 = .ok (.goto 12, 3) := zk_167 (by decide +kernel)
theorem dX12_signToken_175 : decode cX12_signToken 175 = .ok (.iconst 3, 1) := zk_6 (by decide +kernel)
theorem dX12_signToken_176 : decode cX12_signToken 176 = .ok (.goto 16, 3) := zk_167 (by decide +kernel)
theorem dX12_signToken_167 : decode cX12_signToken 167 = .ok (.iconst 1, 1) := zk_4 (by decide +kernel)
theorem dX12_signToken_168 : decode cX12_signToken 168 = .ok (.goto 24, 3) := zk_167 (by decide +kernel)
theorem dX12_signToken_150 : decode cX12_signToken 150 = .ok (.iconst 2, 1) := zk_5 (by decide +kernel)
theorem dX12_signToken_151 : decode cX12_signToken 151 = .ok (.goto 41, 3) := zk_167 (by decide +kernel)
theorem dX12_signToken_118 : decode cX12_signToken 118 = .ok (.ifCond .ne 7, 3) := zk_154 (by decide +kernel)
theorem dX12_signToken_125 : decode cX12_signToken 125 = .ok (.aload_n 0, 1) := zk_42 (by decide +kernel)
theorem dX12_signToken_126 : decode cX12_signToken 126 = .ok (.dup, 1) := zk_89 (by decide +kernel)
theorem dX12_signToken_127 : decode cX12_signToken 127 = .ok (.getfield 136, 3) := zk_180 (by decide +kernel)
theorem dX12_signToken_130 : decode cX12_signToken 130 = .ok (.iconst 1, 1) := zk_4 (by decide +kernel)
theorem dX12_signToken_131 : decode cX12_signToken 131 = .ok (.iadd, 1) := zk_96 (by decide +kernel)
theorem dX12_signToken_132 : decode cX12_signToken 132 = .ok (.putfield 136, 3) := zk_181 (by decide +kernel)
theorem dX12_signToken_121 : decode cX12_signToken 121 = .ok (.iload_n 3, 1) := zk_29 (by decide +kernel)
theorem dX12_signToken_122 : decode cX12_signToken 122 = .ok (.ifCond .eq 13, 3) := zk_153 (by decide +kernel)
theorem dX12_signToken_102 : decode cX12_signToken 102 = .ok (.if_icmp .ne 13, 3) := zk_160 (by decide +kernel)
theorem dX12_signToken_105 : decode cX12_signToken 105 = .ok (.iload_n 1, 1) := zk_27 (by decide +kernel)
theorem dX12_signToken_106 : decode cX12_signToken 106 = .ok (.bipush 62, 2) := zk_16 (by decide +kernel)
theorem dX12_signToken_108 : decode cX12_signToken 108 = .ok (.if_icmp .ne 7, 3) := zk_160 (by decide +kernel)
theorem dX12_signToken_115 : decode cX12_signToken 115 = .ok (.iconst 0, 1) := zk_3 (by decide +kernel)
theorem dX12_signToken_111 : decode cX12_signToken 111 = .ok (.iconst 1, 1) := zk_4 (by decide +kernel)
theorem dX12_signToken_112 : decode cX12_signToken 112 = .ok (.goto 4, 3) := zk_167 (by decide +kernel)
theorem dX12_signToken_81 : decode cX12_signToken 81 = .ok (.if_icmp .eq 13, 3) := zk_159 (by decide +kernel)
theorem dX12_signToken_94 : decode cX12_signToken 94 = .ok (.iconst 0, 1) := zk_3 (by decide +kernel)
theorem dX12_signToken_84 : decode cX12_signToken 84 = .ok (.iload_n 1, 1) := zk_27 (by decide +kernel)
theorem dX12_signToken_85 : decode cX12_signToken 85 = .ok (.bipush 61, 2) := zk_16 (by decide +kernel)
theorem dX12_signToken_87 : decode cX12_signToken 87 = .ok (.if_icmp .ne 7, 3) := zk_160 (by decide +kernel)
theorem dX12_signToken_90 : decode cX12_signToken 90 = .ok (.iconst 1, 1) := zk_4 (by decide +kernel)
theorem dX12_signToken_91 : decode cX12_signToken 91 = .ok (.goto 4, 3) := zk_167 (by decide +kernel)
theorem dX12_signToken_58 : decode cX12_signToken 58 = .ok (.if_icmp .ge 15, 3) := zk_162 (by decide +kernel)
theorem dX12_signToken_73 : decode cX12_signToken 73 = .ok (.iconst 0, 1) := zk_3 (by decide +kernel)
theorem dX12_signToken_61 : decode cX12_signToken 61 = .ok (.aload_n 0, 1) := zk_42 (by decide +kernel)
theorem dX12_signToken_62 : decode cX12_signToken 62 = .ok (.getfield 7, 3) := zk_180 (by decide +kernel)
theorem dX12_signToken_65 : decode cX12_signToken 65 = .ok (.aload_n 0, 1) := zk_42 (by decide +kernel)
theorem dX12_signToken_66 : decode cX12_signToken 66 = .ok (.getfield 136, 3) := zk_180 (by decide +kernel)
theorem dX12_signToken_69 : decode cX12_signToken 69 = .ok (.iaload, 1) := zk_46 (by decide +kernel)
theorem dX12_signToken_70 : decode cX12_signToken 70 = .ok (.goto 4, 3) := zk_167 (by decide +kernel)
theorem dX12_signToken_32 : decode cX12_signToken 32 = .ok (.aload_n 0, 1) := zk_42 (by decide +kernel)
theorem dX12_signToken_33 : decode cX12_signToken 33 = .ok (.getfield 150, 3) := zk_180 (by decide +kernel)
theorem dX12_signToken_36 : decode cX12_signToken 36 = .ok (.bipush 62, 2) := zk_16 (by decide +kernel)
theorem dX12_signToken_38 : decode cX12_signToken 38 = .ok (.if_icmp .eq 12, 3) := zk_159 (by decide +kernel)
theorem dX12_signToken_183 : decode cX12_signToken 183 = .ok (.iload_n 2, 1) := zk_28 (by decide +kernel)
theorem dX12_signToken_184 : decode cX12_signToken 184 = .ok (.ifCond .eq 7, 3) := zk_153 (by decide +kernel)
theorem dX12_signToken_191 : decode cX12_signToken 191 = .ok (.iconst 5, 1) := zk_8 (by decide +kernel)
theorem dX12_signToken_187 : decode cX12_signToken 187 = .ok (.iconst 4, 1) := zk_7 (by decide +kernel)
theorem dX12_signToken_188 : decode cX12_signToken 188 = .ok (.goto 4, 3) := zk_167 (by decide +kernel)
theorem dX12_signToken_41 : decode cX12_signToken 41 = .ok (.aload_n 0, 1) := zk_42 (by decide +kernel)
theorem dX12_signToken_42 : decode cX12_signToken 42 = .ok (.getfield 150, 3) := zk_180 (by decide +kernel)
theorem dX12_signToken_45 : decode cX12_signToken 45 = .ok (.bipush 61, 2) := zk_16 (by decide +kernel)
theorem dX12_signToken_47 : decode cX12_signToken 47 = .ok (.if_icmp .ne 151, 3) := zk_160 (by decide +kernel)
theorem dX12_signToken_198 : decode cX12_signToken 198 = .ok (.aload_n 0, 1) := zk_42 (by decide +kernel)
theorem dX12_signToken_199 : decode cX12_signToken 199 = .ok (.getfield 150, 3) := zk_180 (by decide +kernel)
theorem dX12_signToken_202 : decode cX12_signToken 202 = .ok (.bipush 59, 2) := zk_16 (by decide +kernel)
theorem dX12_signToken_275 : decode cX12_signToken 275 = .ok (.istore_n 1, 1) := zk_60 (by decide +kernel)
theorem dX12_signToken_276 : decode cX12_signToken 276 = .ok (.aload_n 0, 1) := zk_42 (by decide +kernel)
theorem dX12_signToken_277 : decode cX12_signToken 277 = .ok (.iload_n 1, 1) := zk_27 (by decide +kernel)
theorem dX12_signToken_278 : decode cX12_signToken 278 = .ok (.ifCond .eq 7, 3) := zk_153 (by decide +kernel)
theorem dX12_signToken_285 : decode cX12_signToken 285 = .ok (.bipush 6, 2) := zk_16 (by decide +kernel)
theorem dX12_signToken_287 : decode cX12_signToken 287 = .ok (.putfield 139, 3) := zk_181 (by decide +kernel)
theorem dX12_signToken_281 : decode cX12_signToken 281 = .ok (.iconst 4, 1) := zk_7 (by decide +kernel)
theorem dX12_signToken_282 : decode cX12_signToken 282 = .ok (.goto 5, 3) := zk_167 (by decide +kernel)
theorem dX12_signToken_204 : decode cX12_signToken 204 = .ok (.if_icmp .eq 66, 3) := zk_159 (by decide +kernel)
theorem dX12_signToken_270 : decode cX12_signToken 270 = .ok (.iconst 1, 1) := zk_4 (by decide +kernel)
theorem dX12_signToken_271 : decode cX12_signToken 271 = .ok (.goto 4, 3) := zk_167 (by decide +kernel)
theorem dX12_signToken_207 : decode cX12_signToken 207 = .ok (.aload_n 0, 1) := zk_42 (by decide +kernel)
theorem dX12_signToken_208 : decode cX12_signToken 208 = .ok (.getfield 150, 3) := zk_180 (by decide +kernel)
theorem dX12_signToken_211 : decode cX12_signToken 211 = .ok (.bipush 40, 2) := zk_16 (by decide +kernel)
theorem dX12_signToken_213 : decode cX12_signToken 213 = .ok (.if_icmp .eq 57, 3) := zk_159 (by decide +kernel)
theorem dX12_signToken_216 : decode cX12_signToken 216 = .ok (.aload_n 0, 1) := zk_42 (by decide +kernel)
theorem dX12_signToken_217 : decode cX12_signToken 217 = .ok (.getfield 150, 3) := zk_180 (by decide +kernel)
theorem dX12_signToken_220 : decode cX12_signToken 220 = .ok (.bipush 41, 2) := zk_16 (by decide +kernel)
theorem dX12_signToken_222 : decode cX12_signToken 222 = .ok (.if_icmp .eq 48, 3) := zk_159 (by decide +kernel)
theorem dX12_signToken_225 : decode cX12_signToken 225 = .ok (.aload_n 0, 1) := zk_42 (by decide +kernel)
theorem dX12_signToken_226 : decode cX12_signToken 226 = .ok (.getfield 150, 3) := zk_180 (by decide +kernel)
theorem dX12_signToken_229 : decode cX12_signToken 229 = .ok (.bipush 43, 2) := zk_16 (by decide +kernel)
theorem dX12_signToken_231 : decode cX12_signToken 231 = .ok (.if_icmp .eq 39, 3) := zk_159 (by decide +kernel)
theorem dX12_signToken_234 : decode cX12_signToken 234 = .ok (.aload_n 0, 1) := zk_42 (by decide +kernel)
theorem dX12_signToken_235 : decode cX12_signToken 235 = .ok (.getfield 150, 3) := zk_180 (by decide +kernel)
theorem dX12_signToken_238 : decode cX12_signToken 238 = .ok (.bipush 45, 2) := zk_16 (by decide +kernel)
theorem dX12_signToken_240 : decode cX12_signToken 240 = .ok (.if_icmp .eq 30, 3) := zk_159 (by decide +kernel)
theorem dX12_signToken_243 : decode cX12_signToken 243 = .ok (.aload_n 0, 1) := zk_42 (by decide +kernel)
theorem dX12_signToken_244 : decode cX12_signToken 244 = .ok (.getfield 150, 3) := zk_180 (by decide +kernel)
theorem dX12_signToken_247 : decode cX12_signToken 247 = .ok (.bipush 42, 2) := zk_16 (by decide +kernel)
theorem dX12_signToken_249 : decode cX12_signToken 249 = .ok (.if_icmp .eq 21, 3) := zk_159 (by decide +kernel)
theorem dX12_signToken_252 : decode cX12_signToken 252 = .ok (.aload_n 0, 1) := zk_42 (by decide +kernel)
theorem dX12_signToken_253 : decode cX12_signToken 253 = .ok (.getfield 150, 3) := zk_180 (by decide +kernel)
theorem dX12_signToken_256 : decode cX12_signToken 256 = .ok (.bipush 47, 2) := zk_16 (by decide +kernel)
theorem dX12_signToken_258 : decode cX12_signToken 258 = .ok (.if_icmp .eq 12, 3) := zk_159 (by decide +kernel)
theorem dX12_signToken_261 : decode cX12_signToken 261 = .ok (.aload_n 0, 1) := zk_42 (by decide +kernel)
theorem dX12_signToken_262 : decode cX12_signToken 262 = .ok (.getfield 150, 3) := zk_180 (by decide +kernel)
theorem dX12_signToken_265 : decode cX12_signToken 265 = .ok (.bipush 37, 2) := zk_16 (by decide +kernel)
theorem dX12_signToken_267 : decode cX12_signToken 267 = .ok (.if_icmp .ne 7, 3) := zk_160 (by decide +kernel)
theorem dX12_signToken_274 : decode cX12_signToken 274 = .ok (.iconst 0, 1) := zk_3 (by decide +kernel)
set_option maxHeartbeats 4000000 in
set_option maxRecDepth 100000 in
theorem gq_signToken (l : Launch) (dC : Nat → ClassId) (dI : Nat → Nat → Nat) (mq : Nat) (g : Nat → Int32) (gl : Nat → Int64) (rf : Nat → Nat) (ck : Nat → ClassId) (f_tape : Nat → Int32) (sz : Nat) (h0n : ¬ (g 7) < 0) (hs9 : (g 6) ≤ 900) (hlt : (g 7) < (g 6)) : Met l yX12_signToken (Cond.code yX12_signToken cX12_signToken 4 none :: wsL_law) ({ frames := 0, cells := 0, slots := 0, locals := 0 }) (va_Pc [.ref mq] (fun U => U.heap.size = sz ∧ va_P (dC, dI) vwCl [(mq, .inr (12, mF g gl rf)), (eA0 (rf 0) (ck 0) 900 f_tape)] U.heap ∧ va_K (dC, dI) vwCl [((ck 0), .int)] U ∧ va_D (fun _ => True) [(mq, .inr (12, mF g gl rf)), (eA0 (rf 0) (ck 0) 900 f_tape)])) (va_Qv (fun (u : (Int32) × (Int32) × (Int32)) => (u = fq_signToken f_tape (g 6) (g 7)) ∧ (¬ u.1 < 0) ∧ (u.1 ≤ (g 6))) (fun (u : (Int32) × (Int32) × (Int32)) t => va_P (dC, dI) vwCl [(mq, .inr (12, mF (upd (upd (upd g 7 u.1) 8 u.2.1) 9 u.2.2) gl rf)), (eA0 (rf 0) (ck 0) 900 f_tape)] t.heap ∧ va_K (dC, dI) vwCl [] t ∧ va_D (va_A [(mq, .inr (12, mF g gl rf)), (eA0 (rf 0) (ck 0) 900 f_tape)] sz) [(mq, .inr (12, mF (upd (upd (upd g 7 u.1) 8 u.2.1) 9 u.2.2) gl rf)), (eA0 (rf 0) (ck 0) 900 f_tape)]) (va_A [(mq, .inr (12, mF g gl rf)), (eA0 (rf 0) (ck 0) 900 f_tape)] sz)) 0 0 (va_A [(mq, .inr (12, mF g gl rf)), (eA0 (rf 0) (ck 0) 900 f_tape)] sz) := by
  refine Met.ofW (cc := cX12_signToken) (maxL := 4) (ret := none) (by decide) rfl ?_
  intro p e s m args below meth c s₁ B hml hv
  obtain ⟨rfl, hsz, hP, hK, hD0⟩ := hv
  have hx := B.exec
  have hb := B.bytes
  have hr := B.returns
  have hts := atoms_spec (ws := Cond.code yX12_signToken cX12_signToken 4 none :: wsL_law) B.pre
  have htw : ∀ w ∈ wsL_law, w.before _ s = true := fun w h => hts w (List.mem_cons_of_mem _ h)
  have hown : s.vm.findClass RX12 = some m.cls := findClass_of_methodNamed B.named
  have hlocks := B.notSynchronized
  subst hsz
  have hD := hD0.self (sz := s.heap.size)
  generalize hAe : va_A [(mq, .inr (12, mF g gl rf)), (eA0 (rf 0) (ck 0) 900 f_tape)] s.heap.size = A at hD ⊢
  have hA : ∀ q : Nat, s.heap.size ≤ q → A q := fun q h => by rw [← hAe]; exact Or.inr h
  obtain ⟨H, rH⟩ : ∃ z : Heap, z = s.heap := ⟨_, rfl⟩
  have hS : va_S A s.heap H [] := by rw [rH]; exact va_S.rf
  have hP : va_P (dC, dI) vwCl [(mq, .inr (12, mF g gl rf)), (eA0 (rf 0) (ck 0) 900 f_tape)] H := by rw [rH]; exact hP
  rw [← rH]
  have hl := lv_entry ([.ref mq]) (n := 4) (Nat.le_of_ble_eq_true rfl)
  rw [lg_entry_eq]
  generalize (lg_sl ([.ref mq]) ++ List.replicate (4 - (lg_sl ([.ref mq])).length) Slot.unset).toArray = ls at hl ⊢
  have hl : lv_has ls 4 [(0, .ref mq)] := hl
  refine lv_aload_n hx hb dX12_signToken_0 rfl (lv_at hl 0 rfl) ?_
  refine lv_aload_n hx hb dX12_signToken_1 rfl (lv_at hl 0 rfl) ?_
  refine va_get (D := (dC, dI)) (ci := 12) (v := .ref (rf 0)) (C := RX12) (T := TX12) (N := 76) hx hb htw inlX12 hown hK hP 0 rfl rfl 0 (by decide) (htw _ (ck_9 _ (List.mem_of_getElem? (i := 4) rfl))) (fun _ h9 => h9) rfl dX12_signToken_2 ?_
  refine lv_aload_n hx hb dX12_signToken_5 rfl (lv_at hl 0 rfl) ?_
  refine va_get (D := (dC, dI)) (ci := 12) (v := .int (g 7)) (C := RX12) (T := TX12) (N := 76) hx hb htw inlX12 hown hK hP 0 rfl rfl 7 (by decide) (htw _ (ck_24 _ (List.mem_of_getElem? (i := 12) rfl))) (fun _ h9 => h9) rfl dX12_signToken_6 ?_
  refine va_iald hx hb hK hP 1 0 rfl rfl (xg_inr (N := 900) rfl (gq_signToken_s0 (y0 := g 7) (y1 := g 6) h0n hs9 hlt).1 (gq_signToken_s0 (y0 := g 7) (y1 := g 6) h0n hs9 hlt).2) dX12_signToken_9 ?_
  refine va_put (D := (dC, dI)) (ci := 12) (v := .int (f_tape ((g 7).toNatClampNeg))) (ty := tyX12 9) (C := RX12) (T := TX12) (N := 76) hx hb htw inlX12 tyX12 tyX12_ok nmX12 hown hK hP hD hS 0 rfl rfl 9 (by decide) (htw _ (ck_24 _ (List.mem_of_getElem? (i := 19) rfl))) (fun _ h9 => h9) rfl (tyX12_ok 9 (by decide)) rfl rfl (Nat.le_of_ble_eq_true rfl) dX12_signToken_10 (fun H locs hP hD hS => ?_)
  obtain ⟨hP, hD⟩ := zre [(mq, .inr (12, mF (upd g 9 (f_tape ((g 7).toNatClampNeg))) gl rf)), (eA0 (rf 0) (ck 0) 900 f_tape)] hP hD rfl
  refine lv_aload_n hx hb dX12_signToken_13 rfl (lv_at hl 0 rfl) ?_
  refine lv_dup hx hb dX12_signToken_14 rfl ?_
  refine va_get (D := (dC, dI)) (ci := 12) (v := .int (g 7)) (C := RX12) (T := TX12) (N := 76) hx hb htw inlX12 hown hK hP 0 rfl rfl 7 (by decide) (htw _ (ck_24 _ (List.mem_of_getElem? (i := 12) rfl))) (fun _ h9 => h9) rfl dX12_signToken_15 ?_
  refine lv_iconst (v := 1) hx hb dX12_signToken_18 (by decide) ?_
  refine lv_iadd hx hb dX12_signToken_19 ?_
  refine va_put (D := (dC, dI)) (ci := 12) (v := .int ((g 7) + 1)) (ty := tyX12 7) (C := RX12) (T := TX12) (N := 76) hx hb htw inlX12 tyX12 tyX12_ok nmX12 hown hK hP hD hS 0 rfl rfl 7 (by decide) (htw _ (ck_24 _ (List.mem_of_getElem? (i := 12) rfl))) (fun _ h9 => h9) rfl (tyX12_ok 7 (by decide)) rfl rfl (Nat.le_of_ble_eq_true rfl) dX12_signToken_20 (fun H locs hP hD hS => ?_)
  have hP : va_P (dC, dI) vwCl [(mq, .inr (12, mF (upd (upd g 7 ((g 7) + 1)) 9 (f_tape ((g 7).toNatClampNeg))) gl rf)), (eA0 (rf 0) (ck 0) 900 f_tape)] H := hP
  have hD : va_D A [(mq, .inr (12, mF (upd (upd g 7 ((g 7) + 1)) 9 (f_tape ((g 7).toNatClampNeg))) gl rf)), (eA0 (rf 0) (ck 0) 900 f_tape)] := hD
  refine lv_aload_n hx hb dX12_signToken_23 rfl (lv_at hl 0 rfl) ?_
  refine va_get (D := (dC, dI)) (ci := 12) (v := .int (f_tape ((g 7).toNatClampNeg))) (C := RX12) (T := TX12) (N := 76) hx hb htw inlX12 hown hK hP 0 rfl rfl 9 (by decide) (htw _ (ck_24 _ (List.mem_of_getElem? (i := 19) rfl))) (fun _ h9 => h9) rfl dX12_signToken_24 ?_
  refine lv_bipush (v := 60) hx hb dX12_signToken_27 (by decide) ?_
  refine lv_icmp_eq (tgt := 50) hx hb dX12_signToken_29 (by decide) (fun c_1 => ?_) (fun c_1 => ?_)
  · refine lv_aload_n hx hb dX12_signToken_50 rfl (lv_at hl 0 rfl) ?_
    refine va_get (D := (dC, dI)) (ci := 12) (v := .int ((g 7) + 1)) (C := RX12) (T := TX12) (N := 76) hx hb htw inlX12 hown hK hP 0 rfl rfl 7 (by decide) (htw _ (ck_24 _ (List.mem_of_getElem? (i := 12) rfl))) (fun _ h9 => h9) rfl dX12_signToken_51 ?_
    refine lv_aload_n hx hb dX12_signToken_54 rfl (lv_at hl 0 rfl) ?_
    refine va_get (D := (dC, dI)) (ci := 12) (v := .int (g 6)) (C := RX12) (T := TX12) (N := 76) hx hb htw inlX12 hown hK hP 0 rfl rfl 6 (by decide) (htw _ (ck_24 _ (List.mem_of_getElem? (i := 10) rfl))) (fun _ h9 => h9) rfl dX12_signToken_55 ?_
    obtain ⟨X_2, hX_2⟩ : ∃ X9 : (Int32), X9 = fq_signToken_a f_tape (g 6) (g 7) := ⟨_, rfl⟩
    have hjoin_3 : ∀ (S0a : Int32) (hja : S0a = 0 ∨ ((g 7) + 1) < (g 6)) (hE9 : X_2 = S0a) (H : Heap) (locs : List Loc) (ls : Array Slot) (hP : va_P (dC, dI) vwCl [(mq, .inr (12, mF (upd (upd g 7 ((g 7) + 1)) 9 (f_tape ((g 7).toNatClampNeg))) gl rf)), (eA0 (rf 0) (ck 0) 900 f_tape)] H) (hD : va_D A [(mq, .inr (12, mF (upd (upd g 7 ((g 7) + 1)) 9 (f_tape ((g 7).toNatClampNeg))) gl rf)), (eA0 (rf 0) (ck 0) 900 f_tape)]) (hS : va_S A s.heap H locs) (hl : lv_has ls 4 [(0, .ref mq)]), W p l e (headSpec (Cond.code yX12_signToken cX12_signToken 4 none :: wsL_law) ({ frames := 0, cells := 0, slots := 0, locals := 0 })).room s m ([.ref mq] : List Value).toArray below meth c H locs 0 0 (MQ below (va_Qv (fun (u : (Int32) × (Int32) × (Int32)) => (u = fq_signToken f_tape (g 6) (g 7)) ∧ (¬ u.1 < 0) ∧ (u.1 ≤ (g 6))) (fun (u : (Int32) × (Int32) × (Int32)) t => va_P (dC, dI) vwCl [(mq, .inr (12, mF (upd (upd (upd g 7 u.1) 8 u.2.1) 9 u.2.2) gl rf)), (eA0 (rf 0) (ck 0) 900 f_tape)] t.heap ∧ va_K (dC, dI) vwCl [] t ∧ va_D A [(mq, .inr (12, mF (upd (upd (upd g 7 u.1) 8 u.2.1) 9 u.2.2) gl rf)), (eA0 (rf 0) (ck 0) 900 f_tape)]) A) ([.ref mq] : List Value).toArray s 0 0 A) (F0 m 74 ls [.int S0a]) := by
      intro S0a hja hE9 H locs ls hP hD hS hl
      have hq_S0a : S0a = X_2 := by rw [hE9]
      refine lv_istore_n (lv' := [(1, .int S0a), (0, .ref mq)]) hx hb dX12_signToken_74 rfl hl (by decide) rfl (fun ls hl => ?_)
      refine lv_aload_n hx hb dX12_signToken_75 rfl (lv_at hl 1 rfl) ?_
      refine va_get (D := (dC, dI)) (ci := 12) (v := .int (f_tape ((g 7).toNatClampNeg))) (C := RX12) (T := TX12) (N := 76) hx hb htw inlX12 hown hK hP 0 rfl rfl 9 (by decide) (htw _ (ck_24 _ (List.mem_of_getElem? (i := 19) rfl))) (fun _ h9 => h9) rfl dX12_signToken_76 ?_
      refine lv_bipush (v := 61) hx hb dX12_signToken_79 (by decide) ?_
      obtain ⟨X_4, hX_4⟩ : ∃ X9 : (Int32), X9 = fq_signToken_b f_tape (g 7) S0a := ⟨_, rfl⟩
      have hjoin_5 : ∀ (S0b : Int32) (hjb : S0b = 0 ∨ S0a = 61) (hE9 : X_4 = S0b) (H : Heap) (locs : List Loc) (ls : Array Slot) (hP : va_P (dC, dI) vwCl [(mq, .inr (12, mF (upd (upd g 7 ((g 7) + 1)) 9 (f_tape ((g 7).toNatClampNeg))) gl rf)), (eA0 (rf 0) (ck 0) 900 f_tape)] H) (hD : va_D A [(mq, .inr (12, mF (upd (upd g 7 ((g 7) + 1)) 9 (f_tape ((g 7).toNatClampNeg))) gl rf)), (eA0 (rf 0) (ck 0) 900 f_tape)]) (hS : va_S A s.heap H locs) (hl : lv_has ls 4 [(1, .int S0a), (0, .ref mq)]), W p l e (headSpec (Cond.code yX12_signToken cX12_signToken 4 none :: wsL_law) ({ frames := 0, cells := 0, slots := 0, locals := 0 })).room s m ([.ref mq] : List Value).toArray below meth c H locs 0 0 (MQ below (va_Qv (fun (u : (Int32) × (Int32) × (Int32)) => (u = fq_signToken f_tape (g 6) (g 7)) ∧ (¬ u.1 < 0) ∧ (u.1 ≤ (g 6))) (fun (u : (Int32) × (Int32) × (Int32)) t => va_P (dC, dI) vwCl [(mq, .inr (12, mF (upd (upd (upd g 7 u.1) 8 u.2.1) 9 u.2.2) gl rf)), (eA0 (rf 0) (ck 0) 900 f_tape)] t.heap ∧ va_K (dC, dI) vwCl [] t ∧ va_D A [(mq, .inr (12, mF (upd (upd (upd g 7 u.1) 8 u.2.1) 9 u.2.2) gl rf)), (eA0 (rf 0) (ck 0) 900 f_tape)]) A) ([.ref mq] : List Value).toArray s 0 0 A) (F0 m 95 ls [.int S0b]) := by
        intro S0b hjb hE9 H locs ls hP hD hS hl
        have hq_S0b : S0b = X_4 := by rw [hE9]
        refine lv_istore_n (lv' := [(2, .int S0b), (1, .int S0a), (0, .ref mq)]) hx hb dX12_signToken_95 rfl hl (by decide) rfl (fun ls hl => ?_)
        refine lv_aload_n hx hb dX12_signToken_96 rfl (lv_at hl 2 rfl) ?_
        refine va_get (D := (dC, dI)) (ci := 12) (v := .int (f_tape ((g 7).toNatClampNeg))) (C := RX12) (T := TX12) (N := 76) hx hb htw inlX12 hown hK hP 0 rfl rfl 9 (by decide) (htw _ (ck_24 _ (List.mem_of_getElem? (i := 19) rfl))) (fun _ h9 => h9) rfl dX12_signToken_97 ?_
        refine lv_bipush (v := 60) hx hb dX12_signToken_100 (by decide) ?_
        obtain ⟨X_6, hX_6⟩ : ∃ X9 : (Int32), X9 = fq_signToken_d S0a := ⟨_, rfl⟩
        have hjoin_7 : ∀ (S0d : Int32) (hjd : S0d = 0 ∨ S0a = 62) (hE9 : X_6 = S0d) (H : Heap) (locs : List Loc) (ls : Array Slot) (hP : va_P (dC, dI) vwCl [(mq, .inr (12, mF (upd (upd g 7 ((g 7) + 1)) 9 (f_tape ((g 7).toNatClampNeg))) gl rf)), (eA0 (rf 0) (ck 0) 900 f_tape)] H) (hD : va_D A [(mq, .inr (12, mF (upd (upd g 7 ((g 7) + 1)) 9 (f_tape ((g 7).toNatClampNeg))) gl rf)), (eA0 (rf 0) (ck 0) 900 f_tape)]) (hS : va_S A s.heap H locs) (hl : lv_has ls 4 [(2, .int S0b), (1, .int S0a), (0, .ref mq)]), W p l e (headSpec (Cond.code yX12_signToken cX12_signToken 4 none :: wsL_law) ({ frames := 0, cells := 0, slots := 0, locals := 0 })).room s m ([.ref mq] : List Value).toArray below meth c H locs 0 0 (MQ below (va_Qv (fun (u : (Int32) × (Int32) × (Int32)) => (u = fq_signToken f_tape (g 6) (g 7)) ∧ (¬ u.1 < 0) ∧ (u.1 ≤ (g 6))) (fun (u : (Int32) × (Int32) × (Int32)) t => va_P (dC, dI) vwCl [(mq, .inr (12, mF (upd (upd (upd g 7 u.1) 8 u.2.1) 9 u.2.2) gl rf)), (eA0 (rf 0) (ck 0) 900 f_tape)] t.heap ∧ va_K (dC, dI) vwCl [] t ∧ va_D A [(mq, .inr (12, mF (upd (upd (upd g 7 u.1) 8 u.2.1) 9 u.2.2) gl rf)), (eA0 (rf 0) (ck 0) 900 f_tape)]) A) ([.ref mq] : List Value).toArray s 0 0 A) (F0 m 116 ls [.int S0d]) := by
          intro S0d hjd hE9 H locs ls hP hD hS hl
          have hq_S0d : S0d = X_6 := by rw [hE9]
          refine lv_istore_n (lv' := [(3, .int S0d), (2, .int S0b), (1, .int S0a), (0, .ref mq)]) hx hb dX12_signToken_116 rfl hl (by decide) rfl (fun ls hl => ?_)
          refine lv_iload_n hx hb dX12_signToken_117 rfl (lv_at hl 1 rfl) ?_
          obtain ⟨X_8, hX_8⟩ : ∃ X9 : (Int32), X9 = fq_signToken_e (g 7) S0b S0d := ⟨_, rfl⟩
          have hjoin_9 : ∀ (m_next_e : Int32) (hj0 : ¬ m_next_e < 0) (hj1 : m_next_e ≤ (g 6)) (hE9 : X_8 = m_next_e) (H : Heap) (locs : List Loc) (ls : Array Slot) (hP : va_P (dC, dI) vwCl [(mq, .inr (12, mF (upd (upd g 7 m_next_e) 9 (f_tape ((g 7).toNatClampNeg))) gl rf)), (eA0 (rf 0) (ck 0) 900 f_tape)] H) (hD : va_D A [(mq, .inr (12, mF (upd (upd g 7 m_next_e) 9 (f_tape ((g 7).toNatClampNeg))) gl rf)), (eA0 (rf 0) (ck 0) 900 f_tape)]) (hS : va_S A s.heap H locs) (hl : lv_has ls 4 [(3, .int S0d), (2, .int S0b), (1, .int S0a), (0, .ref mq)]), W p l e (headSpec (Cond.code yX12_signToken cX12_signToken 4 none :: wsL_law) ({ frames := 0, cells := 0, slots := 0, locals := 0 })).room s m ([.ref mq] : List Value).toArray below meth c H locs 0 0 (MQ below (va_Qv (fun (u : (Int32) × (Int32) × (Int32)) => (u = fq_signToken f_tape (g 6) (g 7)) ∧ (¬ u.1 < 0) ∧ (u.1 ≤ (g 6))) (fun (u : (Int32) × (Int32) × (Int32)) t => va_P (dC, dI) vwCl [(mq, .inr (12, mF (upd (upd (upd g 7 u.1) 8 u.2.1) 9 u.2.2) gl rf)), (eA0 (rf 0) (ck 0) 900 f_tape)] t.heap ∧ va_K (dC, dI) vwCl [] t ∧ va_D A [(mq, .inr (12, mF (upd (upd (upd g 7 u.1) 8 u.2.1) 9 u.2.2) gl rf)), (eA0 (rf 0) (ck 0) 900 f_tape)]) A) ([.ref mq] : List Value).toArray s 0 0 A) (F0 m 135 ls []) := by
            intro m_next_e hj0 hj1 hE9 H locs ls hP hD hS hl
            have hq_m_next_e : m_next_e = X_8 := by rw [hE9]
            refine lv_aload_n hx hb dX12_signToken_135 rfl (lv_at hl 3 rfl) ?_
            refine lv_iconst (v := 5) hx hb dX12_signToken_136 (by decide) ?_
            refine va_put (D := (dC, dI)) (ci := 12) (v := .int 5) (ty := tyX12 8) (C := RX12) (T := TX12) (N := 76) hx hb htw inlX12 tyX12 tyX12_ok nmX12 hown hK hP hD hS 0 rfl rfl 8 (by decide) (htw _ (ck_24 _ (List.mem_of_getElem? (i := 13) rfl))) (fun _ h9 => h9) rfl (tyX12_ok 8 (by decide)) rfl rfl (Nat.le_of_ble_eq_true rfl) dX12_signToken_137 (fun H locs hP hD hS => ?_)
            have hP : va_P (dC, dI) vwCl [(mq, .inr (12, mF (upd (upd (upd g 7 m_next_e) 8 5) 9 (f_tape ((g 7).toNatClampNeg))) gl rf)), (eA0 (rf 0) (ck 0) 900 f_tape)] H := hP
            have hD : va_D A [(mq, .inr (12, mF (upd (upd (upd g 7 m_next_e) 8 5) 9 (f_tape ((g 7).toNatClampNeg))) gl rf)), (eA0 (rf 0) (ck 0) 900 f_tape)] := hD
            refine lv_aload_n hx hb dX12_signToken_140 rfl (lv_at hl 3 rfl) ?_
            refine lv_aload_n hx hb dX12_signToken_141 rfl (lv_at hl 3 rfl) ?_
            refine va_get (D := (dC, dI)) (ci := 12) (v := .int (f_tape ((g 7).toNatClampNeg))) (C := RX12) (T := TX12) (N := 76) hx hb htw inlX12 hown hK hP 0 rfl rfl 9 (by decide) (htw _ (ck_24 _ (List.mem_of_getElem? (i := 19) rfl))) (fun _ h9 => h9) rfl dX12_signToken_142 ?_
            refine lv_bipush (v := 61) hx hb dX12_signToken_145 (by decide) ?_
            obtain ⟨X_10, hX_10⟩ : ∃ X9 : (Int32), X9 = fq_signToken_f f_tape (g 7) S0b S0d := ⟨_, rfl⟩
            have hjoin_11 : ∀ (S0f : Int32)  (hE9 : X_10 = S0f) (H : Heap) (locs : List Loc) (ls : Array Slot) (hP : va_P (dC, dI) vwCl [(mq, .inr (12, mF (upd (upd (upd g 7 m_next_e) 8 5) 9 (f_tape ((g 7).toNatClampNeg))) gl rf)), (eA0 (rf 0) (ck 0) 900 f_tape)] H) (hD : va_D A [(mq, .inr (12, mF (upd (upd (upd g 7 m_next_e) 8 5) 9 (f_tape ((g 7).toNatClampNeg))) gl rf)), (eA0 (rf 0) (ck 0) 900 f_tape)]) (hS : va_S A s.heap H locs) (hl : lv_has ls 4 [(3, .int S0d), (2, .int S0b), (1, .int S0a), (0, .ref mq)]), W p l e (headSpec (Cond.code yX12_signToken cX12_signToken 4 none :: wsL_law) ({ frames := 0, cells := 0, slots := 0, locals := 0 })).room s m ([.ref mq] : List Value).toArray below meth c H locs 0 0 (MQ below (va_Qv (fun (u : (Int32) × (Int32) × (Int32)) => (u = fq_signToken f_tape (g 6) (g 7)) ∧ (¬ u.1 < 0) ∧ (u.1 ≤ (g 6))) (fun (u : (Int32) × (Int32) × (Int32)) t => va_P (dC, dI) vwCl [(mq, .inr (12, mF (upd (upd (upd g 7 u.1) 8 u.2.1) 9 u.2.2) gl rf)), (eA0 (rf 0) (ck 0) 900 f_tape)] t.heap ∧ va_K (dC, dI) vwCl [] t ∧ va_D A [(mq, .inr (12, mF (upd (upd (upd g 7 u.1) 8 u.2.1) 9 u.2.2) gl rf)), (eA0 (rf 0) (ck 0) 900 f_tape)]) A) ([.ref mq] : List Value).toArray s 0 0 A) (F0 m 192 ls [.int S0f, .ref mq]) := by
              intro S0f  hE9 H locs ls hP hD hS hl
              have hq_S0f : S0f = X_10 := by rw [hE9]
              refine va_put (D := (dC, dI)) (ci := 12) (v := .int S0f) (ty := tyX12 9) (C := RX12) (T := TX12) (N := 76) hx hb htw inlX12 tyX12 tyX12_ok nmX12 hown hK hP hD hS 0 rfl rfl 9 (by decide) (htw _ (ck_24 _ (List.mem_of_getElem? (i := 19) rfl))) (fun _ h9 => h9) rfl (tyX12_ok 9 (by decide)) rfl rfl (Nat.le_of_ble_eq_true rfl) dX12_signToken_192 (fun H locs hP hD hS => ?_)
              have hP : va_P (dC, dI) vwCl [(mq, .inr (12, mF (upd (upd (upd g 7 m_next_e) 8 5) 9 S0f) gl rf)), (eA0 (rf 0) (ck 0) 900 f_tape)] H := hP
              have hD : va_D A [(mq, .inr (12, mF (upd (upd (upd g 7 m_next_e) 8 5) 9 S0f) gl rf)), (eA0 (rf 0) (ck 0) 900 f_tape)] := hD
              refine lv_goto (tgt := 290) hx hb dX12_signToken_195 (by decide) ?_
              refine W.widen (k := 0) (n := 0) (by omega) (by omega) ?_
              have hP9 := hP
              have hD9 := hD
              have hK9 := hK.sub (tys' := []) [] rfl
              exact W.vret hx hb hr (fun t ht hW => ⟨⟨(m_next_e, 5, S0f), rfl, ⟨(Eq.symm ((by rw [fq_signToken]; (try rw [if_pos c_1]); (try rw [← hX_2]); (try rw [xL_eq]); (try rw [← hq_S0a]); (try rw [← hX_4]); (try rw [xL_eq]); (try rw [← hq_S0b]); (try rw [← hX_6]); (try rw [xL_eq]); (try rw [← hq_S0d]); (try rw [← hX_8]); (try rw [xL_eq]); (try rw [← hq_m_next_e]); (try rw [← hX_10]); (try rw [xL_eq]); (try rw [← hq_S0f]); try rfl))), (gq_signToken_s1 (y0 := m_next_e) (y1 := g 6) (y2 := g 7) hj0 hj1 h0n hs9 hlt), (gq_signToken_s2 (y0 := m_next_e) (y1 := g 6) (y2 := g 7) hj0 hj1 h0n hs9 hlt)⟩, by rw [ht]; exact hP9, va_K.moved hW.alike hK9, hD9⟩, hS.F ht⟩) hS.2.2 dX12_signToken_290
            refine lv_icmp_ne (tgt := 154) hx hb dX12_signToken_147 (by decide) (fun c_12 => ?_) (fun c_12 => ?_)
            · refine lv_aload_n hx hb dX12_signToken_154 rfl (lv_at hl 3 rfl) ?_
              refine va_get (D := (dC, dI)) (ci := 12) (v := .int (f_tape ((g 7).toNatClampNeg))) (C := RX12) (T := TX12) (N := 76) hx hb htw inlX12 hown hK hP 0 rfl rfl 9 (by decide) (htw _ (ck_24 _ (List.mem_of_getElem? (i := 19) rfl))) (fun _ h9 => h9) rfl dX12_signToken_155 ?_
              refine lv_bipush (v := 60) hx hb dX12_signToken_158 (by decide) ?_
              refine lv_icmp_ne (tgt := 183) hx hb dX12_signToken_160 (by decide) (fun c_13 => absurd c_13 (fun h9 => h9 c_1)) (fun c_13 => ?_)
              refine lv_iload_n hx hb dX12_signToken_163 rfl (lv_at hl 1 rfl) ?_
              refine lv_if_eq (tgt := 171) hx hb dX12_signToken_164 (by decide) (fun c_14 => ?_) (fun c_14 => ?_)
              · refine lv_iload_n hx hb dX12_signToken_171 rfl (lv_at hl 0 rfl) ?_
                refine lv_if_eq (tgt := 179) hx hb dX12_signToken_172 (by decide) (fun c_15 => ?_) (fun c_15 => ?_)
                · refine lv_iconst (v := 0) hx hb dX12_signToken_179 (by decide) ?_
                  refine lv_goto (tgt := 192) hx hb dX12_signToken_180 (by decide) ?_
                  exact hjoin_11 (0 : Int32)  (hX_10.trans (by rw [fq_signToken_f]; (try rw [if_neg c_12]); (try rw [if_pos c_14]); (try rw [if_pos c_15]); try rfl)) _ _ ls hP hD hS (lv_sub hl [0, 1, 2, 3] rfl)
                · refine lv_iconst (v := 3) hx hb dX12_signToken_175 (by decide) ?_
                  refine lv_goto (tgt := 192) hx hb dX12_signToken_176 (by decide) ?_
                  exact hjoin_11 (3 : Int32)  (hX_10.trans (by rw [fq_signToken_f]; (try rw [if_neg c_12]); (try rw [if_pos c_14]); (try rw [if_neg c_15]); try rfl)) _ _ ls hP hD hS (lv_sub hl [0, 1, 2, 3] rfl)
              · refine lv_iconst (v := 1) hx hb dX12_signToken_167 (by decide) ?_
                refine lv_goto (tgt := 192) hx hb dX12_signToken_168 (by decide) ?_
                exact hjoin_11 (1 : Int32)  (hX_10.trans (by rw [fq_signToken_f]; (try rw [if_neg c_12]); (try rw [if_neg c_14]); try rfl)) _ _ ls hP hD hS (lv_sub hl [0, 1, 2, 3] rfl)
            · refine lv_iconst (v := 2) hx hb dX12_signToken_150 (by decide) ?_
              refine lv_goto (tgt := 192) hx hb dX12_signToken_151 (by decide) ?_
              exact hjoin_11 (2 : Int32)  (hX_10.trans (by rw [fq_signToken_f]; (try rw [if_pos c_12]); try rfl)) _ _ ls hP hD hS (lv_sub hl [0, 1, 2, 3] rfl)
          refine lv_if_ne (tgt := 125) hx hb dX12_signToken_118 (by decide) (fun c_16 => ?_) (fun c_16 => ?_)
          · refine lv_aload_n hx hb dX12_signToken_125 rfl (lv_at hl 3 rfl) ?_
            refine lv_dup hx hb dX12_signToken_126 rfl ?_
            refine va_get (D := (dC, dI)) (ci := 12) (v := .int ((g 7) + 1)) (C := RX12) (T := TX12) (N := 76) hx hb htw inlX12 hown hK hP 0 rfl rfl 7 (by decide) (htw _ (ck_24 _ (List.mem_of_getElem? (i := 12) rfl))) (fun _ h9 => h9) rfl dX12_signToken_127 ?_
            refine lv_iconst (v := 1) hx hb dX12_signToken_130 (by decide) ?_
            refine lv_iadd hx hb dX12_signToken_131 ?_
            refine va_put (D := (dC, dI)) (ci := 12) (v := .int (((g 7) + 1) + 1)) (ty := tyX12 7) (C := RX12) (T := TX12) (N := 76) hx hb htw inlX12 tyX12 tyX12_ok nmX12 hown hK hP hD hS 0 rfl rfl 7 (by decide) (htw _ (ck_24 _ (List.mem_of_getElem? (i := 12) rfl))) (fun _ h9 => h9) rfl (tyX12_ok 7 (by decide)) rfl rfl (Nat.le_of_ble_eq_true rfl) dX12_signToken_132 (fun H locs hP hD hS => ?_)
            have hP : va_P (dC, dI) vwCl [(mq, .inr (12, mF (upd (upd g 7 (((g 7) + 1) + 1)) 9 (f_tape ((g 7).toNatClampNeg))) gl rf)), (eA0 (rf 0) (ck 0) 900 f_tape)] H := hP
            have hD : va_D A [(mq, .inr (12, mF (upd (upd g 7 (((g 7) + 1) + 1)) 9 (f_tape ((g 7).toNatClampNeg))) gl rf)), (eA0 (rf 0) (ck 0) 900 f_tape)] := hD
            exact hjoin_9 (((g 7) + 1) + 1) (gq_signToken_s3 (y0 := g 7) (y1 := g 6) (hja.resolve_left (by rw [hjb.resolve_left c_16]; decide)) h0n hs9 hlt) (gq_signToken_s4 (y0 := g 7) (y1 := g 6) (hja.resolve_left (by rw [hjb.resolve_left c_16]; decide)) h0n hs9 hlt) (hX_8.trans (by rw [fq_signToken_e]; (try rw [if_neg c_16]); try rfl)) _ _ ls hP hD hS (lv_sub hl [0, 1, 2, 3] rfl)
          · refine lv_iload_n hx hb dX12_signToken_121 rfl (lv_at hl 0 rfl) ?_
            refine lv_if_eq (tgt := 135) hx hb dX12_signToken_122 (by decide) (fun c_17 => ?_) (fun c_17 => ?_)
            · exact hjoin_9 ((g 7) + 1) (gq_signToken_s5 (y0 := g 7) (y1 := g 6) h0n hs9 hlt) (gq_signToken_s6 (y0 := g 7) (y1 := g 6) h0n hs9 hlt) (hX_8.trans (by rw [fq_signToken_e]; (try rw [if_pos c_16]); (try rw [if_pos c_17]); try rfl)) _ _ ls hP hD hS (lv_sub hl [0, 1, 2, 3] rfl)
            · refine lv_aload_n hx hb dX12_signToken_125 rfl (lv_at hl 3 rfl) ?_
              refine lv_dup hx hb dX12_signToken_126 rfl ?_
              refine va_get (D := (dC, dI)) (ci := 12) (v := .int ((g 7) + 1)) (C := RX12) (T := TX12) (N := 76) hx hb htw inlX12 hown hK hP 0 rfl rfl 7 (by decide) (htw _ (ck_24 _ (List.mem_of_getElem? (i := 12) rfl))) (fun _ h9 => h9) rfl dX12_signToken_127 ?_
              refine lv_iconst (v := 1) hx hb dX12_signToken_130 (by decide) ?_
              refine lv_iadd hx hb dX12_signToken_131 ?_
              refine va_put (D := (dC, dI)) (ci := 12) (v := .int (((g 7) + 1) + 1)) (ty := tyX12 7) (C := RX12) (T := TX12) (N := 76) hx hb htw inlX12 tyX12 tyX12_ok nmX12 hown hK hP hD hS 0 rfl rfl 7 (by decide) (htw _ (ck_24 _ (List.mem_of_getElem? (i := 12) rfl))) (fun _ h9 => h9) rfl (tyX12_ok 7 (by decide)) rfl rfl (Nat.le_of_ble_eq_true rfl) dX12_signToken_132 (fun H locs hP hD hS => ?_)
              have hP : va_P (dC, dI) vwCl [(mq, .inr (12, mF (upd (upd g 7 (((g 7) + 1) + 1)) 9 (f_tape ((g 7).toNatClampNeg))) gl rf)), (eA0 (rf 0) (ck 0) 900 f_tape)] H := hP
              have hD : va_D A [(mq, .inr (12, mF (upd (upd g 7 (((g 7) + 1) + 1)) 9 (f_tape ((g 7).toNatClampNeg))) gl rf)), (eA0 (rf 0) (ck 0) 900 f_tape)] := hD
              exact hjoin_9 (((g 7) + 1) + 1) (gq_signToken_s7 (y0 := g 7) (y1 := g 6) (hja.resolve_left (by rw [hjd.resolve_left c_17]; decide)) h0n hs9 hlt) (gq_signToken_s8 (y0 := g 7) (y1 := g 6) (hja.resolve_left (by rw [hjd.resolve_left c_17]; decide)) h0n hs9 hlt) (hX_8.trans (by rw [fq_signToken_e]; (try rw [if_pos c_16]); (try rw [if_neg c_17]); try rfl)) _ _ ls hP hD hS (lv_sub hl [0, 1, 2, 3] rfl)
        refine lv_icmp_ne (tgt := 115) hx hb dX12_signToken_102 (by decide) (fun c_18 => absurd c_18 (fun h9 => h9 c_1)) (fun c_18 => ?_)
        refine lv_iload_n hx hb dX12_signToken_105 rfl (lv_at hl 1 rfl) ?_
        refine lv_bipush (v := 62) hx hb dX12_signToken_106 (by decide) ?_
        refine lv_icmp_ne (tgt := 115) hx hb dX12_signToken_108 (by decide) (fun c_19 => ?_) (fun c_19 => ?_)
        · refine lv_iconst (v := 0) hx hb dX12_signToken_115 (by decide) ?_
          exact hjoin_7 (0 : Int32) (Or.inl rfl) (hX_6.trans (by rw [fq_signToken_d]; (try rw [if_neg c_19]); try rfl)) _ _ ls hP hD hS (lv_sub hl [0, 1, 2] rfl)
        · refine lv_iconst (v := 1) hx hb dX12_signToken_111 (by decide) ?_
          refine lv_goto (tgt := 116) hx hb dX12_signToken_112 (by decide) ?_
          exact hjoin_7 (1 : Int32) (Or.inr c_19) (hX_6.trans (by rw [fq_signToken_d]; (try rw [if_pos c_19]); try rfl)) _ _ ls hP hD hS (lv_sub hl [0, 1, 2] rfl)
      refine lv_icmp_eq (tgt := 94) hx hb dX12_signToken_81 (by decide) (fun c_20 => ?_) (fun c_20 => ?_)
      · refine lv_iconst (v := 0) hx hb dX12_signToken_94 (by decide) ?_
        exact hjoin_5 (0 : Int32) (Or.inl rfl) (hX_4.trans (by rw [fq_signToken_b]; (try rw [if_pos c_20]); try rfl)) _ _ ls hP hD hS (lv_sub hl [0, 1] rfl)
      · refine lv_iload_n hx hb dX12_signToken_84 rfl (lv_at hl 0 rfl) ?_
        refine lv_bipush (v := 61) hx hb dX12_signToken_85 (by decide) ?_
        refine lv_icmp_ne (tgt := 94) hx hb dX12_signToken_87 (by decide) (fun c_21 => ?_) (fun c_21 => ?_)
        · refine lv_iconst (v := 0) hx hb dX12_signToken_94 (by decide) ?_
          exact hjoin_5 (0 : Int32) (Or.inl rfl) (hX_4.trans (by rw [fq_signToken_b]; (try rw [if_neg c_20]); (try rw [if_neg c_21]); try rfl)) _ _ ls hP hD hS (lv_sub hl [0, 1] rfl)
        · refine lv_iconst (v := 1) hx hb dX12_signToken_90 (by decide) ?_
          refine lv_goto (tgt := 95) hx hb dX12_signToken_91 (by decide) ?_
          exact hjoin_5 (1 : Int32) (Or.inr c_21) (hX_4.trans (by rw [fq_signToken_b]; (try rw [if_neg c_20]); (try rw [if_pos c_21]); try rfl)) _ _ ls hP hD hS (lv_sub hl [0, 1] rfl)
    refine lv_icmp_ge (tgt := 73) hx hb dX12_signToken_58 (by decide) (fun c_22 => ?_) (fun c_22 => ?_)
    · refine lv_iconst (v := 0) hx hb dX12_signToken_73 (by decide) ?_
      exact hjoin_3 (0 : Int32) (Or.inl rfl) (hX_2.trans (by rw [fq_signToken_a]; (try rw [if_pos c_22]); try rfl)) _ _ ls hP hD hS (lv_sub hl [0] rfl)
    · refine lv_aload_n hx hb dX12_signToken_61 rfl (lv_at hl 0 rfl) ?_
      refine va_get (D := (dC, dI)) (ci := 12) (v := .ref (rf 0)) (C := RX12) (T := TX12) (N := 76) hx hb htw inlX12 hown hK hP 0 rfl rfl 0 (by decide) (htw _ (ck_9 _ (List.mem_of_getElem? (i := 4) rfl))) (fun _ h9 => h9) rfl dX12_signToken_62 ?_
      refine lv_aload_n hx hb dX12_signToken_65 rfl (lv_at hl 0 rfl) ?_
      refine va_get (D := (dC, dI)) (ci := 12) (v := .int ((g 7) + 1)) (C := RX12) (T := TX12) (N := 76) hx hb htw inlX12 hown hK hP 0 rfl rfl 7 (by decide) (htw _ (ck_24 _ (List.mem_of_getElem? (i := 12) rfl))) (fun _ h9 => h9) rfl dX12_signToken_66 ?_
      refine va_iald hx hb hK hP 1 0 rfl rfl (xg_inr (N := 900) rfl (gq_signToken_s9 (y0 := g 7) (y1 := g 6) c_22 h0n hs9 hlt).1 (gq_signToken_s9 (y0 := g 7) (y1 := g 6) c_22 h0n hs9 hlt).2) dX12_signToken_69 ?_
      refine lv_goto (tgt := 74) hx hb dX12_signToken_70 (by decide) ?_
      exact hjoin_3 (f_tape (((g 7) + 1).toNatClampNeg)) (Or.inr (Int32.not_le.mp c_22)) (hX_2.trans (by rw [fq_signToken_a]; (try rw [if_neg c_22]); try rfl)) _ _ ls hP hD hS (lv_sub hl [0] rfl)
  · refine lv_aload_n hx hb dX12_signToken_32 rfl (lv_at hl 0 rfl) ?_
    refine va_get (D := (dC, dI)) (ci := 12) (v := .int (f_tape ((g 7).toNatClampNeg))) (C := RX12) (T := TX12) (N := 76) hx hb htw inlX12 hown hK hP 0 rfl rfl 9 (by decide) (htw _ (ck_24 _ (List.mem_of_getElem? (i := 19) rfl))) (fun _ h9 => h9) rfl dX12_signToken_33 ?_
    refine lv_bipush (v := 62) hx hb dX12_signToken_36 (by decide) ?_
    refine lv_icmp_eq (tgt := 50) hx hb dX12_signToken_38 (by decide) (fun c_23 => ?_) (fun c_23 => ?_)
    · refine lv_aload_n hx hb dX12_signToken_50 rfl (lv_at hl 0 rfl) ?_
      refine va_get (D := (dC, dI)) (ci := 12) (v := .int ((g 7) + 1)) (C := RX12) (T := TX12) (N := 76) hx hb htw inlX12 hown hK hP 0 rfl rfl 7 (by decide) (htw _ (ck_24 _ (List.mem_of_getElem? (i := 12) rfl))) (fun _ h9 => h9) rfl dX12_signToken_51 ?_
      refine lv_aload_n hx hb dX12_signToken_54 rfl (lv_at hl 0 rfl) ?_
      refine va_get (D := (dC, dI)) (ci := 12) (v := .int (g 6)) (C := RX12) (T := TX12) (N := 76) hx hb htw inlX12 hown hK hP 0 rfl rfl 6 (by decide) (htw _ (ck_24 _ (List.mem_of_getElem? (i := 10) rfl))) (fun _ h9 => h9) rfl dX12_signToken_55 ?_
      obtain ⟨X_24, hX_24⟩ : ∃ X9 : (Int32), X9 = fq_signToken_a2 f_tape (g 6) (g 7) := ⟨_, rfl⟩
      have hjoin_25 : ∀ (S0a : Int32) (hja : S0a = 0 ∨ ((g 7) + 1) < (g 6)) (hE9 : X_24 = S0a) (H : Heap) (locs : List Loc) (ls : Array Slot) (hP : va_P (dC, dI) vwCl [(mq, .inr (12, mF (upd (upd g 7 ((g 7) + 1)) 9 (f_tape ((g 7).toNatClampNeg))) gl rf)), (eA0 (rf 0) (ck 0) 900 f_tape)] H) (hD : va_D A [(mq, .inr (12, mF (upd (upd g 7 ((g 7) + 1)) 9 (f_tape ((g 7).toNatClampNeg))) gl rf)), (eA0 (rf 0) (ck 0) 900 f_tape)]) (hS : va_S A s.heap H locs) (hl : lv_has ls 4 [(0, .ref mq)]), W p l e (headSpec (Cond.code yX12_signToken cX12_signToken 4 none :: wsL_law) ({ frames := 0, cells := 0, slots := 0, locals := 0 })).room s m ([.ref mq] : List Value).toArray below meth c H locs 0 0 (MQ below (va_Qv (fun (u : (Int32) × (Int32) × (Int32)) => (u = fq_signToken f_tape (g 6) (g 7)) ∧ (¬ u.1 < 0) ∧ (u.1 ≤ (g 6))) (fun (u : (Int32) × (Int32) × (Int32)) t => va_P (dC, dI) vwCl [(mq, .inr (12, mF (upd (upd (upd g 7 u.1) 8 u.2.1) 9 u.2.2) gl rf)), (eA0 (rf 0) (ck 0) 900 f_tape)] t.heap ∧ va_K (dC, dI) vwCl [] t ∧ va_D A [(mq, .inr (12, mF (upd (upd (upd g 7 u.1) 8 u.2.1) 9 u.2.2) gl rf)), (eA0 (rf 0) (ck 0) 900 f_tape)]) A) ([.ref mq] : List Value).toArray s 0 0 A) (F0 m 74 ls [.int S0a]) := by
        intro S0a hja hE9 H locs ls hP hD hS hl
        have hq_S0a : S0a = X_24 := by rw [hE9]
        refine lv_istore_n (lv' := [(1, .int S0a), (0, .ref mq)]) hx hb dX12_signToken_74 rfl hl (by decide) rfl (fun ls hl => ?_)
        refine lv_aload_n hx hb dX12_signToken_75 rfl (lv_at hl 1 rfl) ?_
        refine va_get (D := (dC, dI)) (ci := 12) (v := .int (f_tape ((g 7).toNatClampNeg))) (C := RX12) (T := TX12) (N := 76) hx hb htw inlX12 hown hK hP 0 rfl rfl 9 (by decide) (htw _ (ck_24 _ (List.mem_of_getElem? (i := 19) rfl))) (fun _ h9 => h9) rfl dX12_signToken_76 ?_
        refine lv_bipush (v := 61) hx hb dX12_signToken_79 (by decide) ?_
        obtain ⟨X_26, hX_26⟩ : ∃ X9 : (Int32), X9 = fq_signToken_b2 f_tape (g 7) S0a := ⟨_, rfl⟩
        have hjoin_27 : ∀ (S0b : Int32) (hjb : S0b = 0 ∨ S0a = 61) (hE9 : X_26 = S0b) (H : Heap) (locs : List Loc) (ls : Array Slot) (hP : va_P (dC, dI) vwCl [(mq, .inr (12, mF (upd (upd g 7 ((g 7) + 1)) 9 (f_tape ((g 7).toNatClampNeg))) gl rf)), (eA0 (rf 0) (ck 0) 900 f_tape)] H) (hD : va_D A [(mq, .inr (12, mF (upd (upd g 7 ((g 7) + 1)) 9 (f_tape ((g 7).toNatClampNeg))) gl rf)), (eA0 (rf 0) (ck 0) 900 f_tape)]) (hS : va_S A s.heap H locs) (hl : lv_has ls 4 [(1, .int S0a), (0, .ref mq)]), W p l e (headSpec (Cond.code yX12_signToken cX12_signToken 4 none :: wsL_law) ({ frames := 0, cells := 0, slots := 0, locals := 0 })).room s m ([.ref mq] : List Value).toArray below meth c H locs 0 0 (MQ below (va_Qv (fun (u : (Int32) × (Int32) × (Int32)) => (u = fq_signToken f_tape (g 6) (g 7)) ∧ (¬ u.1 < 0) ∧ (u.1 ≤ (g 6))) (fun (u : (Int32) × (Int32) × (Int32)) t => va_P (dC, dI) vwCl [(mq, .inr (12, mF (upd (upd (upd g 7 u.1) 8 u.2.1) 9 u.2.2) gl rf)), (eA0 (rf 0) (ck 0) 900 f_tape)] t.heap ∧ va_K (dC, dI) vwCl [] t ∧ va_D A [(mq, .inr (12, mF (upd (upd (upd g 7 u.1) 8 u.2.1) 9 u.2.2) gl rf)), (eA0 (rf 0) (ck 0) 900 f_tape)]) A) ([.ref mq] : List Value).toArray s 0 0 A) (F0 m 95 ls [.int S0b]) := by
          intro S0b hjb hE9 H locs ls hP hD hS hl
          have hq_S0b : S0b = X_26 := by rw [hE9]
          refine lv_istore_n (lv' := [(2, .int S0b), (1, .int S0a), (0, .ref mq)]) hx hb dX12_signToken_95 rfl hl (by decide) rfl (fun ls hl => ?_)
          refine lv_aload_n hx hb dX12_signToken_96 rfl (lv_at hl 2 rfl) ?_
          refine va_get (D := (dC, dI)) (ci := 12) (v := .int (f_tape ((g 7).toNatClampNeg))) (C := RX12) (T := TX12) (N := 76) hx hb htw inlX12 hown hK hP 0 rfl rfl 9 (by decide) (htw _ (ck_24 _ (List.mem_of_getElem? (i := 19) rfl))) (fun _ h9 => h9) rfl dX12_signToken_97 ?_
          refine lv_bipush (v := 60) hx hb dX12_signToken_100 (by decide) ?_
          obtain ⟨X_28, hX_28⟩ : ∃ X9 : (Int32), X9 = fq_signToken_d2 := ⟨_, rfl⟩
          have hjoin_29 : ∀ (S0d : Int32) (hjd : S0d = 0 ∨ S0a = 62) (hE9 : X_28 = S0d) (H : Heap) (locs : List Loc) (ls : Array Slot) (hP : va_P (dC, dI) vwCl [(mq, .inr (12, mF (upd (upd g 7 ((g 7) + 1)) 9 (f_tape ((g 7).toNatClampNeg))) gl rf)), (eA0 (rf 0) (ck 0) 900 f_tape)] H) (hD : va_D A [(mq, .inr (12, mF (upd (upd g 7 ((g 7) + 1)) 9 (f_tape ((g 7).toNatClampNeg))) gl rf)), (eA0 (rf 0) (ck 0) 900 f_tape)]) (hS : va_S A s.heap H locs) (hl : lv_has ls 4 [(2, .int S0b), (1, .int S0a), (0, .ref mq)]), W p l e (headSpec (Cond.code yX12_signToken cX12_signToken 4 none :: wsL_law) ({ frames := 0, cells := 0, slots := 0, locals := 0 })).room s m ([.ref mq] : List Value).toArray below meth c H locs 0 0 (MQ below (va_Qv (fun (u : (Int32) × (Int32) × (Int32)) => (u = fq_signToken f_tape (g 6) (g 7)) ∧ (¬ u.1 < 0) ∧ (u.1 ≤ (g 6))) (fun (u : (Int32) × (Int32) × (Int32)) t => va_P (dC, dI) vwCl [(mq, .inr (12, mF (upd (upd (upd g 7 u.1) 8 u.2.1) 9 u.2.2) gl rf)), (eA0 (rf 0) (ck 0) 900 f_tape)] t.heap ∧ va_K (dC, dI) vwCl [] t ∧ va_D A [(mq, .inr (12, mF (upd (upd (upd g 7 u.1) 8 u.2.1) 9 u.2.2) gl rf)), (eA0 (rf 0) (ck 0) 900 f_tape)]) A) ([.ref mq] : List Value).toArray s 0 0 A) (F0 m 116 ls [.int S0d]) := by
            intro S0d hjd hE9 H locs ls hP hD hS hl
            have hq_S0d : S0d = X_28 := by rw [hE9]
            refine lv_istore_n (lv' := [(3, .int S0d), (2, .int S0b), (1, .int S0a), (0, .ref mq)]) hx hb dX12_signToken_116 rfl hl (by decide) rfl (fun ls hl => ?_)
            refine lv_iload_n hx hb dX12_signToken_117 rfl (lv_at hl 1 rfl) ?_
            obtain ⟨X_30, hX_30⟩ : ∃ X9 : (Int32), X9 = fq_signToken_e2 (g 7) S0b S0d := ⟨_, rfl⟩
            have hjoin_31 : ∀ (m_next_e : Int32) (hj0 : ¬ m_next_e < 0) (hj1 : m_next_e ≤ (g 6)) (hE9 : X_30 = m_next_e) (H : Heap) (locs : List Loc) (ls : Array Slot) (hP : va_P (dC, dI) vwCl [(mq, .inr (12, mF (upd (upd g 7 m_next_e) 9 (f_tape ((g 7).toNatClampNeg))) gl rf)), (eA0 (rf 0) (ck 0) 900 f_tape)] H) (hD : va_D A [(mq, .inr (12, mF (upd (upd g 7 m_next_e) 9 (f_tape ((g 7).toNatClampNeg))) gl rf)), (eA0 (rf 0) (ck 0) 900 f_tape)]) (hS : va_S A s.heap H locs) (hl : lv_has ls 4 [(3, .int S0d), (2, .int S0b), (1, .int S0a), (0, .ref mq)]), W p l e (headSpec (Cond.code yX12_signToken cX12_signToken 4 none :: wsL_law) ({ frames := 0, cells := 0, slots := 0, locals := 0 })).room s m ([.ref mq] : List Value).toArray below meth c H locs 0 0 (MQ below (va_Qv (fun (u : (Int32) × (Int32) × (Int32)) => (u = fq_signToken f_tape (g 6) (g 7)) ∧ (¬ u.1 < 0) ∧ (u.1 ≤ (g 6))) (fun (u : (Int32) × (Int32) × (Int32)) t => va_P (dC, dI) vwCl [(mq, .inr (12, mF (upd (upd (upd g 7 u.1) 8 u.2.1) 9 u.2.2) gl rf)), (eA0 (rf 0) (ck 0) 900 f_tape)] t.heap ∧ va_K (dC, dI) vwCl [] t ∧ va_D A [(mq, .inr (12, mF (upd (upd (upd g 7 u.1) 8 u.2.1) 9 u.2.2) gl rf)), (eA0 (rf 0) (ck 0) 900 f_tape)]) A) ([.ref mq] : List Value).toArray s 0 0 A) (F0 m 135 ls []) := by
              intro m_next_e hj0 hj1 hE9 H locs ls hP hD hS hl
              have hq_m_next_e : m_next_e = X_30 := by rw [hE9]
              refine lv_aload_n hx hb dX12_signToken_135 rfl (lv_at hl 3 rfl) ?_
              refine lv_iconst (v := 5) hx hb dX12_signToken_136 (by decide) ?_
              refine va_put (D := (dC, dI)) (ci := 12) (v := .int 5) (ty := tyX12 8) (C := RX12) (T := TX12) (N := 76) hx hb htw inlX12 tyX12 tyX12_ok nmX12 hown hK hP hD hS 0 rfl rfl 8 (by decide) (htw _ (ck_24 _ (List.mem_of_getElem? (i := 13) rfl))) (fun _ h9 => h9) rfl (tyX12_ok 8 (by decide)) rfl rfl (Nat.le_of_ble_eq_true rfl) dX12_signToken_137 (fun H locs hP hD hS => ?_)
              have hP : va_P (dC, dI) vwCl [(mq, .inr (12, mF (upd (upd (upd g 7 m_next_e) 8 5) 9 (f_tape ((g 7).toNatClampNeg))) gl rf)), (eA0 (rf 0) (ck 0) 900 f_tape)] H := hP
              have hD : va_D A [(mq, .inr (12, mF (upd (upd (upd g 7 m_next_e) 8 5) 9 (f_tape ((g 7).toNatClampNeg))) gl rf)), (eA0 (rf 0) (ck 0) 900 f_tape)] := hD
              refine lv_aload_n hx hb dX12_signToken_140 rfl (lv_at hl 3 rfl) ?_
              refine lv_aload_n hx hb dX12_signToken_141 rfl (lv_at hl 3 rfl) ?_
              refine va_get (D := (dC, dI)) (ci := 12) (v := .int (f_tape ((g 7).toNatClampNeg))) (C := RX12) (T := TX12) (N := 76) hx hb htw inlX12 hown hK hP 0 rfl rfl 9 (by decide) (htw _ (ck_24 _ (List.mem_of_getElem? (i := 19) rfl))) (fun _ h9 => h9) rfl dX12_signToken_142 ?_
              refine lv_bipush (v := 61) hx hb dX12_signToken_145 (by decide) ?_
              obtain ⟨X_32, hX_32⟩ : ∃ X9 : (Int32), X9 = fq_signToken_f2 f_tape (g 7) S0b := ⟨_, rfl⟩
              have hjoin_33 : ∀ (S0f : Int32)  (hE9 : X_32 = S0f) (H : Heap) (locs : List Loc) (ls : Array Slot) (hP : va_P (dC, dI) vwCl [(mq, .inr (12, mF (upd (upd (upd g 7 m_next_e) 8 5) 9 (f_tape ((g 7).toNatClampNeg))) gl rf)), (eA0 (rf 0) (ck 0) 900 f_tape)] H) (hD : va_D A [(mq, .inr (12, mF (upd (upd (upd g 7 m_next_e) 8 5) 9 (f_tape ((g 7).toNatClampNeg))) gl rf)), (eA0 (rf 0) (ck 0) 900 f_tape)]) (hS : va_S A s.heap H locs) (hl : lv_has ls 4 [(3, .int S0d), (2, .int S0b), (1, .int S0a), (0, .ref mq)]), W p l e (headSpec (Cond.code yX12_signToken cX12_signToken 4 none :: wsL_law) ({ frames := 0, cells := 0, slots := 0, locals := 0 })).room s m ([.ref mq] : List Value).toArray below meth c H locs 0 0 (MQ below (va_Qv (fun (u : (Int32) × (Int32) × (Int32)) => (u = fq_signToken f_tape (g 6) (g 7)) ∧ (¬ u.1 < 0) ∧ (u.1 ≤ (g 6))) (fun (u : (Int32) × (Int32) × (Int32)) t => va_P (dC, dI) vwCl [(mq, .inr (12, mF (upd (upd (upd g 7 u.1) 8 u.2.1) 9 u.2.2) gl rf)), (eA0 (rf 0) (ck 0) 900 f_tape)] t.heap ∧ va_K (dC, dI) vwCl [] t ∧ va_D A [(mq, .inr (12, mF (upd (upd (upd g 7 u.1) 8 u.2.1) 9 u.2.2) gl rf)), (eA0 (rf 0) (ck 0) 900 f_tape)]) A) ([.ref mq] : List Value).toArray s 0 0 A) (F0 m 192 ls [.int S0f, .ref mq]) := by
                intro S0f  hE9 H locs ls hP hD hS hl
                have hq_S0f : S0f = X_32 := by rw [hE9]
                refine va_put (D := (dC, dI)) (ci := 12) (v := .int S0f) (ty := tyX12 9) (C := RX12) (T := TX12) (N := 76) hx hb htw inlX12 tyX12 tyX12_ok nmX12 hown hK hP hD hS 0 rfl rfl 9 (by decide) (htw _ (ck_24 _ (List.mem_of_getElem? (i := 19) rfl))) (fun _ h9 => h9) rfl (tyX12_ok 9 (by decide)) rfl rfl (Nat.le_of_ble_eq_true rfl) dX12_signToken_192 (fun H locs hP hD hS => ?_)
                have hP : va_P (dC, dI) vwCl [(mq, .inr (12, mF (upd (upd (upd g 7 m_next_e) 8 5) 9 S0f) gl rf)), (eA0 (rf 0) (ck 0) 900 f_tape)] H := hP
                have hD : va_D A [(mq, .inr (12, mF (upd (upd (upd g 7 m_next_e) 8 5) 9 S0f) gl rf)), (eA0 (rf 0) (ck 0) 900 f_tape)] := hD
                refine lv_goto (tgt := 290) hx hb dX12_signToken_195 (by decide) ?_
                refine W.widen (k := 0) (n := 0) (by omega) (by omega) ?_
                have hP9 := hP
                have hD9 := hD
                have hK9 := hK.sub (tys' := []) [] rfl
                exact W.vret hx hb hr (fun t ht hW => ⟨⟨(m_next_e, 5, S0f), rfl, ⟨(Eq.symm ((by rw [fq_signToken]; (try rw [if_neg c_1]); (try rw [if_pos c_23]); (try rw [← hX_24]); (try rw [xL_eq]); (try rw [← hq_S0a]); (try rw [← hX_26]); (try rw [xL_eq]); (try rw [← hq_S0b]); (try rw [← hX_28]); (try rw [xL_eq]); (try rw [← hq_S0d]); (try rw [← hX_30]); (try rw [xL_eq]); (try rw [← hq_m_next_e]); (try rw [← hX_32]); (try rw [xL_eq]); (try rw [← hq_S0f]); try rfl))), (gq_signToken_s10 (y0 := m_next_e) (y1 := g 6) (y2 := g 7) hj0 hj1 h0n hs9 hlt), (gq_signToken_s11 (y0 := m_next_e) (y1 := g 6) (y2 := g 7) hj0 hj1 h0n hs9 hlt)⟩, by rw [ht]; exact hP9, va_K.moved hW.alike hK9, hD9⟩, hS.F ht⟩) hS.2.2 dX12_signToken_290
              refine lv_icmp_ne (tgt := 154) hx hb dX12_signToken_147 (by decide) (fun c_34 => ?_) (fun c_34 => ?_)
              · refine lv_aload_n hx hb dX12_signToken_154 rfl (lv_at hl 3 rfl) ?_
                refine va_get (D := (dC, dI)) (ci := 12) (v := .int (f_tape ((g 7).toNatClampNeg))) (C := RX12) (T := TX12) (N := 76) hx hb htw inlX12 hown hK hP 0 rfl rfl 9 (by decide) (htw _ (ck_24 _ (List.mem_of_getElem? (i := 19) rfl))) (fun _ h9 => h9) rfl dX12_signToken_155 ?_
                refine lv_bipush (v := 60) hx hb dX12_signToken_158 (by decide) ?_
                refine lv_icmp_ne (tgt := 183) hx hb dX12_signToken_160 (by decide) (fun c_35 => ?_) (fun c_35 => absurd c_35 (fun h9 => absurd h9 c_1))
                refine lv_iload_n hx hb dX12_signToken_183 rfl (lv_at hl 1 rfl) ?_
                refine lv_if_eq (tgt := 191) hx hb dX12_signToken_184 (by decide) (fun c_36 => ?_) (fun c_36 => ?_)
                · refine lv_iconst (v := 5) hx hb dX12_signToken_191 (by decide) ?_
                  exact hjoin_33 (5 : Int32)  (hX_32.trans (by rw [fq_signToken_f2]; (try rw [if_neg c_34]); (try rw [if_pos c_36]); try rfl)) _ _ ls hP hD hS (lv_sub hl [0, 1, 2, 3] rfl)
                · refine lv_iconst (v := 4) hx hb dX12_signToken_187 (by decide) ?_
                  refine lv_goto (tgt := 192) hx hb dX12_signToken_188 (by decide) ?_
                  exact hjoin_33 (4 : Int32)  (hX_32.trans (by rw [fq_signToken_f2]; (try rw [if_neg c_34]); (try rw [if_neg c_36]); try rfl)) _ _ ls hP hD hS (lv_sub hl [0, 1, 2, 3] rfl)
              · refine lv_iconst (v := 2) hx hb dX12_signToken_150 (by decide) ?_
                refine lv_goto (tgt := 192) hx hb dX12_signToken_151 (by decide) ?_
                exact hjoin_33 (2 : Int32)  (hX_32.trans (by rw [fq_signToken_f2]; (try rw [if_pos c_34]); try rfl)) _ _ ls hP hD hS (lv_sub hl [0, 1, 2, 3] rfl)
            refine lv_if_ne (tgt := 125) hx hb dX12_signToken_118 (by decide) (fun c_37 => ?_) (fun c_37 => ?_)
            · refine lv_aload_n hx hb dX12_signToken_125 rfl (lv_at hl 3 rfl) ?_
              refine lv_dup hx hb dX12_signToken_126 rfl ?_
              refine va_get (D := (dC, dI)) (ci := 12) (v := .int ((g 7) + 1)) (C := RX12) (T := TX12) (N := 76) hx hb htw inlX12 hown hK hP 0 rfl rfl 7 (by decide) (htw _ (ck_24 _ (List.mem_of_getElem? (i := 12) rfl))) (fun _ h9 => h9) rfl dX12_signToken_127 ?_
              refine lv_iconst (v := 1) hx hb dX12_signToken_130 (by decide) ?_
              refine lv_iadd hx hb dX12_signToken_131 ?_
              refine va_put (D := (dC, dI)) (ci := 12) (v := .int (((g 7) + 1) + 1)) (ty := tyX12 7) (C := RX12) (T := TX12) (N := 76) hx hb htw inlX12 tyX12 tyX12_ok nmX12 hown hK hP hD hS 0 rfl rfl 7 (by decide) (htw _ (ck_24 _ (List.mem_of_getElem? (i := 12) rfl))) (fun _ h9 => h9) rfl (tyX12_ok 7 (by decide)) rfl rfl (Nat.le_of_ble_eq_true rfl) dX12_signToken_132 (fun H locs hP hD hS => ?_)
              have hP : va_P (dC, dI) vwCl [(mq, .inr (12, mF (upd (upd g 7 (((g 7) + 1) + 1)) 9 (f_tape ((g 7).toNatClampNeg))) gl rf)), (eA0 (rf 0) (ck 0) 900 f_tape)] H := hP
              have hD : va_D A [(mq, .inr (12, mF (upd (upd g 7 (((g 7) + 1) + 1)) 9 (f_tape ((g 7).toNatClampNeg))) gl rf)), (eA0 (rf 0) (ck 0) 900 f_tape)] := hD
              exact hjoin_31 (((g 7) + 1) + 1) (gq_signToken_s12 (y0 := g 7) (y1 := g 6) (hja.resolve_left (by rw [hjb.resolve_left c_37]; decide)) h0n hs9 hlt) (gq_signToken_s13 (y0 := g 7) (y1 := g 6) (hja.resolve_left (by rw [hjb.resolve_left c_37]; decide)) h0n hs9 hlt) (hX_30.trans (by rw [fq_signToken_e2]; (try rw [if_neg c_37]); try rfl)) _ _ ls hP hD hS (lv_sub hl [0, 1, 2, 3] rfl)
            · refine lv_iload_n hx hb dX12_signToken_121 rfl (lv_at hl 0 rfl) ?_
              refine lv_if_eq (tgt := 135) hx hb dX12_signToken_122 (by decide) (fun c_38 => ?_) (fun c_38 => ?_)
              · exact hjoin_31 ((g 7) + 1) (gq_signToken_s14 (y0 := g 7) (y1 := g 6) h0n hs9 hlt) (gq_signToken_s15 (y0 := g 7) (y1 := g 6) h0n hs9 hlt) (hX_30.trans (by rw [fq_signToken_e2]; (try rw [if_pos c_37]); (try rw [if_pos c_38]); try rfl)) _ _ ls hP hD hS (lv_sub hl [0, 1, 2, 3] rfl)
              · refine lv_aload_n hx hb dX12_signToken_125 rfl (lv_at hl 3 rfl) ?_
                refine lv_dup hx hb dX12_signToken_126 rfl ?_
                refine va_get (D := (dC, dI)) (ci := 12) (v := .int ((g 7) + 1)) (C := RX12) (T := TX12) (N := 76) hx hb htw inlX12 hown hK hP 0 rfl rfl 7 (by decide) (htw _ (ck_24 _ (List.mem_of_getElem? (i := 12) rfl))) (fun _ h9 => h9) rfl dX12_signToken_127 ?_
                refine lv_iconst (v := 1) hx hb dX12_signToken_130 (by decide) ?_
                refine lv_iadd hx hb dX12_signToken_131 ?_
                refine va_put (D := (dC, dI)) (ci := 12) (v := .int (((g 7) + 1) + 1)) (ty := tyX12 7) (C := RX12) (T := TX12) (N := 76) hx hb htw inlX12 tyX12 tyX12_ok nmX12 hown hK hP hD hS 0 rfl rfl 7 (by decide) (htw _ (ck_24 _ (List.mem_of_getElem? (i := 12) rfl))) (fun _ h9 => h9) rfl (tyX12_ok 7 (by decide)) rfl rfl (Nat.le_of_ble_eq_true rfl) dX12_signToken_132 (fun H locs hP hD hS => ?_)
                have hP : va_P (dC, dI) vwCl [(mq, .inr (12, mF (upd (upd g 7 (((g 7) + 1) + 1)) 9 (f_tape ((g 7).toNatClampNeg))) gl rf)), (eA0 (rf 0) (ck 0) 900 f_tape)] H := hP
                have hD : va_D A [(mq, .inr (12, mF (upd (upd g 7 (((g 7) + 1) + 1)) 9 (f_tape ((g 7).toNatClampNeg))) gl rf)), (eA0 (rf 0) (ck 0) 900 f_tape)] := hD
                exact hjoin_31 (((g 7) + 1) + 1) (gq_signToken_s16 (y0 := g 7) (y1 := g 6) (hja.resolve_left (by rw [hjd.resolve_left c_38]; decide)) h0n hs9 hlt) (gq_signToken_s17 (y0 := g 7) (y1 := g 6) (hja.resolve_left (by rw [hjd.resolve_left c_38]; decide)) h0n hs9 hlt) (hX_30.trans (by rw [fq_signToken_e2]; (try rw [if_pos c_37]); (try rw [if_neg c_38]); try rfl)) _ _ ls hP hD hS (lv_sub hl [0, 1, 2, 3] rfl)
          refine lv_icmp_ne (tgt := 115) hx hb dX12_signToken_102 (by decide) (fun c_39 => ?_) (fun c_39 => absurd c_39 (fun h9 => absurd h9 c_1))
          refine lv_iconst (v := 0) hx hb dX12_signToken_115 (by decide) ?_
          exact hjoin_29 (0 : Int32) (Or.inl rfl) (hX_28.trans (by rw [fq_signToken_d2])) _ _ ls hP hD hS (lv_sub hl [0, 1, 2] rfl)
        refine lv_icmp_eq (tgt := 94) hx hb dX12_signToken_81 (by decide) (fun c_40 => ?_) (fun c_40 => ?_)
        · refine lv_iconst (v := 0) hx hb dX12_signToken_94 (by decide) ?_
          exact hjoin_27 (0 : Int32) (Or.inl rfl) (hX_26.trans (by rw [fq_signToken_b2]; (try rw [if_pos c_40]); try rfl)) _ _ ls hP hD hS (lv_sub hl [0, 1] rfl)
        · refine lv_iload_n hx hb dX12_signToken_84 rfl (lv_at hl 0 rfl) ?_
          refine lv_bipush (v := 61) hx hb dX12_signToken_85 (by decide) ?_
          refine lv_icmp_ne (tgt := 94) hx hb dX12_signToken_87 (by decide) (fun c_41 => ?_) (fun c_41 => ?_)
          · refine lv_iconst (v := 0) hx hb dX12_signToken_94 (by decide) ?_
            exact hjoin_27 (0 : Int32) (Or.inl rfl) (hX_26.trans (by rw [fq_signToken_b2]; (try rw [if_neg c_40]); (try rw [if_neg c_41]); try rfl)) _ _ ls hP hD hS (lv_sub hl [0, 1] rfl)
          · refine lv_iconst (v := 1) hx hb dX12_signToken_90 (by decide) ?_
            refine lv_goto (tgt := 95) hx hb dX12_signToken_91 (by decide) ?_
            exact hjoin_27 (1 : Int32) (Or.inr c_41) (hX_26.trans (by rw [fq_signToken_b2]; (try rw [if_neg c_40]); (try rw [if_pos c_41]); try rfl)) _ _ ls hP hD hS (lv_sub hl [0, 1] rfl)
      refine lv_icmp_ge (tgt := 73) hx hb dX12_signToken_58 (by decide) (fun c_42 => ?_) (fun c_42 => ?_)
      · refine lv_iconst (v := 0) hx hb dX12_signToken_73 (by decide) ?_
        exact hjoin_25 (0 : Int32) (Or.inl rfl) (hX_24.trans (by rw [fq_signToken_a2]; (try rw [if_pos c_42]); try rfl)) _ _ ls hP hD hS (lv_sub hl [0] rfl)
      · refine lv_aload_n hx hb dX12_signToken_61 rfl (lv_at hl 0 rfl) ?_
        refine va_get (D := (dC, dI)) (ci := 12) (v := .ref (rf 0)) (C := RX12) (T := TX12) (N := 76) hx hb htw inlX12 hown hK hP 0 rfl rfl 0 (by decide) (htw _ (ck_9 _ (List.mem_of_getElem? (i := 4) rfl))) (fun _ h9 => h9) rfl dX12_signToken_62 ?_
        refine lv_aload_n hx hb dX12_signToken_65 rfl (lv_at hl 0 rfl) ?_
        refine va_get (D := (dC, dI)) (ci := 12) (v := .int ((g 7) + 1)) (C := RX12) (T := TX12) (N := 76) hx hb htw inlX12 hown hK hP 0 rfl rfl 7 (by decide) (htw _ (ck_24 _ (List.mem_of_getElem? (i := 12) rfl))) (fun _ h9 => h9) rfl dX12_signToken_66 ?_
        refine va_iald hx hb hK hP 1 0 rfl rfl (xg_inr (N := 900) rfl (gq_signToken_s18 (y0 := g 7) (y1 := g 6) c_42 h0n hs9 hlt).1 (gq_signToken_s18 (y0 := g 7) (y1 := g 6) c_42 h0n hs9 hlt).2) dX12_signToken_69 ?_
        refine lv_goto (tgt := 74) hx hb dX12_signToken_70 (by decide) ?_
        exact hjoin_25 (f_tape (((g 7) + 1).toNatClampNeg)) (Or.inr (Int32.not_le.mp c_42)) (hX_24.trans (by rw [fq_signToken_a2]; (try rw [if_neg c_42]); try rfl)) _ _ ls hP hD hS (lv_sub hl [0] rfl)
    · refine lv_aload_n hx hb dX12_signToken_41 rfl (lv_at hl 0 rfl) ?_
      refine va_get (D := (dC, dI)) (ci := 12) (v := .int (f_tape ((g 7).toNatClampNeg))) (C := RX12) (T := TX12) (N := 76) hx hb htw inlX12 hown hK hP 0 rfl rfl 9 (by decide) (htw _ (ck_24 _ (List.mem_of_getElem? (i := 19) rfl))) (fun _ h9 => h9) rfl dX12_signToken_42 ?_
      refine lv_bipush (v := 61) hx hb dX12_signToken_45 (by decide) ?_
      refine lv_icmp_ne (tgt := 198) hx hb dX12_signToken_47 (by decide) (fun c_43 => ?_) (fun c_43 => ?_)
      · refine lv_aload_n hx hb dX12_signToken_198 rfl (lv_at hl 0 rfl) ?_
        refine va_get (D := (dC, dI)) (ci := 12) (v := .int (f_tape ((g 7).toNatClampNeg))) (C := RX12) (T := TX12) (N := 76) hx hb htw inlX12 hown hK hP 0 rfl rfl 9 (by decide) (htw _ (ck_24 _ (List.mem_of_getElem? (i := 19) rfl))) (fun _ h9 => h9) rfl dX12_signToken_199 ?_
        refine lv_bipush (v := 59) hx hb dX12_signToken_202 (by decide) ?_
        obtain ⟨X_44, hX_44⟩ : ∃ X9 : (Int32), X9 = fq_signToken_h f_tape (g 7) := ⟨_, rfl⟩
        have hjoin_45 : ∀ (S0h : Int32)  (hE9 : X_44 = S0h) (H : Heap) (locs : List Loc) (ls : Array Slot) (hP : va_P (dC, dI) vwCl [(mq, .inr (12, mF (upd (upd g 7 ((g 7) + 1)) 9 (f_tape ((g 7).toNatClampNeg))) gl rf)), (eA0 (rf 0) (ck 0) 900 f_tape)] H) (hD : va_D A [(mq, .inr (12, mF (upd (upd g 7 ((g 7) + 1)) 9 (f_tape ((g 7).toNatClampNeg))) gl rf)), (eA0 (rf 0) (ck 0) 900 f_tape)]) (hS : va_S A s.heap H locs) (hl : lv_has ls 4 [(0, .ref mq)]), W p l e (headSpec (Cond.code yX12_signToken cX12_signToken 4 none :: wsL_law) ({ frames := 0, cells := 0, slots := 0, locals := 0 })).room s m ([.ref mq] : List Value).toArray below meth c H locs 0 0 (MQ below (va_Qv (fun (u : (Int32) × (Int32) × (Int32)) => (u = fq_signToken f_tape (g 6) (g 7)) ∧ (¬ u.1 < 0) ∧ (u.1 ≤ (g 6))) (fun (u : (Int32) × (Int32) × (Int32)) t => va_P (dC, dI) vwCl [(mq, .inr (12, mF (upd (upd (upd g 7 u.1) 8 u.2.1) 9 u.2.2) gl rf)), (eA0 (rf 0) (ck 0) 900 f_tape)] t.heap ∧ va_K (dC, dI) vwCl [] t ∧ va_D A [(mq, .inr (12, mF (upd (upd (upd g 7 u.1) 8 u.2.1) 9 u.2.2) gl rf)), (eA0 (rf 0) (ck 0) 900 f_tape)]) A) ([.ref mq] : List Value).toArray s 0 0 A) (F0 m 275 ls [.int S0h]) := by
          intro S0h  hE9 H locs ls hP hD hS hl
          have hq_S0h : S0h = X_44 := by rw [hE9]
          refine lv_istore_n (lv' := [(1, .int S0h), (0, .ref mq)]) hx hb dX12_signToken_275 rfl hl (by decide) rfl (fun ls hl => ?_)
          refine lv_aload_n hx hb dX12_signToken_276 rfl (lv_at hl 1 rfl) ?_
          refine lv_iload_n hx hb dX12_signToken_277 rfl (lv_at hl 0 rfl) ?_
          refine lv_if_eq (tgt := 285) hx hb dX12_signToken_278 (by decide) (fun c_46 => ?_) (fun c_46 => ?_)
          · refine lv_bipush (v := 6) hx hb dX12_signToken_285 (by decide) ?_
            refine va_put (D := (dC, dI)) (ci := 12) (v := .int 6) (ty := tyX12 8) (C := RX12) (T := TX12) (N := 76) hx hb htw inlX12 tyX12 tyX12_ok nmX12 hown hK hP hD hS 0 rfl rfl 8 (by decide) (htw _ (ck_24 _ (List.mem_of_getElem? (i := 13) rfl))) (fun _ h9 => h9) rfl (tyX12_ok 8 (by decide)) rfl rfl (Nat.le_of_ble_eq_true rfl) dX12_signToken_287 (fun H locs hP hD hS => ?_)
            have hP : va_P (dC, dI) vwCl [(mq, .inr (12, mF (upd (upd (upd g 7 ((g 7) + 1)) 8 6) 9 (f_tape ((g 7).toNatClampNeg))) gl rf)), (eA0 (rf 0) (ck 0) 900 f_tape)] H := hP
            have hD : va_D A [(mq, .inr (12, mF (upd (upd (upd g 7 ((g 7) + 1)) 8 6) 9 (f_tape ((g 7).toNatClampNeg))) gl rf)), (eA0 (rf 0) (ck 0) 900 f_tape)] := hD
            refine W.widen (k := 0) (n := 0) (by omega) (by omega) ?_
            have hP9 := hP
            have hD9 := hD
            have hK9 := hK.sub (tys' := []) [] rfl
            exact W.vret hx hb hr (fun t ht hW => ⟨⟨(((g 7) + 1), 6, f_tape ((g 7).toNatClampNeg)), rfl, ⟨(Eq.symm ((by rw [fq_signToken]; (try rw [if_neg c_1]); (try rw [if_neg c_23]); (try rw [if_neg c_43]); (try rw [← hX_44]); (try rw [xL_eq]); (try rw [← hq_S0h]); (try rw [if_pos c_46]); try rfl))), (gq_signToken_s19 (y0 := g 7) (y1 := g 6) h0n hs9 hlt), (gq_signToken_s20 (y0 := g 7) (y1 := g 6) h0n hs9 hlt)⟩, by rw [ht]; exact hP9, va_K.moved hW.alike hK9, hD9⟩, hS.F ht⟩) hS.2.2 dX12_signToken_290
          · refine lv_iconst (v := 4) hx hb dX12_signToken_281 (by decide) ?_
            refine lv_goto (tgt := 287) hx hb dX12_signToken_282 (by decide) ?_
            refine va_put (D := (dC, dI)) (ci := 12) (v := .int 4) (ty := tyX12 8) (C := RX12) (T := TX12) (N := 76) hx hb htw inlX12 tyX12 tyX12_ok nmX12 hown hK hP hD hS 0 rfl rfl 8 (by decide) (htw _ (ck_24 _ (List.mem_of_getElem? (i := 13) rfl))) (fun _ h9 => h9) rfl (tyX12_ok 8 (by decide)) rfl rfl (Nat.le_of_ble_eq_true rfl) dX12_signToken_287 (fun H locs hP hD hS => ?_)
            have hP : va_P (dC, dI) vwCl [(mq, .inr (12, mF (upd (upd (upd g 7 ((g 7) + 1)) 8 4) 9 (f_tape ((g 7).toNatClampNeg))) gl rf)), (eA0 (rf 0) (ck 0) 900 f_tape)] H := hP
            have hD : va_D A [(mq, .inr (12, mF (upd (upd (upd g 7 ((g 7) + 1)) 8 4) 9 (f_tape ((g 7).toNatClampNeg))) gl rf)), (eA0 (rf 0) (ck 0) 900 f_tape)] := hD
            refine W.widen (k := 0) (n := 0) (by omega) (by omega) ?_
            have hP9 := hP
            have hD9 := hD
            have hK9 := hK.sub (tys' := []) [] rfl
            exact W.vret hx hb hr (fun t ht hW => ⟨⟨(((g 7) + 1), 4, f_tape ((g 7).toNatClampNeg)), rfl, ⟨(Eq.symm ((by rw [fq_signToken]; (try rw [if_neg c_1]); (try rw [if_neg c_23]); (try rw [if_neg c_43]); (try rw [← hX_44]); (try rw [xL_eq]); (try rw [← hq_S0h]); (try rw [if_neg c_46]); try rfl))), (gq_signToken_s21 (y0 := g 7) (y1 := g 6) h0n hs9 hlt), (gq_signToken_s22 (y0 := g 7) (y1 := g 6) h0n hs9 hlt)⟩, by rw [ht]; exact hP9, va_K.moved hW.alike hK9, hD9⟩, hS.F ht⟩) hS.2.2 dX12_signToken_290
        refine lv_icmp_eq (tgt := 270) hx hb dX12_signToken_204 (by decide) (fun c_47 => ?_) (fun c_47 => ?_)
        · refine lv_iconst (v := 1) hx hb dX12_signToken_270 (by decide) ?_
          refine lv_goto (tgt := 275) hx hb dX12_signToken_271 (by decide) ?_
          exact hjoin_45 (1 : Int32)  (hX_44.trans (by rw [fq_signToken_h]; (try rw [if_pos c_47]); try rfl)) _ _ ls hP hD hS (lv_sub hl [0] rfl)
        · refine lv_aload_n hx hb dX12_signToken_207 rfl (lv_at hl 0 rfl) ?_
          refine va_get (D := (dC, dI)) (ci := 12) (v := .int (f_tape ((g 7).toNatClampNeg))) (C := RX12) (T := TX12) (N := 76) hx hb htw inlX12 hown hK hP 0 rfl rfl 9 (by decide) (htw _ (ck_24 _ (List.mem_of_getElem? (i := 19) rfl))) (fun _ h9 => h9) rfl dX12_signToken_208 ?_
          refine lv_bipush (v := 40) hx hb dX12_signToken_211 (by decide) ?_
          refine lv_icmp_eq (tgt := 270) hx hb dX12_signToken_213 (by decide) (fun c_48 => ?_) (fun c_48 => ?_)
          · refine lv_iconst (v := 1) hx hb dX12_signToken_270 (by decide) ?_
            refine lv_goto (tgt := 275) hx hb dX12_signToken_271 (by decide) ?_
            exact hjoin_45 (1 : Int32)  (hX_44.trans (by rw [fq_signToken_h]; (try rw [if_neg c_47]); (try rw [if_pos c_48]); try rfl)) _ _ ls hP hD hS (lv_sub hl [0] rfl)
          · refine lv_aload_n hx hb dX12_signToken_216 rfl (lv_at hl 0 rfl) ?_
            refine va_get (D := (dC, dI)) (ci := 12) (v := .int (f_tape ((g 7).toNatClampNeg))) (C := RX12) (T := TX12) (N := 76) hx hb htw inlX12 hown hK hP 0 rfl rfl 9 (by decide) (htw _ (ck_24 _ (List.mem_of_getElem? (i := 19) rfl))) (fun _ h9 => h9) rfl dX12_signToken_217 ?_
            refine lv_bipush (v := 41) hx hb dX12_signToken_220 (by decide) ?_
            refine lv_icmp_eq (tgt := 270) hx hb dX12_signToken_222 (by decide) (fun c_49 => ?_) (fun c_49 => ?_)
            · refine lv_iconst (v := 1) hx hb dX12_signToken_270 (by decide) ?_
              refine lv_goto (tgt := 275) hx hb dX12_signToken_271 (by decide) ?_
              exact hjoin_45 (1 : Int32)  (hX_44.trans (by rw [fq_signToken_h]; (try rw [if_neg c_47]); (try rw [if_neg c_48]); (try rw [if_pos c_49]); try rfl)) _ _ ls hP hD hS (lv_sub hl [0] rfl)
            · refine lv_aload_n hx hb dX12_signToken_225 rfl (lv_at hl 0 rfl) ?_
              refine va_get (D := (dC, dI)) (ci := 12) (v := .int (f_tape ((g 7).toNatClampNeg))) (C := RX12) (T := TX12) (N := 76) hx hb htw inlX12 hown hK hP 0 rfl rfl 9 (by decide) (htw _ (ck_24 _ (List.mem_of_getElem? (i := 19) rfl))) (fun _ h9 => h9) rfl dX12_signToken_226 ?_
              refine lv_bipush (v := 43) hx hb dX12_signToken_229 (by decide) ?_
              refine lv_icmp_eq (tgt := 270) hx hb dX12_signToken_231 (by decide) (fun c_50 => ?_) (fun c_50 => ?_)
              · refine lv_iconst (v := 1) hx hb dX12_signToken_270 (by decide) ?_
                refine lv_goto (tgt := 275) hx hb dX12_signToken_271 (by decide) ?_
                exact hjoin_45 (1 : Int32)  (hX_44.trans (by rw [fq_signToken_h]; (try rw [if_neg c_47]); (try rw [if_neg c_48]); (try rw [if_neg c_49]); (try rw [if_pos c_50]); try rfl)) _ _ ls hP hD hS (lv_sub hl [0] rfl)
              · refine lv_aload_n hx hb dX12_signToken_234 rfl (lv_at hl 0 rfl) ?_
                refine va_get (D := (dC, dI)) (ci := 12) (v := .int (f_tape ((g 7).toNatClampNeg))) (C := RX12) (T := TX12) (N := 76) hx hb htw inlX12 hown hK hP 0 rfl rfl 9 (by decide) (htw _ (ck_24 _ (List.mem_of_getElem? (i := 19) rfl))) (fun _ h9 => h9) rfl dX12_signToken_235 ?_
                refine lv_bipush (v := 45) hx hb dX12_signToken_238 (by decide) ?_
                refine lv_icmp_eq (tgt := 270) hx hb dX12_signToken_240 (by decide) (fun c_51 => ?_) (fun c_51 => ?_)
                · refine lv_iconst (v := 1) hx hb dX12_signToken_270 (by decide) ?_
                  refine lv_goto (tgt := 275) hx hb dX12_signToken_271 (by decide) ?_
                  exact hjoin_45 (1 : Int32)  (hX_44.trans (by rw [fq_signToken_h]; (try rw [if_neg c_47]); (try rw [if_neg c_48]); (try rw [if_neg c_49]); (try rw [if_neg c_50]); (try rw [if_pos c_51]); try rfl)) _ _ ls hP hD hS (lv_sub hl [0] rfl)
                · refine lv_aload_n hx hb dX12_signToken_243 rfl (lv_at hl 0 rfl) ?_
                  refine va_get (D := (dC, dI)) (ci := 12) (v := .int (f_tape ((g 7).toNatClampNeg))) (C := RX12) (T := TX12) (N := 76) hx hb htw inlX12 hown hK hP 0 rfl rfl 9 (by decide) (htw _ (ck_24 _ (List.mem_of_getElem? (i := 19) rfl))) (fun _ h9 => h9) rfl dX12_signToken_244 ?_
                  refine lv_bipush (v := 42) hx hb dX12_signToken_247 (by decide) ?_
                  refine lv_icmp_eq (tgt := 270) hx hb dX12_signToken_249 (by decide) (fun c_52 => ?_) (fun c_52 => ?_)
                  · refine lv_iconst (v := 1) hx hb dX12_signToken_270 (by decide) ?_
                    refine lv_goto (tgt := 275) hx hb dX12_signToken_271 (by decide) ?_
                    exact hjoin_45 (1 : Int32)  (hX_44.trans (by rw [fq_signToken_h]; (try rw [if_neg c_47]); (try rw [if_neg c_48]); (try rw [if_neg c_49]); (try rw [if_neg c_50]); (try rw [if_neg c_51]); (try rw [if_pos c_52]); try rfl)) _ _ ls hP hD hS (lv_sub hl [0] rfl)
                  · refine lv_aload_n hx hb dX12_signToken_252 rfl (lv_at hl 0 rfl) ?_
                    refine va_get (D := (dC, dI)) (ci := 12) (v := .int (f_tape ((g 7).toNatClampNeg))) (C := RX12) (T := TX12) (N := 76) hx hb htw inlX12 hown hK hP 0 rfl rfl 9 (by decide) (htw _ (ck_24 _ (List.mem_of_getElem? (i := 19) rfl))) (fun _ h9 => h9) rfl dX12_signToken_253 ?_
                    refine lv_bipush (v := 47) hx hb dX12_signToken_256 (by decide) ?_
                    refine lv_icmp_eq (tgt := 270) hx hb dX12_signToken_258 (by decide) (fun c_53 => ?_) (fun c_53 => ?_)
                    · refine lv_iconst (v := 1) hx hb dX12_signToken_270 (by decide) ?_
                      refine lv_goto (tgt := 275) hx hb dX12_signToken_271 (by decide) ?_
                      exact hjoin_45 (1 : Int32)  (hX_44.trans (by rw [fq_signToken_h]; (try rw [if_neg c_47]); (try rw [if_neg c_48]); (try rw [if_neg c_49]); (try rw [if_neg c_50]); (try rw [if_neg c_51]); (try rw [if_neg c_52]); (try rw [if_pos c_53]); try rfl)) _ _ ls hP hD hS (lv_sub hl [0] rfl)
                    · refine lv_aload_n hx hb dX12_signToken_261 rfl (lv_at hl 0 rfl) ?_
                      refine va_get (D := (dC, dI)) (ci := 12) (v := .int (f_tape ((g 7).toNatClampNeg))) (C := RX12) (T := TX12) (N := 76) hx hb htw inlX12 hown hK hP 0 rfl rfl 9 (by decide) (htw _ (ck_24 _ (List.mem_of_getElem? (i := 19) rfl))) (fun _ h9 => h9) rfl dX12_signToken_262 ?_
                      refine lv_bipush (v := 37) hx hb dX12_signToken_265 (by decide) ?_
                      refine lv_icmp_ne (tgt := 274) hx hb dX12_signToken_267 (by decide) (fun c_54 => ?_) (fun c_54 => ?_)
                      · refine lv_iconst (v := 0) hx hb dX12_signToken_274 (by decide) ?_
                        exact hjoin_45 (0 : Int32)  (hX_44.trans (by rw [fq_signToken_h]; (try rw [if_neg c_47]); (try rw [if_neg c_48]); (try rw [if_neg c_49]); (try rw [if_neg c_50]); (try rw [if_neg c_51]); (try rw [if_neg c_52]); (try rw [if_neg c_53]); (try rw [if_neg c_54]); try rfl)) _ _ ls hP hD hS (lv_sub hl [0] rfl)
                      · refine lv_iconst (v := 1) hx hb dX12_signToken_270 (by decide) ?_
                        refine lv_goto (tgt := 275) hx hb dX12_signToken_271 (by decide) ?_
                        exact hjoin_45 (1 : Int32)  (hX_44.trans (by rw [fq_signToken_h]; (try rw [if_neg c_47]); (try rw [if_neg c_48]); (try rw [if_neg c_49]); (try rw [if_neg c_50]); (try rw [if_neg c_51]); (try rw [if_neg c_52]); (try rw [if_neg c_53]); (try rw [if_pos c_54]); try rfl)) _ _ ls hP hD hS (lv_sub hl [0] rfl)
      · refine lv_aload_n hx hb dX12_signToken_50 rfl (lv_at hl 0 rfl) ?_
        refine va_get (D := (dC, dI)) (ci := 12) (v := .int ((g 7) + 1)) (C := RX12) (T := TX12) (N := 76) hx hb htw inlX12 hown hK hP 0 rfl rfl 7 (by decide) (htw _ (ck_24 _ (List.mem_of_getElem? (i := 12) rfl))) (fun _ h9 => h9) rfl dX12_signToken_51 ?_
        refine lv_aload_n hx hb dX12_signToken_54 rfl (lv_at hl 0 rfl) ?_
        refine va_get (D := (dC, dI)) (ci := 12) (v := .int (g 6)) (C := RX12) (T := TX12) (N := 76) hx hb htw inlX12 hown hK hP 0 rfl rfl 6 (by decide) (htw _ (ck_24 _ (List.mem_of_getElem? (i := 10) rfl))) (fun _ h9 => h9) rfl dX12_signToken_55 ?_
        obtain ⟨X_55, hX_55⟩ : ∃ X9 : (Int32), X9 = fq_signToken_a3 f_tape (g 6) (g 7) := ⟨_, rfl⟩
        have hjoin_56 : ∀ (S0a : Int32) (hja : S0a = 0 ∨ ((g 7) + 1) < (g 6)) (hE9 : X_55 = S0a) (H : Heap) (locs : List Loc) (ls : Array Slot) (hP : va_P (dC, dI) vwCl [(mq, .inr (12, mF (upd (upd g 7 ((g 7) + 1)) 9 (f_tape ((g 7).toNatClampNeg))) gl rf)), (eA0 (rf 0) (ck 0) 900 f_tape)] H) (hD : va_D A [(mq, .inr (12, mF (upd (upd g 7 ((g 7) + 1)) 9 (f_tape ((g 7).toNatClampNeg))) gl rf)), (eA0 (rf 0) (ck 0) 900 f_tape)]) (hS : va_S A s.heap H locs) (hl : lv_has ls 4 [(0, .ref mq)]), W p l e (headSpec (Cond.code yX12_signToken cX12_signToken 4 none :: wsL_law) ({ frames := 0, cells := 0, slots := 0, locals := 0 })).room s m ([.ref mq] : List Value).toArray below meth c H locs 0 0 (MQ below (va_Qv (fun (u : (Int32) × (Int32) × (Int32)) => (u = fq_signToken f_tape (g 6) (g 7)) ∧ (¬ u.1 < 0) ∧ (u.1 ≤ (g 6))) (fun (u : (Int32) × (Int32) × (Int32)) t => va_P (dC, dI) vwCl [(mq, .inr (12, mF (upd (upd (upd g 7 u.1) 8 u.2.1) 9 u.2.2) gl rf)), (eA0 (rf 0) (ck 0) 900 f_tape)] t.heap ∧ va_K (dC, dI) vwCl [] t ∧ va_D A [(mq, .inr (12, mF (upd (upd (upd g 7 u.1) 8 u.2.1) 9 u.2.2) gl rf)), (eA0 (rf 0) (ck 0) 900 f_tape)]) A) ([.ref mq] : List Value).toArray s 0 0 A) (F0 m 74 ls [.int S0a]) := by
          intro S0a hja hE9 H locs ls hP hD hS hl
          have hq_S0a : S0a = X_55 := by rw [hE9]
          refine lv_istore_n (lv' := [(1, .int S0a), (0, .ref mq)]) hx hb dX12_signToken_74 rfl hl (by decide) rfl (fun ls hl => ?_)
          refine lv_aload_n hx hb dX12_signToken_75 rfl (lv_at hl 1 rfl) ?_
          refine va_get (D := (dC, dI)) (ci := 12) (v := .int (f_tape ((g 7).toNatClampNeg))) (C := RX12) (T := TX12) (N := 76) hx hb htw inlX12 hown hK hP 0 rfl rfl 9 (by decide) (htw _ (ck_24 _ (List.mem_of_getElem? (i := 19) rfl))) (fun _ h9 => h9) rfl dX12_signToken_76 ?_
          refine lv_bipush (v := 61) hx hb dX12_signToken_79 (by decide) ?_
          obtain ⟨X_57, hX_57⟩ : ∃ X9 : (Int32), X9 = fq_signToken_b3 := ⟨_, rfl⟩
          have hjoin_58 : ∀ (S0b : Int32) (hjb : S0b = 0 ∨ S0a = 61) (hE9 : X_57 = S0b) (H : Heap) (locs : List Loc) (ls : Array Slot) (hP : va_P (dC, dI) vwCl [(mq, .inr (12, mF (upd (upd g 7 ((g 7) + 1)) 9 (f_tape ((g 7).toNatClampNeg))) gl rf)), (eA0 (rf 0) (ck 0) 900 f_tape)] H) (hD : va_D A [(mq, .inr (12, mF (upd (upd g 7 ((g 7) + 1)) 9 (f_tape ((g 7).toNatClampNeg))) gl rf)), (eA0 (rf 0) (ck 0) 900 f_tape)]) (hS : va_S A s.heap H locs) (hl : lv_has ls 4 [(1, .int S0a), (0, .ref mq)]), W p l e (headSpec (Cond.code yX12_signToken cX12_signToken 4 none :: wsL_law) ({ frames := 0, cells := 0, slots := 0, locals := 0 })).room s m ([.ref mq] : List Value).toArray below meth c H locs 0 0 (MQ below (va_Qv (fun (u : (Int32) × (Int32) × (Int32)) => (u = fq_signToken f_tape (g 6) (g 7)) ∧ (¬ u.1 < 0) ∧ (u.1 ≤ (g 6))) (fun (u : (Int32) × (Int32) × (Int32)) t => va_P (dC, dI) vwCl [(mq, .inr (12, mF (upd (upd (upd g 7 u.1) 8 u.2.1) 9 u.2.2) gl rf)), (eA0 (rf 0) (ck 0) 900 f_tape)] t.heap ∧ va_K (dC, dI) vwCl [] t ∧ va_D A [(mq, .inr (12, mF (upd (upd (upd g 7 u.1) 8 u.2.1) 9 u.2.2) gl rf)), (eA0 (rf 0) (ck 0) 900 f_tape)]) A) ([.ref mq] : List Value).toArray s 0 0 A) (F0 m 95 ls [.int S0b]) := by
            intro S0b hjb hE9 H locs ls hP hD hS hl
            have hq_S0b : S0b = X_57 := by rw [hE9]
            refine lv_istore_n (lv' := [(2, .int S0b), (1, .int S0a), (0, .ref mq)]) hx hb dX12_signToken_95 rfl hl (by decide) rfl (fun ls hl => ?_)
            refine lv_aload_n hx hb dX12_signToken_96 rfl (lv_at hl 2 rfl) ?_
            refine va_get (D := (dC, dI)) (ci := 12) (v := .int (f_tape ((g 7).toNatClampNeg))) (C := RX12) (T := TX12) (N := 76) hx hb htw inlX12 hown hK hP 0 rfl rfl 9 (by decide) (htw _ (ck_24 _ (List.mem_of_getElem? (i := 19) rfl))) (fun _ h9 => h9) rfl dX12_signToken_97 ?_
            refine lv_bipush (v := 60) hx hb dX12_signToken_100 (by decide) ?_
            obtain ⟨X_59, hX_59⟩ : ∃ X9 : (Int32), X9 = fq_signToken_d3 := ⟨_, rfl⟩
            have hjoin_60 : ∀ (S0d : Int32) (hjd : S0d = 0 ∨ S0a = 62) (hE9 : X_59 = S0d) (H : Heap) (locs : List Loc) (ls : Array Slot) (hP : va_P (dC, dI) vwCl [(mq, .inr (12, mF (upd (upd g 7 ((g 7) + 1)) 9 (f_tape ((g 7).toNatClampNeg))) gl rf)), (eA0 (rf 0) (ck 0) 900 f_tape)] H) (hD : va_D A [(mq, .inr (12, mF (upd (upd g 7 ((g 7) + 1)) 9 (f_tape ((g 7).toNatClampNeg))) gl rf)), (eA0 (rf 0) (ck 0) 900 f_tape)]) (hS : va_S A s.heap H locs) (hl : lv_has ls 4 [(2, .int S0b), (1, .int S0a), (0, .ref mq)]), W p l e (headSpec (Cond.code yX12_signToken cX12_signToken 4 none :: wsL_law) ({ frames := 0, cells := 0, slots := 0, locals := 0 })).room s m ([.ref mq] : List Value).toArray below meth c H locs 0 0 (MQ below (va_Qv (fun (u : (Int32) × (Int32) × (Int32)) => (u = fq_signToken f_tape (g 6) (g 7)) ∧ (¬ u.1 < 0) ∧ (u.1 ≤ (g 6))) (fun (u : (Int32) × (Int32) × (Int32)) t => va_P (dC, dI) vwCl [(mq, .inr (12, mF (upd (upd (upd g 7 u.1) 8 u.2.1) 9 u.2.2) gl rf)), (eA0 (rf 0) (ck 0) 900 f_tape)] t.heap ∧ va_K (dC, dI) vwCl [] t ∧ va_D A [(mq, .inr (12, mF (upd (upd (upd g 7 u.1) 8 u.2.1) 9 u.2.2) gl rf)), (eA0 (rf 0) (ck 0) 900 f_tape)]) A) ([.ref mq] : List Value).toArray s 0 0 A) (F0 m 116 ls [.int S0d]) := by
              intro S0d hjd hE9 H locs ls hP hD hS hl
              have hq_S0d : S0d = X_59 := by rw [hE9]
              refine lv_istore_n (lv' := [(3, .int S0d), (2, .int S0b), (1, .int S0a), (0, .ref mq)]) hx hb dX12_signToken_116 rfl hl (by decide) rfl (fun ls hl => ?_)
              refine lv_iload_n hx hb dX12_signToken_117 rfl (lv_at hl 1 rfl) ?_
              obtain ⟨X_61, hX_61⟩ : ∃ X9 : (Int32), X9 = fq_signToken_e3 (g 7) S0b S0d := ⟨_, rfl⟩
              have hjoin_62 : ∀ (m_next_e : Int32) (hj0 : ¬ m_next_e < 0) (hj1 : m_next_e ≤ (g 6)) (hE9 : X_61 = m_next_e) (H : Heap) (locs : List Loc) (ls : Array Slot) (hP : va_P (dC, dI) vwCl [(mq, .inr (12, mF (upd (upd g 7 m_next_e) 9 (f_tape ((g 7).toNatClampNeg))) gl rf)), (eA0 (rf 0) (ck 0) 900 f_tape)] H) (hD : va_D A [(mq, .inr (12, mF (upd (upd g 7 m_next_e) 9 (f_tape ((g 7).toNatClampNeg))) gl rf)), (eA0 (rf 0) (ck 0) 900 f_tape)]) (hS : va_S A s.heap H locs) (hl : lv_has ls 4 [(3, .int S0d), (2, .int S0b), (1, .int S0a), (0, .ref mq)]), W p l e (headSpec (Cond.code yX12_signToken cX12_signToken 4 none :: wsL_law) ({ frames := 0, cells := 0, slots := 0, locals := 0 })).room s m ([.ref mq] : List Value).toArray below meth c H locs 0 0 (MQ below (va_Qv (fun (u : (Int32) × (Int32) × (Int32)) => (u = fq_signToken f_tape (g 6) (g 7)) ∧ (¬ u.1 < 0) ∧ (u.1 ≤ (g 6))) (fun (u : (Int32) × (Int32) × (Int32)) t => va_P (dC, dI) vwCl [(mq, .inr (12, mF (upd (upd (upd g 7 u.1) 8 u.2.1) 9 u.2.2) gl rf)), (eA0 (rf 0) (ck 0) 900 f_tape)] t.heap ∧ va_K (dC, dI) vwCl [] t ∧ va_D A [(mq, .inr (12, mF (upd (upd (upd g 7 u.1) 8 u.2.1) 9 u.2.2) gl rf)), (eA0 (rf 0) (ck 0) 900 f_tape)]) A) ([.ref mq] : List Value).toArray s 0 0 A) (F0 m 135 ls []) := by
                intro m_next_e hj0 hj1 hE9 H locs ls hP hD hS hl
                have hq_m_next_e : m_next_e = X_61 := by rw [hE9]
                refine lv_aload_n hx hb dX12_signToken_135 rfl (lv_at hl 3 rfl) ?_
                refine lv_iconst (v := 5) hx hb dX12_signToken_136 (by decide) ?_
                refine va_put (D := (dC, dI)) (ci := 12) (v := .int 5) (ty := tyX12 8) (C := RX12) (T := TX12) (N := 76) hx hb htw inlX12 tyX12 tyX12_ok nmX12 hown hK hP hD hS 0 rfl rfl 8 (by decide) (htw _ (ck_24 _ (List.mem_of_getElem? (i := 13) rfl))) (fun _ h9 => h9) rfl (tyX12_ok 8 (by decide)) rfl rfl (Nat.le_of_ble_eq_true rfl) dX12_signToken_137 (fun H locs hP hD hS => ?_)
                have hP : va_P (dC, dI) vwCl [(mq, .inr (12, mF (upd (upd (upd g 7 m_next_e) 8 5) 9 (f_tape ((g 7).toNatClampNeg))) gl rf)), (eA0 (rf 0) (ck 0) 900 f_tape)] H := hP
                have hD : va_D A [(mq, .inr (12, mF (upd (upd (upd g 7 m_next_e) 8 5) 9 (f_tape ((g 7).toNatClampNeg))) gl rf)), (eA0 (rf 0) (ck 0) 900 f_tape)] := hD
                refine lv_aload_n hx hb dX12_signToken_140 rfl (lv_at hl 3 rfl) ?_
                refine lv_aload_n hx hb dX12_signToken_141 rfl (lv_at hl 3 rfl) ?_
                refine va_get (D := (dC, dI)) (ci := 12) (v := .int (f_tape ((g 7).toNatClampNeg))) (C := RX12) (T := TX12) (N := 76) hx hb htw inlX12 hown hK hP 0 rfl rfl 9 (by decide) (htw _ (ck_24 _ (List.mem_of_getElem? (i := 19) rfl))) (fun _ h9 => h9) rfl dX12_signToken_142 ?_
                refine lv_bipush (v := 61) hx hb dX12_signToken_145 (by decide) ?_
                obtain ⟨X_63, hX_63⟩ : ∃ X9 : (Int32), X9 = fq_signToken_f3 := ⟨_, rfl⟩
                have hjoin_64 : ∀ (S0f : Int32)  (hE9 : X_63 = S0f) (H : Heap) (locs : List Loc) (ls : Array Slot) (hP : va_P (dC, dI) vwCl [(mq, .inr (12, mF (upd (upd (upd g 7 m_next_e) 8 5) 9 (f_tape ((g 7).toNatClampNeg))) gl rf)), (eA0 (rf 0) (ck 0) 900 f_tape)] H) (hD : va_D A [(mq, .inr (12, mF (upd (upd (upd g 7 m_next_e) 8 5) 9 (f_tape ((g 7).toNatClampNeg))) gl rf)), (eA0 (rf 0) (ck 0) 900 f_tape)]) (hS : va_S A s.heap H locs) (hl : lv_has ls 4 [(3, .int S0d), (2, .int S0b), (1, .int S0a), (0, .ref mq)]), W p l e (headSpec (Cond.code yX12_signToken cX12_signToken 4 none :: wsL_law) ({ frames := 0, cells := 0, slots := 0, locals := 0 })).room s m ([.ref mq] : List Value).toArray below meth c H locs 0 0 (MQ below (va_Qv (fun (u : (Int32) × (Int32) × (Int32)) => (u = fq_signToken f_tape (g 6) (g 7)) ∧ (¬ u.1 < 0) ∧ (u.1 ≤ (g 6))) (fun (u : (Int32) × (Int32) × (Int32)) t => va_P (dC, dI) vwCl [(mq, .inr (12, mF (upd (upd (upd g 7 u.1) 8 u.2.1) 9 u.2.2) gl rf)), (eA0 (rf 0) (ck 0) 900 f_tape)] t.heap ∧ va_K (dC, dI) vwCl [] t ∧ va_D A [(mq, .inr (12, mF (upd (upd (upd g 7 u.1) 8 u.2.1) 9 u.2.2) gl rf)), (eA0 (rf 0) (ck 0) 900 f_tape)]) A) ([.ref mq] : List Value).toArray s 0 0 A) (F0 m 192 ls [.int S0f, .ref mq]) := by
                  intro S0f  hE9 H locs ls hP hD hS hl
                  have hq_S0f : S0f = X_63 := by rw [hE9]
                  refine va_put (D := (dC, dI)) (ci := 12) (v := .int S0f) (ty := tyX12 9) (C := RX12) (T := TX12) (N := 76) hx hb htw inlX12 tyX12 tyX12_ok nmX12 hown hK hP hD hS 0 rfl rfl 9 (by decide) (htw _ (ck_24 _ (List.mem_of_getElem? (i := 19) rfl))) (fun _ h9 => h9) rfl (tyX12_ok 9 (by decide)) rfl rfl (Nat.le_of_ble_eq_true rfl) dX12_signToken_192 (fun H locs hP hD hS => ?_)
                  have hP : va_P (dC, dI) vwCl [(mq, .inr (12, mF (upd (upd (upd g 7 m_next_e) 8 5) 9 S0f) gl rf)), (eA0 (rf 0) (ck 0) 900 f_tape)] H := hP
                  have hD : va_D A [(mq, .inr (12, mF (upd (upd (upd g 7 m_next_e) 8 5) 9 S0f) gl rf)), (eA0 (rf 0) (ck 0) 900 f_tape)] := hD
                  refine lv_goto (tgt := 290) hx hb dX12_signToken_195 (by decide) ?_
                  refine W.widen (k := 0) (n := 0) (by omega) (by omega) ?_
                  have hP9 := hP
                  have hD9 := hD
                  have hK9 := hK.sub (tys' := []) [] rfl
                  exact W.vret hx hb hr (fun t ht hW => ⟨⟨(m_next_e, 5, S0f), rfl, ⟨(Eq.symm ((by rw [fq_signToken]; (try rw [if_neg c_1]); (try rw [if_neg c_23]); (try rw [if_pos c_43]); (try rw [← hX_55]); (try rw [xL_eq]); (try rw [← hq_S0a]); (try rw [← hX_57]); (try rw [xL_eq]); (try rw [← hq_S0b]); (try rw [← hX_59]); (try rw [xL_eq]); (try rw [← hq_S0d]); (try rw [← hX_61]); (try rw [xL_eq]); (try rw [← hq_m_next_e]); (try rw [← hX_63]); (try rw [xL_eq]); (try rw [← hq_S0f]); try rfl))), (gq_signToken_s23 (y0 := m_next_e) (y1 := g 6) (y2 := g 7) hj0 hj1 h0n hs9 hlt), (gq_signToken_s24 (y0 := m_next_e) (y1 := g 6) (y2 := g 7) hj0 hj1 h0n hs9 hlt)⟩, by rw [ht]; exact hP9, va_K.moved hW.alike hK9, hD9⟩, hS.F ht⟩) hS.2.2 dX12_signToken_290
                refine lv_icmp_ne (tgt := 154) hx hb dX12_signToken_147 (by decide) (fun c_65 => absurd c_65 (fun h9 => h9 c_43)) (fun c_65 => ?_)
                refine lv_iconst (v := 2) hx hb dX12_signToken_150 (by decide) ?_
                refine lv_goto (tgt := 192) hx hb dX12_signToken_151 (by decide) ?_
                exact hjoin_64 (2 : Int32)  (hX_63.trans (by rw [fq_signToken_f3])) _ _ ls hP hD hS (lv_sub hl [0, 1, 2, 3] rfl)
              refine lv_if_ne (tgt := 125) hx hb dX12_signToken_118 (by decide) (fun c_66 => ?_) (fun c_66 => ?_)
              · refine lv_aload_n hx hb dX12_signToken_125 rfl (lv_at hl 3 rfl) ?_
                refine lv_dup hx hb dX12_signToken_126 rfl ?_
                refine va_get (D := (dC, dI)) (ci := 12) (v := .int ((g 7) + 1)) (C := RX12) (T := TX12) (N := 76) hx hb htw inlX12 hown hK hP 0 rfl rfl 7 (by decide) (htw _ (ck_24 _ (List.mem_of_getElem? (i := 12) rfl))) (fun _ h9 => h9) rfl dX12_signToken_127 ?_
                refine lv_iconst (v := 1) hx hb dX12_signToken_130 (by decide) ?_
                refine lv_iadd hx hb dX12_signToken_131 ?_
                refine va_put (D := (dC, dI)) (ci := 12) (v := .int (((g 7) + 1) + 1)) (ty := tyX12 7) (C := RX12) (T := TX12) (N := 76) hx hb htw inlX12 tyX12 tyX12_ok nmX12 hown hK hP hD hS 0 rfl rfl 7 (by decide) (htw _ (ck_24 _ (List.mem_of_getElem? (i := 12) rfl))) (fun _ h9 => h9) rfl (tyX12_ok 7 (by decide)) rfl rfl (Nat.le_of_ble_eq_true rfl) dX12_signToken_132 (fun H locs hP hD hS => ?_)
                have hP : va_P (dC, dI) vwCl [(mq, .inr (12, mF (upd (upd g 7 (((g 7) + 1) + 1)) 9 (f_tape ((g 7).toNatClampNeg))) gl rf)), (eA0 (rf 0) (ck 0) 900 f_tape)] H := hP
                have hD : va_D A [(mq, .inr (12, mF (upd (upd g 7 (((g 7) + 1) + 1)) 9 (f_tape ((g 7).toNatClampNeg))) gl rf)), (eA0 (rf 0) (ck 0) 900 f_tape)] := hD
                exact hjoin_62 (((g 7) + 1) + 1) (gq_signToken_s25 (y0 := g 7) (y1 := g 6) (hja.resolve_left (by rw [hjb.resolve_left c_66]; decide)) h0n hs9 hlt) (gq_signToken_s26 (y0 := g 7) (y1 := g 6) (hja.resolve_left (by rw [hjb.resolve_left c_66]; decide)) h0n hs9 hlt) (hX_61.trans (by rw [fq_signToken_e3]; (try rw [if_neg c_66]); try rfl)) _ _ ls hP hD hS (lv_sub hl [0, 1, 2, 3] rfl)
              · refine lv_iload_n hx hb dX12_signToken_121 rfl (lv_at hl 0 rfl) ?_
                refine lv_if_eq (tgt := 135) hx hb dX12_signToken_122 (by decide) (fun c_67 => ?_) (fun c_67 => ?_)
                · exact hjoin_62 ((g 7) + 1) (gq_signToken_s27 (y0 := g 7) (y1 := g 6) h0n hs9 hlt) (gq_signToken_s28 (y0 := g 7) (y1 := g 6) h0n hs9 hlt) (hX_61.trans (by rw [fq_signToken_e3]; (try rw [if_pos c_66]); (try rw [if_pos c_67]); try rfl)) _ _ ls hP hD hS (lv_sub hl [0, 1, 2, 3] rfl)
                · refine lv_aload_n hx hb dX12_signToken_125 rfl (lv_at hl 3 rfl) ?_
                  refine lv_dup hx hb dX12_signToken_126 rfl ?_
                  refine va_get (D := (dC, dI)) (ci := 12) (v := .int ((g 7) + 1)) (C := RX12) (T := TX12) (N := 76) hx hb htw inlX12 hown hK hP 0 rfl rfl 7 (by decide) (htw _ (ck_24 _ (List.mem_of_getElem? (i := 12) rfl))) (fun _ h9 => h9) rfl dX12_signToken_127 ?_
                  refine lv_iconst (v := 1) hx hb dX12_signToken_130 (by decide) ?_
                  refine lv_iadd hx hb dX12_signToken_131 ?_
                  refine va_put (D := (dC, dI)) (ci := 12) (v := .int (((g 7) + 1) + 1)) (ty := tyX12 7) (C := RX12) (T := TX12) (N := 76) hx hb htw inlX12 tyX12 tyX12_ok nmX12 hown hK hP hD hS 0 rfl rfl 7 (by decide) (htw _ (ck_24 _ (List.mem_of_getElem? (i := 12) rfl))) (fun _ h9 => h9) rfl (tyX12_ok 7 (by decide)) rfl rfl (Nat.le_of_ble_eq_true rfl) dX12_signToken_132 (fun H locs hP hD hS => ?_)
                  have hP : va_P (dC, dI) vwCl [(mq, .inr (12, mF (upd (upd g 7 (((g 7) + 1) + 1)) 9 (f_tape ((g 7).toNatClampNeg))) gl rf)), (eA0 (rf 0) (ck 0) 900 f_tape)] H := hP
                  have hD : va_D A [(mq, .inr (12, mF (upd (upd g 7 (((g 7) + 1) + 1)) 9 (f_tape ((g 7).toNatClampNeg))) gl rf)), (eA0 (rf 0) (ck 0) 900 f_tape)] := hD
                  exact hjoin_62 (((g 7) + 1) + 1) (gq_signToken_s29 (y0 := g 7) (y1 := g 6) (hja.resolve_left (by rw [hjd.resolve_left c_67]; decide)) h0n hs9 hlt) (gq_signToken_s30 (y0 := g 7) (y1 := g 6) (hja.resolve_left (by rw [hjd.resolve_left c_67]; decide)) h0n hs9 hlt) (hX_61.trans (by rw [fq_signToken_e3]; (try rw [if_pos c_66]); (try rw [if_neg c_67]); try rfl)) _ _ ls hP hD hS (lv_sub hl [0, 1, 2, 3] rfl)
            refine lv_icmp_ne (tgt := 115) hx hb dX12_signToken_102 (by decide) (fun c_68 => ?_) (fun c_68 => absurd c_68 (fun h9 => absurd h9 c_1))
            refine lv_iconst (v := 0) hx hb dX12_signToken_115 (by decide) ?_
            exact hjoin_60 (0 : Int32) (Or.inl rfl) (hX_59.trans (by rw [fq_signToken_d3])) _ _ ls hP hD hS (lv_sub hl [0, 1, 2] rfl)
          refine lv_icmp_eq (tgt := 94) hx hb dX12_signToken_81 (by decide) (fun c_69 => ?_) (fun c_69 => absurd c_69 (fun h9 => h9 c_43))
          refine lv_iconst (v := 0) hx hb dX12_signToken_94 (by decide) ?_
          exact hjoin_58 (0 : Int32) (Or.inl rfl) (hX_57.trans (by rw [fq_signToken_b3])) _ _ ls hP hD hS (lv_sub hl [0, 1] rfl)
        refine lv_icmp_ge (tgt := 73) hx hb dX12_signToken_58 (by decide) (fun c_70 => ?_) (fun c_70 => ?_)
        · refine lv_iconst (v := 0) hx hb dX12_signToken_73 (by decide) ?_
          exact hjoin_56 (0 : Int32) (Or.inl rfl) (hX_55.trans (by rw [fq_signToken_a3]; (try rw [if_pos c_70]); try rfl)) _ _ ls hP hD hS (lv_sub hl [0] rfl)
        · refine lv_aload_n hx hb dX12_signToken_61 rfl (lv_at hl 0 rfl) ?_
          refine va_get (D := (dC, dI)) (ci := 12) (v := .ref (rf 0)) (C := RX12) (T := TX12) (N := 76) hx hb htw inlX12 hown hK hP 0 rfl rfl 0 (by decide) (htw _ (ck_9 _ (List.mem_of_getElem? (i := 4) rfl))) (fun _ h9 => h9) rfl dX12_signToken_62 ?_
          refine lv_aload_n hx hb dX12_signToken_65 rfl (lv_at hl 0 rfl) ?_
          refine va_get (D := (dC, dI)) (ci := 12) (v := .int ((g 7) + 1)) (C := RX12) (T := TX12) (N := 76) hx hb htw inlX12 hown hK hP 0 rfl rfl 7 (by decide) (htw _ (ck_24 _ (List.mem_of_getElem? (i := 12) rfl))) (fun _ h9 => h9) rfl dX12_signToken_66 ?_
          refine va_iald hx hb hK hP 1 0 rfl rfl (xg_inr (N := 900) rfl (gq_signToken_s31 (y0 := g 7) (y1 := g 6) c_70 h0n hs9 hlt).1 (gq_signToken_s31 (y0 := g 7) (y1 := g 6) c_70 h0n hs9 hlt).2) dX12_signToken_69 ?_
          refine lv_goto (tgt := 74) hx hb dX12_signToken_70 (by decide) ?_
          exact hjoin_56 (f_tape (((g 7) + 1).toNatClampNeg)) (Or.inr (Int32.not_le.mp c_70)) (hX_55.trans (by rw [fq_signToken_a3]; (try rw [if_neg c_70]); try rfl)) _ _ ls hP hD hS (lv_sub hl [0] rfl)
