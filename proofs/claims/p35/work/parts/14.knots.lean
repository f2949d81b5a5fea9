def fr_holds (a0 : Int32) (a1 : Int64) (a2 : Int64) : Int32 := (if a0 = 19 then (if lg_cmp a1 0 = 0 then (if lg_cmp a2 0 = 0 then (0 : Int32) else (1 : Int32)) else (1 : Int32)) else (if a0 = 20 then (if lg_cmp a1 0 = 0 then (0 : Int32) else (if lg_cmp a2 0 = 0 then (0 : Int32) else (1 : Int32))) else (if a0 = 21 then (if lg_cmp a1 a2 ≤ 0 then (0 : Int32) else (1 : Int32)) else (if a0 = 22 then (if lg_cmp a1 a2 ≤ 0 then (0 : Int32) else (1 : Int32)) else (if a0 = 23 then (if lg_cmp a1 a2 ≤ 0 then (0 : Int32) else (1 : Int32)) else (if a0 = 24 then (if lg_cmp a1 a2 ≤ 0 then (0 : Int32) else (1 : Int32)) else (if a0 = 25 then (if lg_cmp a1 a2 ≤ 0 then (0 : Int32) else (1 : Int32)) else (if a0 = 26 then (if lg_cmp a1 a2 ≤ 0 then (0 : Int32) else (1 : Int32)) else (if a0 = 27 then (if lg_cmp a1 a2 ≤ 0 then (0 : Int32) else (1 : Int32)) else (if a0 = 28 then (if lg_cmp a1 a2 ≤ 0 then (0 : Int32) else (1 : Int32)) else (if a0 = 29 then (if lg_cmp a1 a2 ≤ 0 then (0 : Int32) else (1 : Int32)) else (if a0 = 30 then (if lg_cmp a1 a2 ≤ 0 then (0 : Int32) else (1 : Int32)) else (if a0 = 31 then (if lg_cmp a1 a2 ≤ 0 then (0 : Int32) else (1 : Int32)) else (if a0 = 32 then (if lg_cmp a1 a2 ≤ 0 then (0 : Int32) else (1 : Int32)) else (if a0 = 33 then (if 0 ≤ lg_cmp a1 a2 then (0 : Int32) else (1 : Int32)) else (if a0 = 34 then (if 0 < lg_cmp a1 a2 then (0 : Int32) else (1 : Int32)) else (if a0 = 35 then (if lg_cmp a1 a2 = 0 then (1 : Int32) else (0 : Int32)) else (if a0 = 36 then (if lg_cmp a1 a2 = 0 then (0 : Int32) else (1 : Int32)) else (if a0 = 37 then (if lg_cmp a1 a2 < 0 then (0 : Int32) else (1 : Int32)) else (if lg_cmp a1 a2 ≤ 0 then (0 : Int32) else (1 : Int32)))))))))))))))))))))
theorem dX8_holds_0 : decode cX8_holds 0 = .ok (.iload_n 0, 1) := zk_26 (by decide +kernel)
theorem dX8_holds_1 : decode cX8_holds 1 = .ok (.tableswitch 187 19 37 #[91, 109, 187, 187, 187, 187, 187, 187, 187, 187, 187, 187, 187, 187, 127, 139, 151, 163, 175], 91) := by decide +kernel
theorem dX8_holds_92 : decode cX8_holds 92 = .ok (.lload_n 1, 1) := zk_31 (by decide +kernel)
theorem dX8_holds_93 : decode cX8_holds 93 = .ok (.lconst 0, 1) := zk_9 (by decide +kernel)
theorem dX8_holds_94 : decode cX8_holds 94 = .ok (.lcmp, 1) := zk_148 (by decide +kernel)
theorem dX8_holds_95 : decode cX8_holds 95 = .ok (.ifCond .ne 9, 3) := zk_154 (by decide +kernel)
theorem dX8_holds_104 : decode cX8_holds 104 = .ok (.iconst 1, 1) := zk_4 (by decide +kernel)
theorem dX8_holds_105 : decode cX8_holds 105 = .ok (.goto 4, 3) := zk_167 (by decide +kernel)
theorem dX8_holds_109 : decode cX8_holds 109 = .ok (.ireturn, 1) := zk_172 (by decide +kernel)
theorem dX8_holds_98 : decode cX8_holds 98 = .ok (.lload_n 3, 1) := zk_33 (by decide +kernel)
theorem dX8_holds_99 : decode cX8_holds 99 = .ok (.lconst 0, 1) := zk_9 (by decide +kernel)
theorem dX8_holds_100 : decode cX8_holds 100 = .ok (.lcmp, 1) := zk_148 (by decide +kernel)
theorem dX8_holds_101 : decode cX8_holds 101 = .ok (.ifCond .eq 7, 3) := zk_153 (by decide +kernel)
theorem dX8_holds_108 : decode cX8_holds 108 = .ok (.iconst 0, 1) := zk_3 (by decide +kernel)
theorem dX8_holds_110 : decode cX8_holds 110 = .ok (.lload_n 1, 1) := zk_31 (by decide +kernel)
theorem dX8_holds_111 : decode cX8_holds 111 = .ok (.lconst 0, 1) := zk_9 (by decide +kernel)
theorem dX8_holds_112 : decode cX8_holds 112 = .ok (.lcmp, 1) := zk_148 (by decide +kernel)
theorem dX8_holds_113 : decode cX8_holds 113 = .ok (.ifCond .eq 13, 3) := zk_153 (by decide +kernel)
theorem dX8_holds_126 : decode cX8_holds 126 = .ok (.iconst 0, 1) := zk_3 (by decide +kernel)
theorem dX8_holds_127 : decode cX8_holds 127 = .ok (.ireturn, 1) := zk_172 (by decide +kernel)
theorem dX8_holds_116 : decode cX8_holds 116 = .ok (.lload_n 3, 1) := zk_33 (by decide +kernel)
theorem dX8_holds_117 : decode cX8_holds 117 = .ok (.lconst 0, 1) := zk_9 (by decide +kernel)
theorem dX8_holds_118 : decode cX8_holds 118 = .ok (.lcmp, 1) := zk_148 (by decide +kernel)
theorem dX8_holds_119 : decode cX8_holds 119 = .ok (.ifCond .eq 7, 3) := zk_153 (by decide +kernel)
theorem dX8_holds_122 : decode cX8_holds 122 = .ok (.iconst 1, 1) := zk_4 (by decide +kernel)
theorem dX8_holds_123 : decode cX8_holds 123 = .ok (.goto 4, 3) := zk_167 (by decide +kernel)
theorem dX8_holds_188 : decode cX8_holds 188 = .ok (.lload_n 1, 1) := zk_31 (by decide +kernel)
theorem dX8_holds_189 : decode cX8_holds 189 = .ok (.lload_n 3, 1) := zk_33 (by decide +kernel)
theorem dX8_holds_190 : decode cX8_holds 190 = .ok (.lcmp, 1) := zk_148 (by decide +kernel)
theorem dX8_holds_191 : decode cX8_holds 191 = .ok (.ifCond .le 7, 3) := zk_158 (by decide +kernel)
theorem dX8_holds_198 : decode cX8_holds 198 = .ok (.iconst 0, 1) := zk_3 (by decide +kernel)
theorem dX8_holds_199 : decode cX8_holds 199 = .ok (.ireturn, 1) := zk_172 (by decide +kernel)
theorem dX8_holds_194 : decode cX8_holds 194 = .ok (.iconst 1, 1) := zk_4 (by decide +kernel)
theorem dX8_holds_195 : decode cX8_holds 195 = .ok (.goto 4, 3) := zk_167 (by decide +kernel)
theorem dX8_holds_128 : decode cX8_holds 128 = .ok (.lload_n 1, 1) := zk_31 (by decide +kernel)
theorem dX8_holds_129 : decode cX8_holds 129 = .ok (.lload_n 3, 1) := zk_33 (by decide +kernel)
theorem dX8_holds_130 : decode cX8_holds 130 = .ok (.lcmp, 1) := zk_148 (by decide +kernel)
theorem dX8_holds_131 : decode cX8_holds 131 = .ok (.ifCond .ge 7, 3) := zk_156 (by decide +kernel)
theorem dX8_holds_138 : decode cX8_holds 138 = .ok (.iconst 0, 1) := zk_3 (by decide +kernel)
theorem dX8_holds_139 : decode cX8_holds 139 = .ok (.ireturn, 1) := zk_172 (by decide +kernel)
theorem dX8_holds_134 : decode cX8_holds 134 = .ok (.iconst 1, 1) := zk_4 (by decide +kernel)
theorem dX8_holds_135 : decode cX8_holds 135 = .ok (.goto 4, 3) := zk_167 (by decide +kernel)
theorem dX8_holds_140 : decode cX8_holds 140 = .ok (.lload_n 1, 1) := zk_31 (by decide +kernel)
theorem dX8_holds_141 : decode cX8_holds 141 = .ok (.lload_n 3, 1) := zk_33 (by decide +kernel)
theorem dX8_holds_142 : decode cX8_holds 142 = .ok (.lcmp, 1) := zk_148 (by decide +kernel)
theorem dX8_holds_143 : decode cX8_holds 143 = .ok (.ifCond .gt 7, 3) := zk_157 (by decide +kernel)
theorem dX8_holds_150 : decode cX8_holds 150 = .ok (.iconst 0, 1) := zk_3 (by decide +kernel)
theorem dX8_holds_151 : decode cX8_holds 151 = .ok (.ireturn, 1) := zk_172 (by decide +kernel)
theorem dX8_holds_146 : decode cX8_holds 146 = .ok (.iconst 1, 1) := zk_4 (by decide +kernel)
theorem dX8_holds_147 : decode cX8_holds 147 = .ok (.goto 4, 3) := zk_167 (by decide +kernel)
theorem dX8_holds_152 : decode cX8_holds 152 = .ok (.lload_n 1, 1) := zk_31 (by decide +kernel)
theorem dX8_holds_153 : decode cX8_holds 153 = .ok (.lload_n 3, 1) := zk_33 (by decide +kernel)
theorem dX8_holds_154 : decode cX8_holds 154 = .ok (.lcmp, 1) := zk_148 (by decide +kernel)
theorem dX8_holds_155 : decode cX8_holds 155 = .ok (.ifCond .ne 7, 3) := zk_154 (by decide +kernel)
theorem dX8_holds_162 : decode cX8_holds 162 = .ok (.iconst 0, 1) := zk_3 (by decide +kernel)
theorem dX8_holds_163 : decode cX8_holds 163 = .ok (.ireturn, 1) := zk_172 (by decide +kernel)
theorem dX8_holds_158 : decode cX8_holds 158 = .ok (.iconst 1, 1) := zk_4 (by decide +kernel)
theorem dX8_holds_159 : decode cX8_holds 159 = .ok (.goto 4, 3) := zk_167 (by decide +kernel)
theorem dX8_holds_164 : decode cX8_holds 164 = .ok (.lload_n 1, 1) := zk_31 (by decide +kernel)
theorem dX8_holds_165 : decode cX8_holds 165 = .ok (.lload_n 3, 1) := zk_33 (by decide +kernel)
theorem dX8_holds_166 : decode cX8_holds 166 = .ok (.lcmp, 1) := zk_148 (by decide +kernel)
theorem dX8_holds_167 : decode cX8_holds 167 = .ok (.ifCond .eq 7, 3) := zk_153 (by decide +kernel)
theorem dX8_holds_174 : decode cX8_holds 174 = .ok (.iconst 0, 1) := zk_3 (by decide +kernel)
theorem dX8_holds_175 : decode cX8_holds 175 = .ok (.ireturn, 1) := zk_172 (by decide +kernel)
theorem dX8_holds_170 : decode cX8_holds 170 = .ok (.iconst 1, 1) := zk_4 (by decide +kernel)
theorem dX8_holds_171 : decode cX8_holds 171 = .ok (.goto 4, 3) := zk_167 (by decide +kernel)
theorem dX8_holds_176 : decode cX8_holds 176 = .ok (.lload_n 1, 1) := zk_31 (by decide +kernel)
theorem dX8_holds_177 : decode cX8_holds 177 = .ok (.lload_n 3, 1) := zk_33 (by decide +kernel)
theorem dX8_holds_178 : decode cX8_holds 178 = .ok (.lcmp, 1) := zk_148 (by decide +kernel)
theorem dX8_holds_179 : decode cX8_holds 179 = .ok (.ifCond .lt 7, 3) := zk_155 (by decide +kernel)
theorem dX8_holds_186 : decode cX8_holds 186 = .ok (.iconst 0, 1) := zk_3 (by decide +kernel)
theorem dX8_holds_187 : decode cX8_holds 187 = .ok (.ireturn, 1) := zk_172 (by decide +kernel)
theorem dX8_holds_182 : decode cX8_holds 182 = .ok (.iconst 1, 1) := zk_4 (by decide +kernel)
theorem dX8_holds_183 : decode cX8_holds 183 = .ok (.goto 4, 3) := zk_167 (by decide +kernel)
set_option maxHeartbeats 4000000 in
set_option maxRecDepth 100000 in
theorem gr_holds (l : Launch) (dC : Nat → ClassId) (dI : Nat → Nat → Nat) (a0 : Int32) (a1 : Int64) (a2 : Int64) : Met l yX8_holds (Cond.code yX8_holds cX8_holds 5 (some .boolean) :: wsL_law) ({ frames := 0, cells := 0, slots := 0, locals := 0 }) (va_Pc [.int a0, .long a1, .long a2] (fun U => va_P (dC, dI) vwCl [] U.heap ∧ va_K (dC, dI) vwCl [] U)) (vp_Si (fun r => r = fr_holds a0 a1 a2)) 0 0 (fun _ => False) := by
  refine Met.ofW (cc := cX8_holds) (maxL := 5) (ret := (some .boolean)) (by decide) rfl ?_
  intro p e s m args below meth c s₁ B hml hv
  obtain ⟨rfl, hP, hK⟩ := hv
  have hx := B.exec
  have hb := B.bytes
  have hr := B.returns
  have hts := atoms_spec (ws := Cond.code yX8_holds cX8_holds 5 (some .boolean) :: wsL_law) B.pre
  have htw : ∀ w ∈ wsL_law, w.before _ s = true := fun w h => hts w (List.mem_cons_of_mem _ h)
  have hown : s.vm.findClass RX8 = some m.cls := findClass_of_methodNamed B.named
  have hlocks := B.notSynchronized
  have hl := lv_entry ([.int a0, .long a1, .long a2]) (n := 5) (Nat.le_of_ble_eq_true rfl)
  rw [lg_entry_eq]
  generalize (lg_sl ([.int a0, .long a1, .long a2]) ++ List.replicate (5 - (lg_sl ([.int a0, .long a1, .long a2])).length) Slot.unset).toArray = ls at hl ⊢
  have hl : lv_has ls 5 [(0, .int a0), (1, .long a1), (3, .long a2)] := hl
  refine lv_iload_n hx hb dX8_holds_0 rfl (lv_at hl 0 rfl) ?_
  by_cases h_1 : a0 = 19
  · subst h_1
    refine lv_tableIn (off := 91) (tgt := 92) hx hb dX8_holds_1 (by decide) (by decide) (by decide) (by decide) ?_
    refine lv_lload_n hx hb dX8_holds_92 rfl (lv_at hl 1 rfl) ?_
    refine lv_lconst (v := 0) hx hb dX8_holds_93 (by decide) ?_
    refine W.lcmp hx hb dX8_holds_94 ?_
    refine lv_if_ne (tgt := 104) hx hb dX8_holds_95 (by decide) (fun c_2 => ?_) (fun c_2 => ?_)
    · refine lv_iconst (v := 1) hx hb dX8_holds_104 (by decide) ?_
      refine lv_goto (tgt := 109) hx hb dX8_holds_105 (by decide) ?_
      exact W.zret (v := 1) hx hb hr (by first | rfl | decide) (fun t ht hW => ⟨1, rfl, (by rw [fr_holds]; (try rw [if_pos rfl]); (try rw [if_neg c_2]); try rfl), ht⟩) (fun _ h => by cases h) dX8_holds_109
    · refine lv_lload_n hx hb dX8_holds_98 rfl (lv_at hl 2 rfl) ?_
      refine lv_lconst (v := 0) hx hb dX8_holds_99 (by decide) ?_
      refine W.lcmp hx hb dX8_holds_100 ?_
      refine lv_if_eq (tgt := 108) hx hb dX8_holds_101 (by decide) (fun c_3 => ?_) (fun c_3 => ?_)
      · refine lv_iconst (v := 0) hx hb dX8_holds_108 (by decide) ?_
        exact W.zret (v := 0) hx hb hr (by first | rfl | decide) (fun t ht hW => ⟨0, rfl, (by rw [fr_holds]; (try rw [if_pos rfl]); (try rw [if_pos c_2]); (try rw [if_pos c_3]); try rfl), ht⟩) (fun _ h => by cases h) dX8_holds_109
      · refine lv_iconst (v := 1) hx hb dX8_holds_104 (by decide) ?_
        refine lv_goto (tgt := 109) hx hb dX8_holds_105 (by decide) ?_
        exact W.zret (v := 1) hx hb hr (by first | rfl | decide) (fun t ht hW => ⟨1, rfl, (by rw [fr_holds]; (try rw [if_pos rfl]); (try rw [if_pos c_2]); (try rw [if_neg c_3]); try rfl), ht⟩) (fun _ h => by cases h) dX8_holds_109
  by_cases h_4 : a0 = 20
  · subst h_4
    refine lv_tableIn (off := 109) (tgt := 110) hx hb dX8_holds_1 (by decide) (by decide) (by decide) (by decide) ?_
    refine lv_lload_n hx hb dX8_holds_110 rfl (lv_at hl 1 rfl) ?_
    refine lv_lconst (v := 0) hx hb dX8_holds_111 (by decide) ?_
    refine W.lcmp hx hb dX8_holds_112 ?_
    refine lv_if_eq (tgt := 126) hx hb dX8_holds_113 (by decide) (fun c_5 => ?_) (fun c_5 => ?_)
    · refine lv_iconst (v := 0) hx hb dX8_holds_126 (by decide) ?_
      exact W.zret (v := 0) hx hb hr (by first | rfl | decide) (fun t ht hW => ⟨0, rfl, (by rw [fr_holds]; (try rw [if_neg h_1]); (try rw [if_pos rfl]); (try rw [if_pos c_5]); try rfl), ht⟩) (fun _ h => by cases h) dX8_holds_127
    · refine lv_lload_n hx hb dX8_holds_116 rfl (lv_at hl 2 rfl) ?_
      refine lv_lconst (v := 0) hx hb dX8_holds_117 (by decide) ?_
      refine W.lcmp hx hb dX8_holds_118 ?_
      refine lv_if_eq (tgt := 126) hx hb dX8_holds_119 (by decide) (fun c_6 => ?_) (fun c_6 => ?_)
      · refine lv_iconst (v := 0) hx hb dX8_holds_126 (by decide) ?_
        exact W.zret (v := 0) hx hb hr (by first | rfl | decide) (fun t ht hW => ⟨0, rfl, (by rw [fr_holds]; (try rw [if_neg h_1]); (try rw [if_pos rfl]); (try rw [if_neg c_5]); (try rw [if_pos c_6]); try rfl), ht⟩) (fun _ h => by cases h) dX8_holds_127
      · refine lv_iconst (v := 1) hx hb dX8_holds_122 (by decide) ?_
        refine lv_goto (tgt := 127) hx hb dX8_holds_123 (by decide) ?_
        exact W.zret (v := 1) hx hb hr (by first | rfl | decide) (fun t ht hW => ⟨1, rfl, (by rw [fr_holds]; (try rw [if_neg h_1]); (try rw [if_pos rfl]); (try rw [if_neg c_5]); (try rw [if_neg c_6]); try rfl), ht⟩) (fun _ h => by cases h) dX8_holds_127
  by_cases h_7 : a0 = 21
  · subst h_7
    refine lv_tableIn (off := 187) (tgt := 188) hx hb dX8_holds_1 (by decide) (by decide) (by decide) (by decide) ?_
    refine lv_lload_n hx hb dX8_holds_188 rfl (lv_at hl 1 rfl) ?_
    refine lv_lload_n hx hb dX8_holds_189 rfl (lv_at hl 2 rfl) ?_
    refine W.lcmp hx hb dX8_holds_190 ?_
    refine lv_if_le (tgt := 198) hx hb dX8_holds_191 (by decide) (fun c_8 => ?_) (fun c_8 => ?_)
    · refine lv_iconst (v := 0) hx hb dX8_holds_198 (by decide) ?_
      exact W.zret (v := 0) hx hb hr (by first | rfl | decide) (fun t ht hW => ⟨0, rfl, (by rw [fr_holds]; (try rw [if_neg h_1]); (try rw [if_neg h_4]); (try rw [if_pos rfl]); (try rw [if_pos c_8]); try rfl), ht⟩) (fun _ h => by cases h) dX8_holds_199
    · refine lv_iconst (v := 1) hx hb dX8_holds_194 (by decide) ?_
      refine lv_goto (tgt := 199) hx hb dX8_holds_195 (by decide) ?_
      exact W.zret (v := 1) hx hb hr (by first | rfl | decide) (fun t ht hW => ⟨1, rfl, (by rw [fr_holds]; (try rw [if_neg h_1]); (try rw [if_neg h_4]); (try rw [if_pos rfl]); (try rw [if_neg c_8]); try rfl), ht⟩) (fun _ h => by cases h) dX8_holds_199
  by_cases h_9 : a0 = 22
  · subst h_9
    refine lv_tableIn (off := 187) (tgt := 188) hx hb dX8_holds_1 (by decide) (by decide) (by decide) (by decide) ?_
    refine lv_lload_n hx hb dX8_holds_188 rfl (lv_at hl 1 rfl) ?_
    refine lv_lload_n hx hb dX8_holds_189 rfl (lv_at hl 2 rfl) ?_
    refine W.lcmp hx hb dX8_holds_190 ?_
    refine lv_if_le (tgt := 198) hx hb dX8_holds_191 (by decide) (fun c_10 => ?_) (fun c_10 => ?_)
    · refine lv_iconst (v := 0) hx hb dX8_holds_198 (by decide) ?_
      exact W.zret (v := 0) hx hb hr (by first | rfl | decide) (fun t ht hW => ⟨0, rfl, (by rw [fr_holds]; (try rw [if_neg h_1]); (try rw [if_neg h_4]); (try rw [if_neg h_7]); (try rw [if_pos rfl]); (try rw [if_pos c_10]); try rfl), ht⟩) (fun _ h => by cases h) dX8_holds_199
    · refine lv_iconst (v := 1) hx hb dX8_holds_194 (by decide) ?_
      refine lv_goto (tgt := 199) hx hb dX8_holds_195 (by decide) ?_
      exact W.zret (v := 1) hx hb hr (by first | rfl | decide) (fun t ht hW => ⟨1, rfl, (by rw [fr_holds]; (try rw [if_neg h_1]); (try rw [if_neg h_4]); (try rw [if_neg h_7]); (try rw [if_pos rfl]); (try rw [if_neg c_10]); try rfl), ht⟩) (fun _ h => by cases h) dX8_holds_199
  by_cases h_11 : a0 = 23
  · subst h_11
    refine lv_tableIn (off := 187) (tgt := 188) hx hb dX8_holds_1 (by decide) (by decide) (by decide) (by decide) ?_
    refine lv_lload_n hx hb dX8_holds_188 rfl (lv_at hl 1 rfl) ?_
    refine lv_lload_n hx hb dX8_holds_189 rfl (lv_at hl 2 rfl) ?_
    refine W.lcmp hx hb dX8_holds_190 ?_
    refine lv_if_le (tgt := 198) hx hb dX8_holds_191 (by decide) (fun c_12 => ?_) (fun c_12 => ?_)
    · refine lv_iconst (v := 0) hx hb dX8_holds_198 (by decide) ?_
      exact W.zret (v := 0) hx hb hr (by first | rfl | decide) (fun t ht hW => ⟨0, rfl, (by rw [fr_holds]; (try rw [if_neg h_1]); (try rw [if_neg h_4]); (try rw [if_neg h_7]); (try rw [if_neg h_9]); (try rw [if_pos rfl]); (try rw [if_pos c_12]); try rfl), ht⟩) (fun _ h => by cases h) dX8_holds_199
    · refine lv_iconst (v := 1) hx hb dX8_holds_194 (by decide) ?_
      refine lv_goto (tgt := 199) hx hb dX8_holds_195 (by decide) ?_
      exact W.zret (v := 1) hx hb hr (by first | rfl | decide) (fun t ht hW => ⟨1, rfl, (by rw [fr_holds]; (try rw [if_neg h_1]); (try rw [if_neg h_4]); (try rw [if_neg h_7]); (try rw [if_neg h_9]); (try rw [if_pos rfl]); (try rw [if_neg c_12]); try rfl), ht⟩) (fun _ h => by cases h) dX8_holds_199
  by_cases h_13 : a0 = 24
  · subst h_13
    refine lv_tableIn (off := 187) (tgt := 188) hx hb dX8_holds_1 (by decide) (by decide) (by decide) (by decide) ?_
    refine lv_lload_n hx hb dX8_holds_188 rfl (lv_at hl 1 rfl) ?_
    refine lv_lload_n hx hb dX8_holds_189 rfl (lv_at hl 2 rfl) ?_
    refine W.lcmp hx hb dX8_holds_190 ?_
    refine lv_if_le (tgt := 198) hx hb dX8_holds_191 (by decide) (fun c_14 => ?_) (fun c_14 => ?_)
    · refine lv_iconst (v := 0) hx hb dX8_holds_198 (by decide) ?_
      exact W.zret (v := 0) hx hb hr (by first | rfl | decide) (fun t ht hW => ⟨0, rfl, (by rw [fr_holds]; (try rw [if_neg h_1]); (try rw [if_neg h_4]); (try rw [if_neg h_7]); (try rw [if_neg h_9]); (try rw [if_neg h_11]); (try rw [if_pos rfl]); (try rw [if_pos c_14]); try rfl), ht⟩) (fun _ h => by cases h) dX8_holds_199
    · refine lv_iconst (v := 1) hx hb dX8_holds_194 (by decide) ?_
      refine lv_goto (tgt := 199) hx hb dX8_holds_195 (by decide) ?_
      exact W.zret (v := 1) hx hb hr (by first | rfl | decide) (fun t ht hW => ⟨1, rfl, (by rw [fr_holds]; (try rw [if_neg h_1]); (try rw [if_neg h_4]); (try rw [if_neg h_7]); (try rw [if_neg h_9]); (try rw [if_neg h_11]); (try rw [if_pos rfl]); (try rw [if_neg c_14]); try rfl), ht⟩) (fun _ h => by cases h) dX8_holds_199
  by_cases h_15 : a0 = 25
  · subst h_15
    refine lv_tableIn (off := 187) (tgt := 188) hx hb dX8_holds_1 (by decide) (by decide) (by decide) (by decide) ?_
    refine lv_lload_n hx hb dX8_holds_188 rfl (lv_at hl 1 rfl) ?_
    refine lv_lload_n hx hb dX8_holds_189 rfl (lv_at hl 2 rfl) ?_
    refine W.lcmp hx hb dX8_holds_190 ?_
    refine lv_if_le (tgt := 198) hx hb dX8_holds_191 (by decide) (fun c_16 => ?_) (fun c_16 => ?_)
    · refine lv_iconst (v := 0) hx hb dX8_holds_198 (by decide) ?_
      exact W.zret (v := 0) hx hb hr (by first | rfl | decide) (fun t ht hW => ⟨0, rfl, (by rw [fr_holds]; (try rw [if_neg h_1]); (try rw [if_neg h_4]); (try rw [if_neg h_7]); (try rw [if_neg h_9]); (try rw [if_neg h_11]); (try rw [if_neg h_13]); (try rw [if_pos rfl]); (try rw [if_pos c_16]); try rfl), ht⟩) (fun _ h => by cases h) dX8_holds_199
    · refine lv_iconst (v := 1) hx hb dX8_holds_194 (by decide) ?_
      refine lv_goto (tgt := 199) hx hb dX8_holds_195 (by decide) ?_
      exact W.zret (v := 1) hx hb hr (by first | rfl | decide) (fun t ht hW => ⟨1, rfl, (by rw [fr_holds]; (try rw [if_neg h_1]); (try rw [if_neg h_4]); (try rw [if_neg h_7]); (try rw [if_neg h_9]); (try rw [if_neg h_11]); (try rw [if_neg h_13]); (try rw [if_pos rfl]); (try rw [if_neg c_16]); try rfl), ht⟩) (fun _ h => by cases h) dX8_holds_199
  by_cases h_17 : a0 = 26
  · subst h_17
    refine lv_tableIn (off := 187) (tgt := 188) hx hb dX8_holds_1 (by decide) (by decide) (by decide) (by decide) ?_
    refine lv_lload_n hx hb dX8_holds_188 rfl (lv_at hl 1 rfl) ?_
    refine lv_lload_n hx hb dX8_holds_189 rfl (lv_at hl 2 rfl) ?_
    refine W.lcmp hx hb dX8_holds_190 ?_
    refine lv_if_le (tgt := 198) hx hb dX8_holds_191 (by decide) (fun c_18 => ?_) (fun c_18 => ?_)
    · refine lv_iconst (v := 0) hx hb dX8_holds_198 (by decide) ?_
      exact W.zret (v := 0) hx hb hr (by first | rfl | decide) (fun t ht hW => ⟨0, rfl, (by rw [fr_holds]; (try rw [if_neg h_1]); (try rw [if_neg h_4]); (try rw [if_neg h_7]); (try rw [if_neg h_9]); (try rw [if_neg h_11]); (try rw [if_neg h_13]); (try rw [if_neg h_15]); (try rw [if_pos rfl]); (try rw [if_pos c_18]); try rfl), ht⟩) (fun _ h => by cases h) dX8_holds_199
    · refine lv_iconst (v := 1) hx hb dX8_holds_194 (by decide) ?_
      refine lv_goto (tgt := 199) hx hb dX8_holds_195 (by decide) ?_
      exact W.zret (v := 1) hx hb hr (by first | rfl | decide) (fun t ht hW => ⟨1, rfl, (by rw [fr_holds]; (try rw [if_neg h_1]); (try rw [if_neg h_4]); (try rw [if_neg h_7]); (try rw [if_neg h_9]); (try rw [if_neg h_11]); (try rw [if_neg h_13]); (try rw [if_neg h_15]); (try rw [if_pos rfl]); (try rw [if_neg c_18]); try rfl), ht⟩) (fun _ h => by cases h) dX8_holds_199
  by_cases h_19 : a0 = 27
  · subst h_19
    refine lv_tableIn (off := 187) (tgt := 188) hx hb dX8_holds_1 (by decide) (by decide) (by decide) (by decide) ?_
    refine lv_lload_n hx hb dX8_holds_188 rfl (lv_at hl 1 rfl) ?_
    refine lv_lload_n hx hb dX8_holds_189 rfl (lv_at hl 2 rfl) ?_
    refine W.lcmp hx hb dX8_holds_190 ?_
    refine lv_if_le (tgt := 198) hx hb dX8_holds_191 (by decide) (fun c_20 => ?_) (fun c_20 => ?_)
    · refine lv_iconst (v := 0) hx hb dX8_holds_198 (by decide) ?_
      exact W.zret (v := 0) hx hb hr (by first | rfl | decide) (fun t ht hW => ⟨0, rfl, (by rw [fr_holds]; (try rw [if_neg h_1]); (try rw [if_neg h_4]); (try rw [if_neg h_7]); (try rw [if_neg h_9]); (try rw [if_neg h_11]); (try rw [if_neg h_13]); (try rw [if_neg h_15]); (try rw [if_neg h_17]); (try rw [if_pos rfl]); (try rw [if_pos c_20]); try rfl), ht⟩) (fun _ h => by cases h) dX8_holds_199
    · refine lv_iconst (v := 1) hx hb dX8_holds_194 (by decide) ?_
      refine lv_goto (tgt := 199) hx hb dX8_holds_195 (by decide) ?_
      exact W.zret (v := 1) hx hb hr (by first | rfl | decide) (fun t ht hW => ⟨1, rfl, (by rw [fr_holds]; (try rw [if_neg h_1]); (try rw [if_neg h_4]); (try rw [if_neg h_7]); (try rw [if_neg h_9]); (try rw [if_neg h_11]); (try rw [if_neg h_13]); (try rw [if_neg h_15]); (try rw [if_neg h_17]); (try rw [if_pos rfl]); (try rw [if_neg c_20]); try rfl), ht⟩) (fun _ h => by cases h) dX8_holds_199
  by_cases h_21 : a0 = 28
  · subst h_21
    refine lv_tableIn (off := 187) (tgt := 188) hx hb dX8_holds_1 (by decide) (by decide) (by decide) (by decide) ?_
    refine lv_lload_n hx hb dX8_holds_188 rfl (lv_at hl 1 rfl) ?_
    refine lv_lload_n hx hb dX8_holds_189 rfl (lv_at hl 2 rfl) ?_
    refine W.lcmp hx hb dX8_holds_190 ?_
    refine lv_if_le (tgt := 198) hx hb dX8_holds_191 (by decide) (fun c_22 => ?_) (fun c_22 => ?_)
    · refine lv_iconst (v := 0) hx hb dX8_holds_198 (by decide) ?_
      exact W.zret (v := 0) hx hb hr (by first | rfl | decide) (fun t ht hW => ⟨0, rfl, (by rw [fr_holds]; (try rw [if_neg h_1]); (try rw [if_neg h_4]); (try rw [if_neg h_7]); (try rw [if_neg h_9]); (try rw [if_neg h_11]); (try rw [if_neg h_13]); (try rw [if_neg h_15]); (try rw [if_neg h_17]); (try rw [if_neg h_19]); (try rw [if_pos rfl]); (try rw [if_pos c_22]); try rfl), ht⟩) (fun _ h => by cases h) dX8_holds_199
    · refine lv_iconst (v := 1) hx hb dX8_holds_194 (by decide) ?_
      refine lv_goto (tgt := 199) hx hb dX8_holds_195 (by decide) ?_
      exact W.zret (v := 1) hx hb hr (by first | rfl | decide) (fun t ht hW => ⟨1, rfl, (by rw [fr_holds]; (try rw [if_neg h_1]); (try rw [if_neg h_4]); (try rw [if_neg h_7]); (try rw [if_neg h_9]); (try rw [if_neg h_11]); (try rw [if_neg h_13]); (try rw [if_neg h_15]); (try rw [if_neg h_17]); (try rw [if_neg h_19]); (try rw [if_pos rfl]); (try rw [if_neg c_22]); try rfl), ht⟩) (fun _ h => by cases h) dX8_holds_199
  by_cases h_23 : a0 = 29
  · subst h_23
    refine lv_tableIn (off := 187) (tgt := 188) hx hb dX8_holds_1 (by decide) (by decide) (by decide) (by decide) ?_
    refine lv_lload_n hx hb dX8_holds_188 rfl (lv_at hl 1 rfl) ?_
    refine lv_lload_n hx hb dX8_holds_189 rfl (lv_at hl 2 rfl) ?_
    refine W.lcmp hx hb dX8_holds_190 ?_
    refine lv_if_le (tgt := 198) hx hb dX8_holds_191 (by decide) (fun c_24 => ?_) (fun c_24 => ?_)
    · refine lv_iconst (v := 0) hx hb dX8_holds_198 (by decide) ?_
      exact W.zret (v := 0) hx hb hr (by first | rfl | decide) (fun t ht hW => ⟨0, rfl, (by rw [fr_holds]; (try rw [if_neg h_1]); (try rw [if_neg h_4]); (try rw [if_neg h_7]); (try rw [if_neg h_9]); (try rw [if_neg h_11]); (try rw [if_neg h_13]); (try rw [if_neg h_15]); (try rw [if_neg h_17]); (try rw [if_neg h_19]); (try rw [if_neg h_21]); (try rw [if_pos rfl]); (try rw [if_pos c_24]); try rfl), ht⟩) (fun _ h => by cases h) dX8_holds_199
    · refine lv_iconst (v := 1) hx hb dX8_holds_194 (by decide) ?_
      refine lv_goto (tgt := 199) hx hb dX8_holds_195 (by decide) ?_
      exact W.zret (v := 1) hx hb hr (by first | rfl | decide) (fun t ht hW => ⟨1, rfl, (by rw [fr_holds]; (try rw [if_neg h_1]); (try rw [if_neg h_4]); (try rw [if_neg h_7]); (try rw [if_neg h_9]); (try rw [if_neg h_11]); (try rw [if_neg h_13]); (try rw [if_neg h_15]); (try rw [if_neg h_17]); (try rw [if_neg h_19]); (try rw [if_neg h_21]); (try rw [if_pos rfl]); (try rw [if_neg c_24]); try rfl), ht⟩) (fun _ h => by cases h) dX8_holds_199
  by_cases h_25 : a0 = 30
  · subst h_25
    refine lv_tableIn (off := 187) (tgt := 188) hx hb dX8_holds_1 (by decide) (by decide) (by decide) (by decide) ?_
    refine lv_lload_n hx hb dX8_holds_188 rfl (lv_at hl 1 rfl) ?_
    refine lv_lload_n hx hb dX8_holds_189 rfl (lv_at hl 2 rfl) ?_
    refine W.lcmp hx hb dX8_holds_190 ?_
    refine lv_if_le (tgt := 198) hx hb dX8_holds_191 (by decide) (fun c_26 => ?_) (fun c_26 => ?_)
    · refine lv_iconst (v := 0) hx hb dX8_holds_198 (by decide) ?_
      exact W.zret (v := 0) hx hb hr (by first | rfl | decide) (fun t ht hW => ⟨0, rfl, (by rw [fr_holds]; (try rw [if_neg h_1]); (try rw [if_neg h_4]); (try rw [if_neg h_7]); (try rw [if_neg h_9]); (try rw [if_neg h_11]); (try rw [if_neg h_13]); (try rw [if_neg h_15]); (try rw [if_neg h_17]); (try rw [if_neg h_19]); (try rw [if_neg h_21]); (try rw [if_neg h_23]); (try rw [if_pos rfl]); (try rw [if_pos c_26]); try rfl), ht⟩) (fun _ h => by cases h) dX8_holds_199
    · refine lv_iconst (v := 1) hx hb dX8_holds_194 (by decide) ?_
      refine lv_goto (tgt := 199) hx hb dX8_holds_195 (by decide) ?_
      exact W.zret (v := 1) hx hb hr (by first | rfl | decide) (fun t ht hW => ⟨1, rfl, (by rw [fr_holds]; (try rw [if_neg h_1]); (try rw [if_neg h_4]); (try rw [if_neg h_7]); (try rw [if_neg h_9]); (try rw [if_neg h_11]); (try rw [if_neg h_13]); (try rw [if_neg h_15]); (try rw [if_neg h_17]); (try rw [if_neg h_19]); (try rw [if_neg h_21]); (try rw [if_neg h_23]); (try rw [if_pos rfl]); (try rw [if_neg c_26]); try rfl), ht⟩) (fun _ h => by cases h) dX8_holds_199
  by_cases h_27 : a0 = 31
  · subst h_27
    refine lv_tableIn (off := 187) (tgt := 188) hx hb dX8_holds_1 (by decide) (by decide) (by decide) (by decide) ?_
    refine lv_lload_n hx hb dX8_holds_188 rfl (lv_at hl 1 rfl) ?_
    refine lv_lload_n hx hb dX8_holds_189 rfl (lv_at hl 2 rfl) ?_
    refine W.lcmp hx hb dX8_holds_190 ?_
    refine lv_if_le (tgt := 198) hx hb dX8_holds_191 (by decide) (fun c_28 => ?_) (fun c_28 => ?_)
    · refine lv_iconst (v := 0) hx hb dX8_holds_198 (by decide) ?_
      exact W.zret (v := 0) hx hb hr (by first | rfl | decide) (fun t ht hW => ⟨0, rfl, (by rw [fr_holds]; (try rw [if_neg h_1]); (try rw [if_neg h_4]); (try rw [if_neg h_7]); (try rw [if_neg h_9]); (try rw [if_neg h_11]); (try rw [if_neg h_13]); (try rw [if_neg h_15]); (try rw [if_neg h_17]); (try rw [if_neg h_19]); (try rw [if_neg h_21]); (try rw [if_neg h_23]); (try rw [if_neg h_25]); (try rw [if_pos rfl]); (try rw [if_pos c_28]); try rfl), ht⟩) (fun _ h => by cases h) dX8_holds_199
    · refine lv_iconst (v := 1) hx hb dX8_holds_194 (by decide) ?_
      refine lv_goto (tgt := 199) hx hb dX8_holds_195 (by decide) ?_
      exact W.zret (v := 1) hx hb hr (by first | rfl | decide) (fun t ht hW => ⟨1, rfl, (by rw [fr_holds]; (try rw [if_neg h_1]); (try rw [if_neg h_4]); (try rw [if_neg h_7]); (try rw [if_neg h_9]); (try rw [if_neg h_11]); (try rw [if_neg h_13]); (try rw [if_neg h_15]); (try rw [if_neg h_17]); (try rw [if_neg h_19]); (try rw [if_neg h_21]); (try rw [if_neg h_23]); (try rw [if_neg h_25]); (try rw [if_pos rfl]); (try rw [if_neg c_28]); try rfl), ht⟩) (fun _ h => by cases h) dX8_holds_199
  by_cases h_29 : a0 = 32
  · subst h_29
    refine lv_tableIn (off := 187) (tgt := 188) hx hb dX8_holds_1 (by decide) (by decide) (by decide) (by decide) ?_
    refine lv_lload_n hx hb dX8_holds_188 rfl (lv_at hl 1 rfl) ?_
    refine lv_lload_n hx hb dX8_holds_189 rfl (lv_at hl 2 rfl) ?_
    refine W.lcmp hx hb dX8_holds_190 ?_
    refine lv_if_le (tgt := 198) hx hb dX8_holds_191 (by decide) (fun c_30 => ?_) (fun c_30 => ?_)
    · refine lv_iconst (v := 0) hx hb dX8_holds_198 (by decide) ?_
      exact W.zret (v := 0) hx hb hr (by first | rfl | decide) (fun t ht hW => ⟨0, rfl, (by rw [fr_holds]; (try rw [if_neg h_1]); (try rw [if_neg h_4]); (try rw [if_neg h_7]); (try rw [if_neg h_9]); (try rw [if_neg h_11]); (try rw [if_neg h_13]); (try rw [if_neg h_15]); (try rw [if_neg h_17]); (try rw [if_neg h_19]); (try rw [if_neg h_21]); (try rw [if_neg h_23]); (try rw [if_neg h_25]); (try rw [if_neg h_27]); (try rw [if_pos rfl]); (try rw [if_pos c_30]); try rfl), ht⟩) (fun _ h => by cases h) dX8_holds_199
    · refine lv_iconst (v := 1) hx hb dX8_holds_194 (by decide) ?_
      refine lv_goto (tgt := 199) hx hb dX8_holds_195 (by decide) ?_
      exact W.zret (v := 1) hx hb hr (by first | rfl | decide) (fun t ht hW => ⟨1, rfl, (by rw [fr_holds]; (try rw [if_neg h_1]); (try rw [if_neg h_4]); (try rw [if_neg h_7]); (try rw [if_neg h_9]); (try rw [if_neg h_11]); (try rw [if_neg h_13]); (try rw [if_neg h_15]); (try rw [if_neg h_17]); (try rw [if_neg h_19]); (try rw [if_neg h_21]); (try rw [if_neg h_23]); (try rw [if_neg h_25]); (try rw [if_neg h_27]); (try rw [if_pos rfl]); (try rw [if_neg c_30]); try rfl), ht⟩) (fun _ h => by cases h) dX8_holds_199
  by_cases h_31 : a0 = 33
  · subst h_31
    refine lv_tableIn (off := 127) (tgt := 128) hx hb dX8_holds_1 (by decide) (by decide) (by decide) (by decide) ?_
    refine lv_lload_n hx hb dX8_holds_128 rfl (lv_at hl 1 rfl) ?_
    refine lv_lload_n hx hb dX8_holds_129 rfl (lv_at hl 2 rfl) ?_
    refine W.lcmp hx hb dX8_holds_130 ?_
    refine lv_if_ge (tgt := 138) hx hb dX8_holds_131 (by decide) (fun c_32 => ?_) (fun c_32 => ?_)
    · refine lv_iconst (v := 0) hx hb dX8_holds_138 (by decide) ?_
      exact W.zret (v := 0) hx hb hr (by first | rfl | decide) (fun t ht hW => ⟨0, rfl, (by rw [fr_holds]; (try rw [if_neg h_1]); (try rw [if_neg h_4]); (try rw [if_neg h_7]); (try rw [if_neg h_9]); (try rw [if_neg h_11]); (try rw [if_neg h_13]); (try rw [if_neg h_15]); (try rw [if_neg h_17]); (try rw [if_neg h_19]); (try rw [if_neg h_21]); (try rw [if_neg h_23]); (try rw [if_neg h_25]); (try rw [if_neg h_27]); (try rw [if_neg h_29]); (try rw [if_pos rfl]); (try rw [if_pos c_32]); try rfl), ht⟩) (fun _ h => by cases h) dX8_holds_139
    · refine lv_iconst (v := 1) hx hb dX8_holds_134 (by decide) ?_
      refine lv_goto (tgt := 139) hx hb dX8_holds_135 (by decide) ?_
      exact W.zret (v := 1) hx hb hr (by first | rfl | decide) (fun t ht hW => ⟨1, rfl, (by rw [fr_holds]; (try rw [if_neg h_1]); (try rw [if_neg h_4]); (try rw [if_neg h_7]); (try rw [if_neg h_9]); (try rw [if_neg h_11]); (try rw [if_neg h_13]); (try rw [if_neg h_15]); (try rw [if_neg h_17]); (try rw [if_neg h_19]); (try rw [if_neg h_21]); (try rw [if_neg h_23]); (try rw [if_neg h_25]); (try rw [if_neg h_27]); (try rw [if_neg h_29]); (try rw [if_pos rfl]); (try rw [if_neg c_32]); try rfl), ht⟩) (fun _ h => by cases h) dX8_holds_139
  by_cases h_33 : a0 = 34
  · subst h_33
    refine lv_tableIn (off := 139) (tgt := 140) hx hb dX8_holds_1 (by decide) (by decide) (by decide) (by decide) ?_
    refine lv_lload_n hx hb dX8_holds_140 rfl (lv_at hl 1 rfl) ?_
    refine lv_lload_n hx hb dX8_holds_141 rfl (lv_at hl 2 rfl) ?_
    refine W.lcmp hx hb dX8_holds_142 ?_
    refine lv_if_gt (tgt := 150) hx hb dX8_holds_143 (by decide) (fun c_34 => ?_) (fun c_34 => ?_)
    · refine lv_iconst (v := 0) hx hb dX8_holds_150 (by decide) ?_
      exact W.zret (v := 0) hx hb hr (by first | rfl | decide) (fun t ht hW => ⟨0, rfl, (by rw [fr_holds]; (try rw [if_neg h_1]); (try rw [if_neg h_4]); (try rw [if_neg h_7]); (try rw [if_neg h_9]); (try rw [if_neg h_11]); (try rw [if_neg h_13]); (try rw [if_neg h_15]); (try rw [if_neg h_17]); (try rw [if_neg h_19]); (try rw [if_neg h_21]); (try rw [if_neg h_23]); (try rw [if_neg h_25]); (try rw [if_neg h_27]); (try rw [if_neg h_29]); (try rw [if_neg h_31]); (try rw [if_pos rfl]); (try rw [if_pos c_34]); try rfl), ht⟩) (fun _ h => by cases h) dX8_holds_151
    · refine lv_iconst (v := 1) hx hb dX8_holds_146 (by decide) ?_
      refine lv_goto (tgt := 151) hx hb dX8_holds_147 (by decide) ?_
      exact W.zret (v := 1) hx hb hr (by first | rfl | decide) (fun t ht hW => ⟨1, rfl, (by rw [fr_holds]; (try rw [if_neg h_1]); (try rw [if_neg h_4]); (try rw [if_neg h_7]); (try rw [if_neg h_9]); (try rw [if_neg h_11]); (try rw [if_neg h_13]); (try rw [if_neg h_15]); (try rw [if_neg h_17]); (try rw [if_neg h_19]); (try rw [if_neg h_21]); (try rw [if_neg h_23]); (try rw [if_neg h_25]); (try rw [if_neg h_27]); (try rw [if_neg h_29]); (try rw [if_neg h_31]); (try rw [if_pos rfl]); (try rw [if_neg c_34]); try rfl), ht⟩) (fun _ h => by cases h) dX8_holds_151
  by_cases h_35 : a0 = 35
  · subst h_35
    refine lv_tableIn (off := 151) (tgt := 152) hx hb dX8_holds_1 (by decide) (by decide) (by decide) (by decide) ?_
    refine lv_lload_n hx hb dX8_holds_152 rfl (lv_at hl 1 rfl) ?_
    refine lv_lload_n hx hb dX8_holds_153 rfl (lv_at hl 2 rfl) ?_
    refine W.lcmp hx hb dX8_holds_154 ?_
    refine lv_if_ne (tgt := 162) hx hb dX8_holds_155 (by decide) (fun c_36 => ?_) (fun c_36 => ?_)
    · refine lv_iconst (v := 0) hx hb dX8_holds_162 (by decide) ?_
      exact W.zret (v := 0) hx hb hr (by first | rfl | decide) (fun t ht hW => ⟨0, rfl, (by rw [fr_holds]; (try rw [if_neg h_1]); (try rw [if_neg h_4]); (try rw [if_neg h_7]); (try rw [if_neg h_9]); (try rw [if_neg h_11]); (try rw [if_neg h_13]); (try rw [if_neg h_15]); (try rw [if_neg h_17]); (try rw [if_neg h_19]); (try rw [if_neg h_21]); (try rw [if_neg h_23]); (try rw [if_neg h_25]); (try rw [if_neg h_27]); (try rw [if_neg h_29]); (try rw [if_neg h_31]); (try rw [if_neg h_33]); (try rw [if_pos rfl]); (try rw [if_neg c_36]); try rfl), ht⟩) (fun _ h => by cases h) dX8_holds_163
    · refine lv_iconst (v := 1) hx hb dX8_holds_158 (by decide) ?_
      refine lv_goto (tgt := 163) hx hb dX8_holds_159 (by decide) ?_
      exact W.zret (v := 1) hx hb hr (by first | rfl | decide) (fun t ht hW => ⟨1, rfl, (by rw [fr_holds]; (try rw [if_neg h_1]); (try rw [if_neg h_4]); (try rw [if_neg h_7]); (try rw [if_neg h_9]); (try rw [if_neg h_11]); (try rw [if_neg h_13]); (try rw [if_neg h_15]); (try rw [if_neg h_17]); (try rw [if_neg h_19]); (try rw [if_neg h_21]); (try rw [if_neg h_23]); (try rw [if_neg h_25]); (try rw [if_neg h_27]); (try rw [if_neg h_29]); (try rw [if_neg h_31]); (try rw [if_neg h_33]); (try rw [if_pos rfl]); (try rw [if_pos c_36]); try rfl), ht⟩) (fun _ h => by cases h) dX8_holds_163
  by_cases h_37 : a0 = 36
  · subst h_37
    refine lv_tableIn (off := 163) (tgt := 164) hx hb dX8_holds_1 (by decide) (by decide) (by decide) (by decide) ?_
    refine lv_lload_n hx hb dX8_holds_164 rfl (lv_at hl 1 rfl) ?_
    refine lv_lload_n hx hb dX8_holds_165 rfl (lv_at hl 2 rfl) ?_
    refine W.lcmp hx hb dX8_holds_166 ?_
    refine lv_if_eq (tgt := 174) hx hb dX8_holds_167 (by decide) (fun c_38 => ?_) (fun c_38 => ?_)
    · refine lv_iconst (v := 0) hx hb dX8_holds_174 (by decide) ?_
      exact W.zret (v := 0) hx hb hr (by first | rfl | decide) (fun t ht hW => ⟨0, rfl, (by rw [fr_holds]; (try rw [if_neg h_1]); (try rw [if_neg h_4]); (try rw [if_neg h_7]); (try rw [if_neg h_9]); (try rw [if_neg h_11]); (try rw [if_neg h_13]); (try rw [if_neg h_15]); (try rw [if_neg h_17]); (try rw [if_neg h_19]); (try rw [if_neg h_21]); (try rw [if_neg h_23]); (try rw [if_neg h_25]); (try rw [if_neg h_27]); (try rw [if_neg h_29]); (try rw [if_neg h_31]); (try rw [if_neg h_33]); (try rw [if_neg h_35]); (try rw [if_pos rfl]); (try rw [if_pos c_38]); try rfl), ht⟩) (fun _ h => by cases h) dX8_holds_175
    · refine lv_iconst (v := 1) hx hb dX8_holds_170 (by decide) ?_
      refine lv_goto (tgt := 175) hx hb dX8_holds_171 (by decide) ?_
      exact W.zret (v := 1) hx hb hr (by first | rfl | decide) (fun t ht hW => ⟨1, rfl, (by rw [fr_holds]; (try rw [if_neg h_1]); (try rw [if_neg h_4]); (try rw [if_neg h_7]); (try rw [if_neg h_9]); (try rw [if_neg h_11]); (try rw [if_neg h_13]); (try rw [if_neg h_15]); (try rw [if_neg h_17]); (try rw [if_neg h_19]); (try rw [if_neg h_21]); (try rw [if_neg h_23]); (try rw [if_neg h_25]); (try rw [if_neg h_27]); (try rw [if_neg h_29]); (try rw [if_neg h_31]); (try rw [if_neg h_33]); (try rw [if_neg h_35]); (try rw [if_pos rfl]); (try rw [if_neg c_38]); try rfl), ht⟩) (fun _ h => by cases h) dX8_holds_175
  by_cases h_39 : a0 = 37
  · subst h_39
    refine lv_tableIn (off := 175) (tgt := 176) hx hb dX8_holds_1 (by decide) (by decide) (by decide) (by decide) ?_
    refine lv_lload_n hx hb dX8_holds_176 rfl (lv_at hl 1 rfl) ?_
    refine lv_lload_n hx hb dX8_holds_177 rfl (lv_at hl 2 rfl) ?_
    refine W.lcmp hx hb dX8_holds_178 ?_
    refine lv_if_lt (tgt := 186) hx hb dX8_holds_179 (by decide) (fun c_40 => ?_) (fun c_40 => ?_)
    · refine lv_iconst (v := 0) hx hb dX8_holds_186 (by decide) ?_
      exact W.zret (v := 0) hx hb hr (by first | rfl | decide) (fun t ht hW => ⟨0, rfl, (by rw [fr_holds]; (try rw [if_neg h_1]); (try rw [if_neg h_4]); (try rw [if_neg h_7]); (try rw [if_neg h_9]); (try rw [if_neg h_11]); (try rw [if_neg h_13]); (try rw [if_neg h_15]); (try rw [if_neg h_17]); (try rw [if_neg h_19]); (try rw [if_neg h_21]); (try rw [if_neg h_23]); (try rw [if_neg h_25]); (try rw [if_neg h_27]); (try rw [if_neg h_29]); (try rw [if_neg h_31]); (try rw [if_neg h_33]); (try rw [if_neg h_35]); (try rw [if_neg h_37]); (try rw [if_pos rfl]); (try rw [if_pos c_40]); try rfl), ht⟩) (fun _ h => by cases h) dX8_holds_187
    · refine lv_iconst (v := 1) hx hb dX8_holds_182 (by decide) ?_
      refine lv_goto (tgt := 187) hx hb dX8_holds_183 (by decide) ?_
      exact W.zret (v := 1) hx hb hr (by first | rfl | decide) (fun t ht hW => ⟨1, rfl, (by rw [fr_holds]; (try rw [if_neg h_1]); (try rw [if_neg h_4]); (try rw [if_neg h_7]); (try rw [if_neg h_9]); (try rw [if_neg h_11]); (try rw [if_neg h_13]); (try rw [if_neg h_15]); (try rw [if_neg h_17]); (try rw [if_neg h_19]); (try rw [if_neg h_21]); (try rw [if_neg h_23]); (try rw [if_neg h_25]); (try rw [if_neg h_27]); (try rw [if_neg h_29]); (try rw [if_neg h_31]); (try rw [if_neg h_33]); (try rw [if_neg h_35]); (try rw [if_neg h_37]); (try rw [if_pos rfl]); (try rw [if_neg c_40]); try rfl), ht⟩) (fun _ h => by cases h) dX8_holds_187
  refine lv_tableOut (tgt := 188) hx hb dX8_holds_1 (by have a0 := xg_ne h_1; have a1 := xg_ne h_4; have a2 := xg_ne h_7; have a3 := xg_ne h_9; have a4 := xg_ne h_11; have a5 := xg_ne h_13; have a6 := xg_ne h_15; have a7 := xg_ne h_17; have a8 := xg_ne h_19; have a9 := xg_ne h_21; have a10 := xg_ne h_23; have a11 := xg_ne h_25; have a12 := xg_ne h_27; have a13 := xg_ne h_29; have a14 := xg_ne h_31; have a15 := xg_ne h_33; have a16 := xg_ne h_35; have a17 := xg_ne h_37; have a18 := xg_ne h_39; have b0 : (19 : Int32).toInt = 19 := rfl; have b1 : (20 : Int32).toInt = 20 := rfl; have b2 : (21 : Int32).toInt = 21 := rfl; have b3 : (22 : Int32).toInt = 22 := rfl; have b4 : (23 : Int32).toInt = 23 := rfl; have b5 : (24 : Int32).toInt = 24 := rfl; have b6 : (25 : Int32).toInt = 25 := rfl; have b7 : (26 : Int32).toInt = 26 := rfl; have b8 : (27 : Int32).toInt = 27 := rfl; have b9 : (28 : Int32).toInt = 28 := rfl; have b10 : (29 : Int32).toInt = 29 := rfl; have b11 : (30 : Int32).toInt = 30 := rfl; have b12 : (31 : Int32).toInt = 31 := rfl; have b13 : (32 : Int32).toInt = 32 := rfl; have b14 : (33 : Int32).toInt = 33 := rfl; have b15 : (34 : Int32).toInt = 34 := rfl; have b16 : (35 : Int32).toInt = 35 := rfl; have b17 : (36 : Int32).toInt = 36 := rfl; have b18 : (37 : Int32).toInt = 37 := rfl; omega) (by decide) ?_
  refine lv_lload_n hx hb dX8_holds_188 rfl (lv_at hl 1 rfl) ?_
  refine lv_lload_n hx hb dX8_holds_189 rfl (lv_at hl 2 rfl) ?_
  refine W.lcmp hx hb dX8_holds_190 ?_
  refine lv_if_le (tgt := 198) hx hb dX8_holds_191 (by decide) (fun c_41 => ?_) (fun c_41 => ?_)
  · refine lv_iconst (v := 0) hx hb dX8_holds_198 (by decide) ?_
    exact W.zret (v := 0) hx hb hr (by first | rfl | decide) (fun t ht hW => ⟨0, rfl, (by rw [fr_holds]; (try rw [if_neg h_1]); (try rw [if_neg h_4]); (try rw [if_neg h_7]); (try rw [if_neg h_9]); (try rw [if_neg h_11]); (try rw [if_neg h_13]); (try rw [if_neg h_15]); (try rw [if_neg h_17]); (try rw [if_neg h_19]); (try rw [if_neg h_21]); (try rw [if_neg h_23]); (try rw [if_neg h_25]); (try rw [if_neg h_27]); (try rw [if_neg h_29]); (try rw [if_neg h_31]); (try rw [if_neg h_33]); (try rw [if_neg h_35]); (try rw [if_neg h_37]); (try rw [if_neg h_39]); (try rw [if_pos c_41]); try rfl), ht⟩) (fun _ h => by cases h) dX8_holds_199
  · refine lv_iconst (v := 1) hx hb dX8_holds_194 (by decide) ?_
    refine lv_goto (tgt := 199) hx hb dX8_holds_195 (by decide) ?_
    exact W.zret (v := 1) hx hb hr (by first | rfl | decide) (fun t ht hW => ⟨1, rfl, (by rw [fr_holds]; (try rw [if_neg h_1]); (try rw [if_neg h_4]); (try rw [if_neg h_7]); (try rw [if_neg h_9]); (try rw [if_neg h_11]); (try rw [if_neg h_13]); (try rw [if_neg h_15]); (try rw [if_neg h_17]); (try rw [if_neg h_19]); (try rw [if_neg h_21]); (try rw [if_neg h_23]); (try rw [if_neg h_25]); (try rw [if_neg h_27]); (try rw [if_neg h_29]); (try rw [if_neg h_31]); (try rw [if_neg h_33]); (try rw [if_neg h_35]); (try rw [if_neg h_37]); (try rw [if_neg h_39]); (try rw [if_neg c_41]); try rfl), ht⟩) (fun _ h => by cases h) dX8_holds_199

def fr_joined (a0 : Int32) (a1 : Int64) (a2 : Int64) : Int64 := (if a0 = 28 then (a1 + a2) else (if a0 = 29 then (a1 - a2) else (if a0 = 30 then (fr_product a1 a2) else (if a0 = 31 then (if lg_cmp a2 0 = 0 then (-9223372036854775808 : Int64) else (a1 / a2)) else (if a0 = 32 then (if lg_cmp a2 0 = 0 then (-9223372036854775808 : Int64) else (a1 - a1 / a2 * a2)) else (if (fr_holds a0 a1 a2) = 0 then (0 : Int64) else (1 : Int64)))))))
theorem dX8_joined_0 : decode cX8_joined 0 = .ok (.iload_n 0, 1) := zk_26 (by decide +kernel)
theorem dX8_joined_1 : decode cX8_joined 1 = .ok (.tableswitch 81 28 32 #[35, 39, 43, 49, 65], 35) := by decide +kernel
theorem dX8_joined_36 : decode cX8_joined 36 = .ok (.lload_n 1, 1) := zk_31 (by decide +kernel)
theorem dX8_joined_37 : decode cX8_joined 37 = .ok (.lload_n 3, 1) := zk_33 (by decide +kernel)
theorem dX8_joined_38 : decode cX8_joined 38 = .ok (.ladd, 1) := zk_97 (by decide +kernel)
theorem dX8_joined_39 : decode cX8_joined 39 = .ok (.lreturn, 1) := zk_173 (by decide +kernel)
theorem dX8_joined_40 : decode cX8_joined 40 = .ok (.lload_n 1, 1) := zk_31 (by decide +kernel)
theorem dX8_joined_41 : decode cX8_joined 41 = .ok (.lload_n 3, 1) := zk_33 (by decide +kernel)
theorem dX8_joined_42 : decode cX8_joined 42 = .ok (.lsub, 1) := zk_101 (by decide +kernel)
theorem dX8_joined_43 : decode cX8_joined 43 = .ok (.lreturn, 1) := zk_173 (by decide +kernel)
theorem dX8_joined_44 : decode cX8_joined 44 = .ok (.lload_n 1, 1) := zk_31 (by decide +kernel)
theorem dX8_joined_45 : decode cX8_joined 45 = .ok (.lload_n 3, 1) := zk_33 (by decide +kernel)
theorem dX8_joined_46 : decode cX8_joined 46 = .ok (.invokestatic 91, 3) := zk_184 (by decide +kernel)
theorem dX8_joined_49 : decode cX8_joined 49 = .ok (.lreturn, 1) := zk_173 (by decide +kernel)
theorem dX8_joined_50 : decode cX8_joined 50 = .ok (.lload_n 3, 1) := zk_33 (by decide +kernel)
theorem dX8_joined_51 : decode cX8_joined 51 = .ok (.lconst 0, 1) := zk_9 (by decide +kernel)
theorem dX8_joined_52 : decode cX8_joined 52 = .ok (.lcmp, 1) := zk_148 (by decide +kernel)
theorem dX8_joined_53 : decode cX8_joined 53 = .ok (.ifCond .ne 9, 3) := zk_154 (by decide +kernel)
theorem dX8_joined_62 : decode cX8_joined 62 = .ok (.lload_n 1, 1) := zk_31 (by decide +kernel)
theorem dX8_joined_63 : decode cX8_joined 63 = .ok (.lload_n 3, 1) := zk_33 (by decide +kernel)
theorem dX8_joined_64 : decode cX8_joined 64 = .ok (.ldiv, 1) := zk_109 (by decide +kernel)
theorem dX8_joined_65 : decode cX8_joined 65 = .ok (.lreturn, 1) := zk_173 (by decide +kernel)
theorem dX8_joined_56 : decode cX8_joined 56 = .ok (.ldc2_w 44, 3) := zk_20 (by decide +kernel)
theorem dX8_joined_59 : decode cX8_joined 59 = .ok (.goto 6, 3) := zk_167 (by decide +kernel)
theorem dX8_joined_66 : decode cX8_joined 66 = .ok (.lload_n 3, 1) := zk_33 (by decide +kernel)
theorem dX8_joined_67 : decode cX8_joined 67 = .ok (.lconst 0, 1) := zk_9 (by decide +kernel)
theorem dX8_joined_68 : decode cX8_joined 68 = .ok (.lcmp, 1) := zk_148 (by decide +kernel)
theorem dX8_joined_69 : decode cX8_joined 69 = .ok (.ifCond .ne 9, 3) := zk_154 (by decide +kernel)
theorem dX8_joined_78 : decode cX8_joined 78 = .ok (.lload_n 1, 1) := zk_31 (by decide +kernel)
theorem dX8_joined_79 : decode cX8_joined 79 = .ok (.lload_n 3, 1) := zk_33 (by decide +kernel)
theorem dX8_joined_80 : decode cX8_joined 80 = .ok (.lrem, 1) := zk_113 (by decide +kernel)
theorem dX8_joined_81 : decode cX8_joined 81 = .ok (.lreturn, 1) := zk_173 (by decide +kernel)
theorem dX8_joined_72 : decode cX8_joined 72 = .ok (.ldc2_w 44, 3) := zk_20 (by decide +kernel)
theorem dX8_joined_75 : decode cX8_joined 75 = .ok (.goto 6, 3) := zk_167 (by decide +kernel)
theorem dX8_joined_82 : decode cX8_joined 82 = .ok (.iload_n 0, 1) := zk_26 (by decide +kernel)
theorem dX8_joined_83 : decode cX8_joined 83 = .ok (.lload_n 1, 1) := zk_31 (by decide +kernel)
theorem dX8_joined_84 : decode cX8_joined 84 = .ok (.lload_n 3, 1) := zk_33 (by decide +kernel)
theorem dX8_joined_85 : decode cX8_joined 85 = .ok (.invokestatic 95, 3) := zk_184 (by decide +kernel)
theorem dX8_joined_88 : decode cX8_joined 88 = .ok (.ifCond .eq 7, 3) := zk_153 (by decide +kernel)
theorem dX8_joined_95 : decode cX8_joined 95 = .ok (.lconst 0, 1) := zk_9 (by decide +kernel)
theorem dX8_joined_96 : decode cX8_joined 96 = .ok (.lreturn, 1) := zk_173 (by decide +kernel)
theorem dX8_joined_91 : decode cX8_joined 91 = .ok (.lconst 1, 1) := zk_10 (by decide +kernel)
theorem dX8_joined_92 : decode cX8_joined 92 = .ok (.goto 4, 3) := zk_167 (by decide +kernel)
set_option maxHeartbeats 4000000 in
set_option maxRecDepth 100000 in
theorem gr_joined (l : Launch) (dC : Nat → ClassId) (dI : Nat → Nat → Nat) (a0 : Int32) (a1 : Int64) (a2 : Int64) : Met l yX8_joined (Cond.code yX8_joined cX8_joined 5 (some .long) :: wsL_law) ({ frames := 1, cells := 0, slots := 0, locals := 27 }) (va_Pc [.int a0, .long a1, .long a2] (fun U => va_P (dC, dI) vwCl [] U.heap ∧ va_K (dC, dI) vwCl [] U)) (vp_Sl (fun r => r = fr_joined a0 a1 a2)) 0 0 (fun _ => False) := by
  refine Met.ofW (cc := cX8_joined) (maxL := 5) (ret := (some .long)) (by decide) rfl ?_
  intro p e s m args below meth c s₁ B hml hv
  obtain ⟨rfl, hP, hK⟩ := hv
  have hx := B.exec
  have hb := B.bytes
  have hr := B.returns
  have hts := atoms_spec (ws := Cond.code yX8_joined cX8_joined 5 (some .long) :: wsL_law) B.pre
  have htw : ∀ w ∈ wsL_law, w.before _ s = true := fun w h => hts w (List.mem_cons_of_mem _ h)
  have hown : s.vm.findClass RX8 = some m.cls := findClass_of_methodNamed B.named
  have hlocks := B.notSynchronized
  have hl := lv_entry ([.int a0, .long a1, .long a2]) (n := 5) (Nat.le_of_ble_eq_true rfl)
  rw [lg_entry_eq]
  generalize (lg_sl ([.int a0, .long a1, .long a2]) ++ List.replicate (5 - (lg_sl ([.int a0, .long a1, .long a2])).length) Slot.unset).toArray = ls at hl ⊢
  have hl : lv_has ls 5 [(0, .int a0), (1, .long a1), (3, .long a2)] := hl
  refine lv_iload_n hx hb dX8_joined_0 rfl (lv_at hl 0 rfl) ?_
  by_cases h_1 : a0 = 28
  · subst h_1
    refine lv_tableIn (off := 35) (tgt := 36) hx hb dX8_joined_1 (by decide) (by decide) (by decide) (by decide) ?_
    refine lv_lload_n hx hb dX8_joined_36 rfl (lv_at hl 1 rfl) ?_
    refine lv_lload_n hx hb dX8_joined_37 rfl (lv_at hl 2 rfl) ?_
    refine lv_ladd hx hb dX8_joined_38 ?_
    exact W.lret (v := (a1 + a2)) hx hb hr (fun t ht hW => ⟨(a1 + a2), rfl, (by rw [fr_joined]; (try rw [if_pos rfl]); try rfl), ht⟩) (fun _ h => by cases h) dX8_joined_39
  by_cases h_2 : a0 = 29
  · subst h_2
    refine lv_tableIn (off := 39) (tgt := 40) hx hb dX8_joined_1 (by decide) (by decide) (by decide) (by decide) ?_
    refine lv_lload_n hx hb dX8_joined_40 rfl (lv_at hl 1 rfl) ?_
    refine lv_lload_n hx hb dX8_joined_41 rfl (lv_at hl 2 rfl) ?_
    refine lv_lsub hx hb dX8_joined_42 ?_
    exact W.lret (v := (a1 - a2)) hx hb hr (fun t ht hW => ⟨(a1 - a2), rfl, (by rw [fr_joined]; (try rw [if_neg h_1]); (try rw [if_pos rfl]); try rfl), ht⟩) (fun _ h => by cases h) dX8_joined_43
  by_cases h_3 : a0 = 30
  · subst h_3
    refine lv_tableIn (off := 43) (tgt := 44) hx hb dX8_joined_1 (by decide) (by decide) (by decide) (by decide) ?_
    refine lv_lload_n hx hb dX8_joined_44 rfl (lv_at hl 1 rfl) ?_
    refine lv_lload_n hx hb dX8_joined_45 rfl (lv_at hl 2 rfl) ?_
    have hPc := hP.sub (ws' := []) [] rfl
    have hKc := hK.sub (tys' := []) [] rfl
    refine vp_callSl (W.runS (As := [.long a1, .long a2]) (rest := []) ⟨hx, hb, hml, hown, htw⟩ (gr_product l dC dI a1 a2) (va_cwS 2 htw (xg_S (ck_39 _ (List.mem_of_getElem? (i := 22) rfl)) (ck_39 _ (List.mem_of_getElem? (i := 23) rfl)) (ck_6 _ (List.mem_of_getElem? (i := 8) rfl)) (ck_40 _ (List.mem_of_getElem? (i := 0) rfl))) rfl rfl rfl (by exact ⟨hdc_1.1, hdc_1.2, hdd_4⟩) ⟨Nat.le_of_ble_eq_true rfl, Nat.le_of_ble_eq_true rfl⟩) ⟨fun a U g mk q => by obtain ⟨q0, qP, qK⟩ := q; exact ⟨q0, qP, va_K.moved (u := U) (U := U.calling g mk a) (Vm.Alike.refl U.vm) qK⟩, fun U hU hW => ⟨rfl, by rw [hU]; exact hPc, va_K.moved hW.alike hKc⟩⟩ rfl rfl hl.1 rfl (lv_room (Nat.le_of_ble_eq_true rfl)) dX8_joined_46 ⟨Nat.le_of_ble_eq_true rfl, Nat.le_of_ble_eq_true rfl⟩) (fun r_4 hw => ?_)
    try dsimp only at hw
    have hq_r_4 : r_4 = fr_product a1 a2 := hw
    exact W.lret (v := r_4) hx hb hr (fun t ht hW => ⟨r_4, rfl, (by rw [fr_joined]; (try rw [← hq_r_4]); (try rw [if_neg h_1]); (try rw [if_neg h_2]); (try rw [if_pos rfl]); try rfl), ht⟩) (fun _ h => by cases h) dX8_joined_49
  by_cases h_5 : a0 = 31
  · subst h_5
    refine lv_tableIn (off := 49) (tgt := 50) hx hb dX8_joined_1 (by decide) (by decide) (by decide) (by decide) ?_
    refine lv_lload_n hx hb dX8_joined_50 rfl (lv_at hl 2 rfl) ?_
    refine lv_lconst (v := 0) hx hb dX8_joined_51 (by decide) ?_
    refine W.lcmp hx hb dX8_joined_52 ?_
    refine lv_if_ne (tgt := 62) hx hb dX8_joined_53 (by decide) (fun c_6 => ?_) (fun c_6 => ?_)
    · refine lv_lload_n hx hb dX8_joined_62 rfl (lv_at hl 1 rfl) ?_
      refine lv_lload_n hx hb dX8_joined_63 rfl (lv_at hl 2 rfl) ?_
      refine lv_ldiv hx hb dX8_joined_64 (xg_nzE c_6) ?_
      exact W.lret (v := (a1 / a2)) hx hb hr (fun t ht hW => ⟨(a1 / a2), rfl, (by rw [fr_joined]; (try rw [if_neg h_1]); (try rw [if_neg h_2]); (try rw [if_neg h_3]); (try rw [if_pos rfl]); (try rw [if_neg c_6]); try rfl), ht⟩) (fun _ h => by cases h) dX8_joined_65
    · refine lv_ldc2 (v := (-9223372036854775808)) hx hb hown (htw _ (ck_39 _ (List.mem_of_getElem? (i := 8) rfl))) dX8_joined_56 ?_
      refine lv_goto (tgt := 65) hx hb dX8_joined_59 (by decide) ?_
      exact W.lret (v := (-9223372036854775808)) hx hb hr (fun t ht hW => ⟨(-9223372036854775808), rfl, (by rw [fr_joined]; (try rw [if_neg h_1]); (try rw [if_neg h_2]); (try rw [if_neg h_3]); (try rw [if_pos rfl]); (try rw [if_pos c_6]); try rfl), ht⟩) (fun _ h => by cases h) dX8_joined_65
  by_cases h_7 : a0 = 32
  · subst h_7
    refine lv_tableIn (off := 65) (tgt := 66) hx hb dX8_joined_1 (by decide) (by decide) (by decide) (by decide) ?_
    refine lv_lload_n hx hb dX8_joined_66 rfl (lv_at hl 2 rfl) ?_
    refine lv_lconst (v := 0) hx hb dX8_joined_67 (by decide) ?_
    refine W.lcmp hx hb dX8_joined_68 ?_
    refine lv_if_ne (tgt := 78) hx hb dX8_joined_69 (by decide) (fun c_8 => ?_) (fun c_8 => ?_)
    · refine lv_lload_n hx hb dX8_joined_78 rfl (lv_at hl 1 rfl) ?_
      refine lv_lload_n hx hb dX8_joined_79 rfl (lv_at hl 2 rfl) ?_
      refine lv_lrem hx hb dX8_joined_80 (xg_nzE c_8) ?_
      exact W.lret (v := (a1 - a1 / a2 * a2)) hx hb hr (fun t ht hW => ⟨(a1 - a1 / a2 * a2), rfl, (by rw [fr_joined]; (try rw [if_neg h_1]); (try rw [if_neg h_2]); (try rw [if_neg h_3]); (try rw [if_neg h_5]); (try rw [if_pos rfl]); (try rw [if_neg c_8]); try rfl), ht⟩) (fun _ h => by cases h) dX8_joined_81
    · refine lv_ldc2 (v := (-9223372036854775808)) hx hb hown (htw _ (ck_39 _ (List.mem_of_getElem? (i := 8) rfl))) dX8_joined_72 ?_
      refine lv_goto (tgt := 81) hx hb dX8_joined_75 (by decide) ?_
      exact W.lret (v := (-9223372036854775808)) hx hb hr (fun t ht hW => ⟨(-9223372036854775808), rfl, (by rw [fr_joined]; (try rw [if_neg h_1]); (try rw [if_neg h_2]); (try rw [if_neg h_3]); (try rw [if_neg h_5]); (try rw [if_pos rfl]); (try rw [if_pos c_8]); try rfl), ht⟩) (fun _ h => by cases h) dX8_joined_81
  refine lv_tableOut (tgt := 82) hx hb dX8_joined_1 (by have a0 := xg_ne h_1; have a1 := xg_ne h_2; have a2 := xg_ne h_3; have a3 := xg_ne h_5; have a4 := xg_ne h_7; have b0 : (28 : Int32).toInt = 28 := rfl; have b1 : (29 : Int32).toInt = 29 := rfl; have b2 : (30 : Int32).toInt = 30 := rfl; have b3 : (31 : Int32).toInt = 31 := rfl; have b4 : (32 : Int32).toInt = 32 := rfl; omega) (by decide) ?_
  refine lv_iload_n hx hb dX8_joined_82 rfl (lv_at hl 0 rfl) ?_
  refine lv_lload_n hx hb dX8_joined_83 rfl (lv_at hl 1 rfl) ?_
  refine lv_lload_n hx hb dX8_joined_84 rfl (lv_at hl 2 rfl) ?_
  have hPc := hP.sub (ws' := []) [] rfl
  have hKc := hK.sub (tys' := []) [] rfl
  refine vp_callSi (W.runS (As := [.int a0, .long a1, .long a2]) (rest := []) ⟨hx, hb, hml, hown, htw⟩ (gr_holds l dC dI a0 a1 a2) (va_cwS 3 htw (xg_S (ck_40 _ (List.mem_of_getElem? (i := 1) rfl)) (ck_40 _ (List.mem_of_getElem? (i := 2) rfl)) (ck_6 _ (List.mem_of_getElem? (i := 8) rfl)) (ck_40 _ (List.mem_of_getElem? (i := 3) rfl))) rfl rfl rfl (by exact ⟨hdc_1.1, hdc_1.2, hdd_5⟩) ⟨Nat.le_of_ble_eq_true rfl, Nat.le_of_ble_eq_true rfl⟩) ⟨fun a U g mk q => by obtain ⟨q0, qP, qK⟩ := q; exact ⟨q0, qP, va_K.moved (u := U) (U := U.calling g mk a) (Vm.Alike.refl U.vm) qK⟩, fun U hU hW => ⟨rfl, by rw [hU]; exact hPc, va_K.moved hW.alike hKc⟩⟩ rfl rfl hl.1 rfl (lv_room (Nat.le_of_ble_eq_true rfl)) dX8_joined_85 ⟨Nat.le_of_ble_eq_true rfl, Nat.le_of_ble_eq_true rfl⟩) (fun r_9 hw => ?_)
  try dsimp only at hw
  have hq_r_9 : r_9 = fr_holds a0 a1 a2 := hw
  refine lv_if_eq (tgt := 95) hx hb dX8_joined_88 (by decide) (fun c_10 => ?_) (fun c_10 => ?_)
  · refine lv_lconst (v := 0) hx hb dX8_joined_95 (by decide) ?_
    exact W.lret (v := 0) hx hb hr (fun t ht hW => ⟨0, rfl, (by rw [fr_joined]; (try rw [← hq_r_9]); (try rw [if_neg h_1]); (try rw [if_neg h_2]); (try rw [if_neg h_3]); (try rw [if_neg h_5]); (try rw [if_neg h_7]); (try rw [if_pos c_10]); try rfl), ht⟩) (fun _ h => by cases h) dX8_joined_96
  · refine lv_lconst (v := 1) hx hb dX8_joined_91 (by decide) ?_
    refine lv_goto (tgt := 96) hx hb dX8_joined_92 (by decide) ?_
    exact W.lret (v := 1) hx hb hr (fun t ht hW => ⟨1, rfl, (by rw [fr_joined]; (try rw [← hq_r_9]); (try rw [if_neg h_1]); (try rw [if_neg h_2]); (try rw [if_neg h_3]); (try rw [if_neg h_5]); (try rw [if_neg h_7]); (try rw [if_neg c_10]); try rfl), ht⟩) (fun _ h => by cases h) dX8_joined_96

def fr_nameOf (ct : Int64) (yr : Int64) (dy : Int64) (lg : Int64) (wd : Int32) (wf : Int32) (mp : Int32) (mb : Int32) (mo : Int32) (sp : Int32) (sb : Int32) (a0 : Int32) : Int64 := (if a0 = 2 then (fs_weekDayOf wd wf mp mb mo sp sb ct).toInt64 else (if a0 = 3 then (fs_moonOf wd wf mp mb mo sp sb ct).toInt64 else (if a0 = 14 then yr else (if a0 = 15 then dy else (if a0 = 16 then (fs_seasonOf wd wf mp mb mo sp sb ct).toInt64 else (if a0 = 22 then lg else (-9223372036854775808 : Int64)))))))
theorem dX8_nameOf_0 : decode cX8_nameOf 0 = .ok (.iload_n 0, 1) := zk_26 (by decide +kernel)
theorem dX8_nameOf_1 : decode cX8_nameOf 1 = .ok (.lookupswitch 104 #[(2, 74), (3, 84), (14, 64), (15, 59), (16, 94), (22, 69)], 59) := by decide +kernel
theorem dX8_nameOf_75 : decode cX8_nameOf 75 = .ok (.aload_n 2, 1) := zk_44 (by decide +kernel)
theorem dX8_nameOf_76 : decode cX8_nameOf 76 = .ok (.aload_n 1, 1) := zk_43 (by decide +kernel)
theorem dX8_nameOf_77 : decode cX8_nameOf 77 = .ok (.getfield 76, 3) := zk_180 (by decide +kernel)
theorem dX8_nameOf_80 : decode cX8_nameOf 80 = .ok (.invokevirtual 79, 3) := zk_182 (by decide +kernel)
theorem dX8_nameOf_83 : decode cX8_nameOf 83 = .ok (.i2l, 1) := zk_133 (by decide +kernel)
theorem dX8_nameOf_84 : decode cX8_nameOf 84 = .ok (.lreturn, 1) := zk_173 (by decide +kernel)
theorem dX8_nameOf_85 : decode cX8_nameOf 85 = .ok (.aload_n 2, 1) := zk_44 (by decide +kernel)
theorem dX8_nameOf_86 : decode cX8_nameOf 86 = .ok (.aload_n 1, 1) := zk_43 (by decide +kernel)
theorem dX8_nameOf_87 : decode cX8_nameOf 87 = .ok (.getfield 76, 3) := zk_180 (by decide +kernel)
theorem dX8_nameOf_90 : decode cX8_nameOf 90 = .ok (.invokevirtual 85, 3) := zk_182 (by decide +kernel)
theorem dX8_nameOf_93 : decode cX8_nameOf 93 = .ok (.i2l, 1) := zk_133 (by decide +kernel)
theorem dX8_nameOf_94 : decode cX8_nameOf 94 = .ok (.lreturn, 1) := zk_173 (by decide +kernel)
theorem dX8_nameOf_65 : decode cX8_nameOf 65 = .ok (.aload_n 1, 1) := zk_43 (by decide +kernel)
theorem dX8_nameOf_66 : decode cX8_nameOf 66 = .ok (.getfield 70, 3) := zk_180 (by decide +kernel)
theorem dX8_nameOf_69 : decode cX8_nameOf 69 = .ok (.lreturn, 1) := zk_173 (by decide +kernel)
theorem dX8_nameOf_60 : decode cX8_nameOf 60 = .ok (.aload_n 1, 1) := zk_43 (by decide +kernel)
theorem dX8_nameOf_61 : decode cX8_nameOf 61 = .ok (.getfield 64, 3) := zk_180 (by decide +kernel)
theorem dX8_nameOf_64 : decode cX8_nameOf 64 = .ok (.lreturn, 1) := zk_173 (by decide +kernel)
theorem dX8_nameOf_95 : decode cX8_nameOf 95 = .ok (.aload_n 2, 1) := zk_44 (by decide +kernel)
theorem dX8_nameOf_96 : decode cX8_nameOf 96 = .ok (.aload_n 1, 1) := zk_43 (by decide +kernel)
theorem dX8_nameOf_97 : decode cX8_nameOf 97 = .ok (.getfield 76, 3) := zk_180 (by decide +kernel)
theorem dX8_nameOf_100 : decode cX8_nameOf 100 = .ok (.invokevirtual 88, 3) := zk_182 (by decide +kernel)
theorem dX8_nameOf_103 : decode cX8_nameOf 103 = .ok (.i2l, 1) := zk_133 (by decide +kernel)
theorem dX8_nameOf_104 : decode cX8_nameOf 104 = .ok (.lreturn, 1) := zk_173 (by decide +kernel)
theorem dX8_nameOf_70 : decode cX8_nameOf 70 = .ok (.aload_n 1, 1) := zk_43 (by decide +kernel)
theorem dX8_nameOf_71 : decode cX8_nameOf 71 = .ok (.getfield 73, 3) := zk_180 (by decide +kernel)
theorem dX8_nameOf_74 : decode cX8_nameOf 74 = .ok (.lreturn, 1) := zk_173 (by decide +kernel)
theorem dX8_nameOf_105 : decode cX8_nameOf 105 = .ok (.ldc2_w 44, 3) := zk_20 (by decide +kernel)
theorem dX8_nameOf_108 : decode cX8_nameOf 108 = .ok (.lreturn, 1) := zk_173 (by decide +kernel)
set_option maxHeartbeats 4000000 in
set_option maxRecDepth 100000 in
theorem gr_nameOf (l : Launch) (dC : Nat → ClassId) (dI : Nat → Nat → Nat) (mm : Nat) (mla : Value) (ct : Int64) (yr : Int64) (dy : Int64) (lg : Int64) (sk : Nat) (wd : Int32) (wf : Int32) (mp : Int32) (mb : Int32) (mo : Int32) (sp : Int32) (sb : Int32) (a0 : Int32) : Met l yX8_nameOf (Cond.code yX8_nameOf cX8_nameOf 3 (some .long) :: wsL_law) ({ frames := 1, cells := 0, slots := 0, locals := 22 }) (va_Pc [.int a0, .ref mm, .ref sk] (fun U => va_P (dC, dI) vwCl [(mm, .inr (4, [mla, .long ct, .long yr, .long dy, .long lg])), (eO9a sk wd wf mp mb mo sp sb)] U.heap ∧ va_K (dC, dI) vwCl [] U)) (vp_Sl (fun r => r = fr_nameOf ct yr dy lg wd wf mp mb mo sp sb a0)) 0 0 (fun _ => False) := by
  refine Met.ofW (cc := cX8_nameOf) (maxL := 3) (ret := (some .long)) (by decide) rfl ?_
  intro p e s m args below meth c s₁ B hml hv
  obtain ⟨rfl, hP, hK⟩ := hv
  have hx := B.exec
  have hb := B.bytes
  have hr := B.returns
  have hts := atoms_spec (ws := Cond.code yX8_nameOf cX8_nameOf 3 (some .long) :: wsL_law) B.pre
  have htw : ∀ w ∈ wsL_law, w.before _ s = true := fun w h => hts w (List.mem_cons_of_mem _ h)
  have hown : s.vm.findClass RX8 = some m.cls := findClass_of_methodNamed B.named
  have hlocks := B.notSynchronized
  have hl := lv_entry ([.int a0, .ref mm, .ref sk]) (n := 3) (Nat.le_of_ble_eq_true rfl)
  rw [lg_entry_eq]
  generalize (lg_sl ([.int a0, .ref mm, .ref sk]) ++ List.replicate (3 - (lg_sl ([.int a0, .ref mm, .ref sk])).length) Slot.unset).toArray = ls at hl ⊢
  have hl : lv_has ls 3 [(0, .int a0), (1, .ref mm), (2, .ref sk)] := hl
  refine lv_iload_n hx hb dX8_nameOf_0 rfl (lv_at hl 0 rfl) ?_
  by_cases h_1 : a0 = 2
  · subst h_1
    refine lv_lookup (off := 74) (tgt := 75) hx hb dX8_nameOf_1 (by decide) (by decide) (by decide) ?_
    refine lv_aload_n hx hb dX8_nameOf_75 rfl (lv_at hl 2 rfl) ?_
    refine lv_aload_n hx hb dX8_nameOf_76 rfl (lv_at hl 1 rfl) ?_
    refine va_get (D := (dC, dI)) (ci := 4) (v := .long ct) (C := RX4) (T := TX4) (N := 5) hx hb htw inlX4 hown hK hP 0 rfl rfl 1 (by decide) (htw _ (ck_40 _ (List.mem_of_getElem? (i := 10) rfl))) (fun _ h9 => h9) rfl dX8_nameOf_77 ?_
    have hPc := hP.sub (ws' := [(eO9a sk wd wf mp mb mo sp sb)]) [1] rfl
    have hKc := hK.sub (tys' := []) [] rfl
    refine vp_callSi (W.runV (As := [.long ct]) (rest := []) ⟨hx, hb, hml, hown, htw⟩ (gs_weekDayOf l dC dI sk wd wf mp mb mo sp sb ct) (cwV 1 htw (xg_V (ck_40 _ (List.mem_of_getElem? (i := 11) rfl)) (ck_37 _ (List.mem_of_getElem? (i := 11) rfl)) (ck_37 _ (List.mem_of_getElem? (i := 12) rfl)) (ck_6 _ (List.mem_of_getElem? (i := 4) rfl)) (ck_37 _ (List.mem_of_getElem? (i := 13) rfl))) rfl rfl rfl (by exact ⟨rfl, hdc_2.1, hdc_2.2, hdd_6⟩) ⟨Nat.le_of_ble_eq_true rfl, Nat.le_of_ble_eq_true rfl⟩) ⟨fun a U g mk q => by obtain ⟨q0, qP, qK⟩ := q; exact ⟨q0, qP, va_K.moved (u := U) (U := U.calling g mk a) (Vm.Alike.refl U.vm) qK⟩, va_recv hKc hPc (ci := 9) (q0 := 0) rfl rfl, fun U hU hW => ⟨rfl, by rw [hU]; exact hPc, va_K.moved hW.alike hKc⟩⟩ rfl rfl hl.1 rfl (lv_room (Nat.le_of_ble_eq_true rfl)) dX8_nameOf_80 ⟨Nat.le_of_ble_eq_true rfl, Nat.le_of_ble_eq_true rfl⟩) (fun r_2 hw => ?_)
    try dsimp only at hw
    have hq_r_2 : r_2 = fs_weekDayOf wd wf mp mb mo sp sb ct := hw
    refine lv_i2l (v := r_2.toInt64) hx hb dX8_nameOf_83 rfl ?_
    exact W.lret (v := r_2.toInt64) hx hb hr (fun t ht hW => ⟨r_2.toInt64, rfl, (by rw [fr_nameOf]; (try rw [← hq_r_2]); (try rw [if_pos rfl]); try rfl), ht⟩) (fun _ h => by cases h) dX8_nameOf_84
  by_cases h_3 : a0 = 3
  · subst h_3
    refine lv_lookup (off := 84) (tgt := 85) hx hb dX8_nameOf_1 (by decide) (by decide) (by decide) ?_
    refine lv_aload_n hx hb dX8_nameOf_85 rfl (lv_at hl 2 rfl) ?_
    refine lv_aload_n hx hb dX8_nameOf_86 rfl (lv_at hl 1 rfl) ?_
    refine va_get (D := (dC, dI)) (ci := 4) (v := .long ct) (C := RX4) (T := TX4) (N := 5) hx hb htw inlX4 hown hK hP 0 rfl rfl 1 (by decide) (htw _ (ck_40 _ (List.mem_of_getElem? (i := 10) rfl))) (fun _ h9 => h9) rfl dX8_nameOf_87 ?_
    have hPc := hP.sub (ws' := [(eO9a sk wd wf mp mb mo sp sb)]) [1] rfl
    have hKc := hK.sub (tys' := []) [] rfl
    refine vp_callSi (W.runV (As := [.long ct]) (rest := []) ⟨hx, hb, hml, hown, htw⟩ (gs_moonOf l dC dI sk wd wf mp mb mo sp sb ct) (cwV 1 htw (xg_V (ck_40 _ (List.mem_of_getElem? (i := 12) rfl)) (ck_37 _ (List.mem_of_getElem? (i := 15) rfl)) (ck_37 _ (List.mem_of_getElem? (i := 16) rfl)) (ck_6 _ (List.mem_of_getElem? (i := 4) rfl)) (ck_37 _ (List.mem_of_getElem? (i := 17) rfl))) rfl rfl rfl (by exact ⟨rfl, hdc_2.1, hdc_2.2, hdd_6⟩) ⟨Nat.le_of_ble_eq_true rfl, Nat.le_of_ble_eq_true rfl⟩) ⟨fun a U g mk q => by obtain ⟨q0, qP, qK⟩ := q; exact ⟨q0, qP, va_K.moved (u := U) (U := U.calling g mk a) (Vm.Alike.refl U.vm) qK⟩, va_recv hKc hPc (ci := 9) (q0 := 0) rfl rfl, fun U hU hW => ⟨rfl, by rw [hU]; exact hPc, va_K.moved hW.alike hKc⟩⟩ rfl rfl hl.1 rfl (lv_room (Nat.le_of_ble_eq_true rfl)) dX8_nameOf_90 ⟨Nat.le_of_ble_eq_true rfl, Nat.le_of_ble_eq_true rfl⟩) (fun r_4 hw => ?_)
    try dsimp only at hw
    have hq_r_4 : r_4 = fs_moonOf wd wf mp mb mo sp sb ct := hw
    refine lv_i2l (v := r_4.toInt64) hx hb dX8_nameOf_93 rfl ?_
    exact W.lret (v := r_4.toInt64) hx hb hr (fun t ht hW => ⟨r_4.toInt64, rfl, (by rw [fr_nameOf]; (try rw [← hq_r_4]); (try rw [if_neg h_1]); (try rw [if_pos rfl]); try rfl), ht⟩) (fun _ h => by cases h) dX8_nameOf_94
  by_cases h_5 : a0 = 14
  · subst h_5
    refine lv_lookup (off := 64) (tgt := 65) hx hb dX8_nameOf_1 (by decide) (by decide) (by decide) ?_
    refine lv_aload_n hx hb dX8_nameOf_65 rfl (lv_at hl 1 rfl) ?_
    refine va_get (D := (dC, dI)) (ci := 4) (v := .long yr) (C := RX4) (T := TX4) (N := 5) hx hb htw inlX4 hown hK hP 0 rfl rfl 2 (by decide) (htw _ (ck_40 _ (List.mem_of_getElem? (i := 8) rfl))) (fun _ h9 => h9) rfl dX8_nameOf_66 ?_
    exact W.lret (v := yr) hx hb hr (fun t ht hW => ⟨yr, rfl, (by rw [fr_nameOf]; (try rw [if_neg h_1]); (try rw [if_neg h_3]); (try rw [if_pos rfl]); try rfl), ht⟩) (fun _ h => by cases h) dX8_nameOf_69
  by_cases h_6 : a0 = 15
  · subst h_6
    refine lv_lookup (off := 59) (tgt := 60) hx hb dX8_nameOf_1 (by decide) (by decide) (by decide) ?_
    refine lv_aload_n hx hb dX8_nameOf_60 rfl (lv_at hl 1 rfl) ?_
    refine va_get (D := (dC, dI)) (ci := 4) (v := .long dy) (C := RX4) (T := TX4) (N := 5) hx hb htw inlX4 hown hK hP 0 rfl rfl 3 (by decide) (htw _ (ck_40 _ (List.mem_of_getElem? (i := 7) rfl))) (fun _ h9 => h9) rfl dX8_nameOf_61 ?_
    exact W.lret (v := dy) hx hb hr (fun t ht hW => ⟨dy, rfl, (by rw [fr_nameOf]; (try rw [if_neg h_1]); (try rw [if_neg h_3]); (try rw [if_neg h_5]); (try rw [if_pos rfl]); try rfl), ht⟩) (fun _ h => by cases h) dX8_nameOf_64
  by_cases h_7 : a0 = 16
  · subst h_7
    refine lv_lookup (off := 94) (tgt := 95) hx hb dX8_nameOf_1 (by decide) (by decide) (by decide) ?_
    refine lv_aload_n hx hb dX8_nameOf_95 rfl (lv_at hl 2 rfl) ?_
    refine lv_aload_n hx hb dX8_nameOf_96 rfl (lv_at hl 1 rfl) ?_
    refine va_get (D := (dC, dI)) (ci := 4) (v := .long ct) (C := RX4) (T := TX4) (N := 5) hx hb htw inlX4 hown hK hP 0 rfl rfl 1 (by decide) (htw _ (ck_40 _ (List.mem_of_getElem? (i := 10) rfl))) (fun _ h9 => h9) rfl dX8_nameOf_97 ?_
    have hPc := hP.sub (ws' := [(eO9a sk wd wf mp mb mo sp sb)]) [1] rfl
    have hKc := hK.sub (tys' := []) [] rfl
    refine vp_callSi (W.runV (As := [.long ct]) (rest := []) ⟨hx, hb, hml, hown, htw⟩ (gs_seasonOf l dC dI sk wd wf mp mb mo sp sb ct) (cwV 1 htw (xg_V (ck_40 _ (List.mem_of_getElem? (i := 13) rfl)) (ck_37 _ (List.mem_of_getElem? (i := 20) rfl)) (ck_37 _ (List.mem_of_getElem? (i := 21) rfl)) (ck_6 _ (List.mem_of_getElem? (i := 4) rfl)) (ck_37 _ (List.mem_of_getElem? (i := 22) rfl))) rfl rfl rfl (by exact ⟨rfl, hdc_2.1, hdc_2.2, hdd_6⟩) ⟨Nat.le_of_ble_eq_true rfl, Nat.le_of_ble_eq_true rfl⟩) ⟨fun a U g mk q => by obtain ⟨q0, qP, qK⟩ := q; exact ⟨q0, qP, va_K.moved (u := U) (U := U.calling g mk a) (Vm.Alike.refl U.vm) qK⟩, va_recv hKc hPc (ci := 9) (q0 := 0) rfl rfl, fun U hU hW => ⟨rfl, by rw [hU]; exact hPc, va_K.moved hW.alike hKc⟩⟩ rfl rfl hl.1 rfl (lv_room (Nat.le_of_ble_eq_true rfl)) dX8_nameOf_100 ⟨Nat.le_of_ble_eq_true rfl, Nat.le_of_ble_eq_true rfl⟩) (fun r_8 hw => ?_)
    try dsimp only at hw
    have hq_r_8 : r_8 = fs_seasonOf wd wf mp mb mo sp sb ct := hw
    refine lv_i2l (v := r_8.toInt64) hx hb dX8_nameOf_103 rfl ?_
    exact W.lret (v := r_8.toInt64) hx hb hr (fun t ht hW => ⟨r_8.toInt64, rfl, (by rw [fr_nameOf]; (try rw [← hq_r_8]); (try rw [if_neg h_1]); (try rw [if_neg h_3]); (try rw [if_neg h_5]); (try rw [if_neg h_6]); (try rw [if_pos rfl]); try rfl), ht⟩) (fun _ h => by cases h) dX8_nameOf_104
  by_cases h_9 : a0 = 22
  · subst h_9
    refine lv_lookup (off := 69) (tgt := 70) hx hb dX8_nameOf_1 (by decide) (by decide) (by decide) ?_
    refine lv_aload_n hx hb dX8_nameOf_70 rfl (lv_at hl 1 rfl) ?_
    refine va_get (D := (dC, dI)) (ci := 4) (v := .long lg) (C := RX4) (T := TX4) (N := 5) hx hb htw inlX4 hown hK hP 0 rfl rfl 4 (by decide) (htw _ (ck_40 _ (List.mem_of_getElem? (i := 9) rfl))) (fun _ h9 => h9) rfl dX8_nameOf_71 ?_
    exact W.lret (v := lg) hx hb hr (fun t ht hW => ⟨lg, rfl, (by rw [fr_nameOf]; (try rw [if_neg h_1]); (try rw [if_neg h_3]); (try rw [if_neg h_5]); (try rw [if_neg h_6]); (try rw [if_neg h_7]); (try rw [if_pos rfl]); try rfl), ht⟩) (fun _ h => by cases h) dX8_nameOf_74
  refine lv_lookup (off := 104) (tgt := 105) hx hb dX8_nameOf_1 (by decide) (by have a0 := xg_ne h_1; have a1 := xg_ne h_3; have a2 := xg_ne h_5; have a3 := xg_ne h_6; have a4 := xg_ne h_7; have a5 := xg_ne h_9; have b0 : (2 : Int32).toInt = 2 := rfl; have b1 : (3 : Int32).toInt = 3 := rfl; have b2 : (14 : Int32).toInt = 14 := rfl; have b3 : (15 : Int32).toInt = 15 := rfl; have b4 : (16 : Int32).toInt = 16 := rfl; have b5 : (22 : Int32).toInt = 22 := rfl; simp only [Op.lookupswitch.offset]; (repeat (rw [if_neg (by omega)])); try rfl) (by decide) ?_
  refine lv_ldc2 (v := (-9223372036854775808)) hx hb hown (htw _ (ck_39 _ (List.mem_of_getElem? (i := 8) rfl))) dX8_nameOf_105 ?_
  exact W.lret (v := (-9223372036854775808)) hx hb hr (fun t ht hW => ⟨(-9223372036854775808), rfl, (by rw [fr_nameOf]; (try rw [if_neg h_1]); (try rw [if_neg h_3]); (try rw [if_neg h_5]); (try rw [if_neg h_6]); (try rw [if_neg h_7]); (try rw [if_neg h_9]); try rfl), ht⟩) (fun _ h => by cases h) dX8_nameOf_108
