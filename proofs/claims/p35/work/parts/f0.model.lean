def ym_word (j : Nat) : Int32 := ((108 :: 97 :: 110 :: 100 :: 32 :: 102 :: 101 :: 97 :: 115 :: 116 :: 32 :: 112 :: 101 :: 114 :: 115 :: 111 :: 110 :: 32 :: 100 :: 101 :: 101 :: 100 :: 32 :: 110 :: 111 :: 116 :: 101 :: 32 :: 115 :: 117 :: 110 :: 32 :: 119 :: 101 :: 101 :: 107 :: 32 :: 109 :: 111 :: 111 :: 110 :: 32 :: 102 :: 114 :: 111 :: 109 :: 32 :: 100 :: 105 :: 101 :: 100 :: 32 :: 121 :: 101 :: 97 :: 114 :: 115 :: 32 :: 100 :: 97 :: 121 :: 115 :: 32 :: 116 :: 105 :: 108 :: 108 :: 32 :: 112 :: 97 :: 121 :: 32 :: 97 :: 108 :: 105 :: 118 :: 101 :: 32 :: 97 :: 102 :: 116 :: 101 :: 114 :: 32 :: 97 :: 110 :: [100, 32, 111, 114, 32, 110, 111, 116, 32, 100, 97, 121, 32, 121, 101, 97, 114, 32, 115, 101, 97, 115, 111, 110, 32, 108, 101, 110, 103, 116, 104, 32]) : List Int32).getD j 0
/-- the first k words' letters are laid -/
def ym_w (k : Nat) : Nat → Int32 := fun j => if j < k then ym_word j else 0
theorem ym_wS (k : Nat) {i v : Int32} (hi : i.toNatClampNeg = k) (hv : ym_word k = v) : upd (ym_w k) i.toNatClampNeg v = ym_w (k + 1) := by
  rw [hi, ← hv]
  funext j
  unfold upd ym_w
  by_cases h : j = k
  · rw [if_pos h, h, if_pos (Nat.lt_succ_self k)]
  · rw [if_neg h]
    by_cases h2 : j < k
    · rw [if_pos h2, if_pos (Nat.lt_succ_of_lt h2)]
    · rw [if_neg h2, if_neg (by omega)]
/-- the fields of a fresh reference -/
def ym_g (k : Nat) : Int32 := if k = 5 then -1 else 0
def ym_l (_ : Nat) : Int64 := 0
def ym_rf (q0 q3 q24 q28 q29 q30 q31 q32 q33 q34 q35 q36 q37 q38 q39 q40 q41 q42 q43 q45 q46 q55 q56 q60 q61 q65 q66 q68 q69 q73 q74 q75 : Nat) : Nat → Nat
  | 0 => q0
  | 3 => q3
  | 24 => q24
  | 28 => q28
  | 29 => q29
  | 30 => q30
  | 31 => q31
  | 32 => q32
  | 33 => q33
  | 34 => q34
  | 35 => q35
  | 36 => q36
  | 37 => q37
  | 38 => q38
  | 39 => q39
  | 40 => q40
  | 41 => q41
  | 42 => q42
  | 43 => q43
  | 45 => q45
  | 46 => q46
  | 55 => q55
  | 56 => q56
  | 60 => q60
  | 61 => q61
  | 65 => q65
  | 66 => q66
  | 68 => q68
  | 69 => q69
  | 73 => q73
  | 74 => q74
  | 75 => q75
  | _ => 0
def ym_ck (q0 q3 q24 q28 q29 q30 q31 q32 q33 q34 q35 q36 q37 q38 q39 q40 q41 q42 q43 q45 q46 q55 q56 q60 q61 q65 q66 q68 q69 q73 q74 q75 : ClassId) : Nat → ClassId
  | 0 => q0
  | 3 => q3
  | 24 => q24
  | 28 => q28
  | 29 => q29
  | 30 => q30
  | 31 => q31
  | 32 => q32
  | 33 => q33
  | 34 => q34
  | 35 => q35
  | 36 => q36
  | 37 => q37
  | 38 => q38
  | 39 => q39
  | 40 => q40
  | 41 => q41
  | 42 => q42
  | 43 => q43
  | 45 => q45
  | 46 => q46
  | 55 => q55
  | 56 => q56
  | 60 => q60
  | 61 => q61
  | 65 => q65
  | 66 => q66
  | 68 => q68
  | 69 => q69
  | 73 => q73
  | 74 => q74
  | 75 => q75
  | _ => q0

theorem dX12_init_0 : decode cX12_init 0 = .ok (.aload_n 0, 1) := zk_42 (by decide +kernel)
theorem dX12_init_1 : decode cX12_init 1 = .ok (.invokespecial 1, 3) := zk_183 (by decide +kernel)
theorem dX12_init_4 : decode cX12_init 4 = .ok (.aload_n 0, 1) := zk_42 (by decide +kernel)
theorem dX12_init_5 : decode cX12_init 5 = .ok (.sipush 900, 3) := zk_17 (by decide +kernel)
theorem dX12_init_8 : decode cX12_init 8 = .ok (.newarray .int, 2) := by decide +kernel
theorem dX12_init_10 : decode cX12_init 10 = .ok (.putfield 7, 3) := zk_181 (by decide +kernel)
theorem dX12_init_13 : decode cX12_init 13 = .ok (.aload_n 0, 1) := zk_42 (by decide +kernel)
theorem dX12_init_14 : decode cX12_init 14 = .ok (.bipush 118, 2) := zk_16 (by decide +kernel)
theorem dX12_init_16 : decode cX12_init 16 = .ok (.newarray .int, 2) := by decide +kernel
theorem dX12_init_18 : decode cX12_init 18 = .ok (.dup, 1) := zk_89 (by decide +kernel)
theorem dX12_init_19 : decode cX12_init 19 = .ok (.iconst 0, 1) := zk_3 (by decide +kernel)
theorem dX12_init_20 : decode cX12_init 20 = .ok (.bipush 108, 2) := zk_16 (by decide +kernel)
theorem dX12_init_22 : decode cX12_init 22 = .ok (.iastore, 1) := zk_79 (by decide +kernel)
theorem dX12_init_23 : decode cX12_init 23 = .ok (.dup, 1) := zk_89 (by decide +kernel)
theorem dX12_init_24 : decode cX12_init 24 = .ok (.iconst 1, 1) := zk_4 (by decide +kernel)
theorem dX12_init_25 : decode cX12_init 25 = .ok (.bipush 97, 2) := zk_16 (by decide +kernel)
theorem dX12_init_27 : decode cX12_init 27 = .ok (.iastore, 1) := zk_79 (by decide +kernel)
theorem dX12_init_28 : decode cX12_init 28 = .ok (.dup, 1) := zk_89 (by decide +kernel)
theorem dX12_init_29 : decode cX12_init 29 = .ok (.iconst 2, 1) := zk_5 (by decide +kernel)
theorem dX12_init_30 : decode cX12_init 30 = .ok (.bipush 110, 2) := zk_16 (by decide +kernel)
theorem dX12_init_32 : decode cX12_init 32 = .ok (.iastore, 1) := zk_79 (by decide +kernel)
theorem dX12_init_33 : decode cX12_init 33 = .ok (.dup, 1) := zk_89 (by decide +kernel)
theorem dX12_init_34 : decode cX12_init 34 = .ok (.iconst 3, 1) := zk_6 (by decide +kernel)
theorem dX12_init_35 : decode cX12_init 35 = .ok (.bipush 100, 2) := zk_16 (by decide +kernel)
theorem dX12_init_37 : decode cX12_init 37 = .ok (.iastore, 1) := zk_79 (by decide +kernel)
theorem dX12_init_38 : decode cX12_init 38 = .ok (.dup, 1) := zk_89 (by decide +kernel)
theorem dX12_init_39 : decode cX12_init 39 = .ok (.iconst 4, 1) := zk_7 (by decide +kernel)
theorem dX12_init_40 : decode cX12_init 40 = .ok (.bipush 32, 2) := zk_16 (by decide +kernel)
theorem dX12_init_42 : decode cX12_init 42 = .ok (.iastore, 1) := zk_79 (by decide +kernel)
theorem dX12_init_43 : decode cX12_init 43 = .ok (.dup, 1) := zk_89 (by decide +kernel)
theorem dX12_init_44 : decode cX12_init 44 = .ok (.iconst 5, 1) := zk_8 (by decide +kernel)
theorem dX12_init_45 : decode cX12_init 45 = .ok (.bipush 102, 2) := zk_16 (by decide +kernel)
theorem dX12_init_47 : decode cX12_init 47 = .ok (.iastore, 1) := zk_79 (by decide +kernel)
theorem dX12_init_48 : decode cX12_init 48 = .ok (.dup, 1) := zk_89 (by decide +kernel)
theorem dX12_init_49 : decode cX12_init 49 = .ok (.bipush 6, 2) := zk_16 (by decide +kernel)
theorem dX12_init_51 : decode cX12_init 51 = .ok (.bipush 101, 2) := zk_16 (by decide +kernel)
theorem dX12_init_53 : decode cX12_init 53 = .ok (.iastore, 1) := zk_79 (by decide +kernel)
theorem dX12_init_54 : decode cX12_init 54 = .ok (.dup, 1) := zk_89 (by decide +kernel)
theorem dX12_init_55 : decode cX12_init 55 = .ok (.bipush 7, 2) := zk_16 (by decide +kernel)
theorem dX12_init_57 : decode cX12_init 57 = .ok (.bipush 97, 2) := zk_16 (by decide +kernel)
theorem dX12_init_59 : decode cX12_init 59 = .ok (.iastore, 1) := zk_79 (by decide +kernel)
theorem dX12_init_60 : decode cX12_init 60 = .ok (.dup, 1) := zk_89 (by decide +kernel)
theorem dX12_init_61 : decode cX12_init 61 = .ok (.bipush 8, 2) := zk_16 (by decide +kernel)
theorem dX12_init_63 : decode cX12_init 63 = .ok (.bipush 115, 2) := zk_16 (by decide +kernel)
theorem dX12_init_65 : decode cX12_init 65 = .ok (.iastore, 1) := zk_79 (by decide +kernel)
theorem dX12_init_66 : decode cX12_init 66 = .ok (.dup, 1) := zk_89 (by decide +kernel)
theorem dX12_init_67 : decode cX12_init 67 = .ok (.bipush 9, 2) := zk_16 (by decide +kernel)
theorem dX12_init_69 : decode cX12_init 69 = .ok (.bipush 116, 2) := zk_16 (by decide +kernel)
theorem dX12_init_71 : decode cX12_init 71 = .ok (.iastore, 1) := zk_79 (by decide +kernel)
theorem dX12_init_72 : decode cX12_init 72 = .ok (.dup, 1) := zk_89 (by decide +kernel)
theorem dX12_init_73 : decode cX12_init 73 = .ok (.bipush 10, 2) := zk_16 (by decide +kernel)
theorem dX12_init_75 : decode cX12_init 75 = .ok (.bipush 32, 2) := zk_16 (by decide +kernel)
theorem dX12_init_77 : decode cX12_init 77 = .ok (.iastore, 1) := zk_79 (by decide +kernel)
theorem dX12_init_78 : decode cX12_init 78 = .ok (.dup, 1) := zk_89 (by decide +kernel)
theorem dX12_init_79 : decode cX12_init 79 = .ok (.bipush 11, 2) := zk_16 (by decide +kernel)
theorem dX12_init_81 : decode cX12_init 81 = .ok (.bipush 112, 2) := zk_16 (by decide +kernel)
theorem dX12_init_83 : decode cX12_init 83 = .ok (.iastore, 1) := zk_79 (by decide +kernel)
theorem dX12_init_84 : decode cX12_init 84 = .ok (.dup, 1) := zk_89 (by decide +kernel)
theorem dX12_init_85 : decode cX12_init 85 = .ok (.bipush 12, 2) := zk_16 (by decide +kernel)
theorem dX12_init_87 : decode cX12_init 87 = .ok (.bipush 101, 2) := zk_16 (by decide +kernel)
theorem dX12_init_89 : decode cX12_init 89 = .ok (.iastore, 1) := zk_79 (by decide +kernel)
theorem dX12_init_90 : decode cX12_init 90 = .ok (.dup, 1) := zk_89 (by decide +kernel)
theorem dX12_init_91 : decode cX12_init 91 = .ok (.bipush 13, 2) := zk_16 (by decide +kernel)
theorem dX12_init_93 : decode cX12_init 93 = .ok (.bipush 114, 2) := zk_16 (by decide +kernel)
theorem dX12_init_95 : decode cX12_init 95 = .ok (.iastore, 1) := zk_79 (by decide +kernel)
theorem dX12_init_96 : decode cX12_init 96 = .ok (.dup, 1) := zk_89 (by decide +kernel)
theorem dX12_init_97 : decode cX12_init 97 = .ok (.bipush 14, 2) := zk_16 (by decide +kernel)
theorem dX12_init_99 : decode cX12_init 99 = .ok (.bipush 115, 2) := zk_16 (by decide +kernel)
theorem dX12_init_101 : decode cX12_init 101 = .ok (.iastore, 1) := zk_79 (by decide +kernel)
theorem dX12_init_102 : decode cX12_init 102 = .ok (.dup, 1) := zk_89 (by decide +kernel)
theorem dX12_init_103 : decode cX12_init 103 = .ok (.bipush 15, 2) := zk_16 (by decide +kernel)
theorem dX12_init_105 : decode cX12_init 105 = .ok (.bipush 111, 2) := zk_16 (by decide +kernel)
theorem dX12_init_107 : decode cX12_init 107 = .ok (.iastore, 1) := zk_79 (by decide +kernel)
theorem dX12_init_108 : decode cX12_init 108 = .ok (.dup, 1) := zk_89 (by decide +kernel)
theorem dX12_init_109 : decode cX12_init 109 = .ok (.bipush 16, 2) := zk_16 (by decide +kernel)
theorem dX12_init_111 : decode cX12_init 111 = .ok (.bipush 110, 2) := zk_16 (by decide +kernel)
theorem dX12_init_113 : decode cX12_init 113 = .ok (.iastore, 1) := zk_79 (by decide +kernel)
theorem dX12_init_114 : decode cX12_init 114 = .ok (.dup, 1) := zk_89 (by decide +kernel)
theorem dX12_init_115 : decode cX12_init 115 = .ok (.bipush 17, 2) := zk_16 (by decide +kernel)
theorem dX12_init_117 : decode cX12_init 117 = .ok (.bipush 32, 2) := zk_16 (by decide +kernel)
theorem dX12_init_119 : decode cX12_init 119 = .ok (.iastore, 1) := zk_79 (by decide +kernel)
theorem dX12_init_120 : decode cX12_init 120 = .ok (.dup, 1) := zk_89 (by decide +kernel)
theorem dX12_init_121 : decode cX12_init 121 = .ok (.bipush 18, 2) := zk_16 (by decide +kernel)
theorem dX12_init_123 : decode cX12_init 123 = .ok (.bipush 100, 2) := zk_16 (by decide +kernel)
theorem dX12_init_125 : decode cX12_init 125 = .ok (.iastore, 1) := zk_79 (by decide +kernel)
theorem dX12_init_126 : decode cX12_init 126 = .ok (.dup, 1) := zk_89 (by decide +kernel)
theorem dX12_init_127 : decode cX12_init 127 = .ok (.bipush 19, 2) := zk_16 (by decide +kernel)
theorem dX12_init_129 : decode cX12_init 129 = .ok (.bipush 101, 2) := zk_16 (by decide +kernel)
theorem dX12_init_131 : decode cX12_init 131 = .ok (.iastore, 1) := zk_79 (by decide +kernel)
theorem dX12_init_132 : decode cX12_init 132 = .ok (.dup, 1) := zk_89 (by decide +kernel)
theorem dX12_init_133 : decode cX12_init 133 = .ok (.bipush 20, 2) := zk_16 (by decide +kernel)
theorem dX12_init_135 : decode cX12_init 135 = .ok (.bipush 101, 2) := zk_16 (by decide +kernel)
theorem dX12_init_137 : decode cX12_init 137 = .ok (.iastore, 1) := zk_79 (by decide +kernel)
theorem dX12_init_138 : decode cX12_init 138 = .ok (.dup, 1) := zk_89 (by decide +kernel)
theorem dX12_init_139 : decode cX12_init 139 = .ok (.bipush 21, 2) := zk_16 (by decide +kernel)
theorem dX12_init_141 : decode cX12_init 141 = .ok (.bipush 100, 2) := zk_16 (by decide +kernel)
theorem dX12_init_143 : decode cX12_init 143 = .ok (.iastore, 1) := zk_79 (by decide +kernel)
theorem dX12_init_144 : decode cX12_init 144 = .ok (.dup, 1) := zk_89 (by decide +kernel)
theorem dX12_init_145 : decode cX12_init 145 = .ok (.bipush 22, 2) := zk_16 (by decide +kernel)
theorem dX12_init_147 : decode cX12_init 147 = .ok (.bipush 32, 2) := zk_16 (by decide +kernel)
theorem dX12_init_149 : decode cX12_init 149 = .ok (.iastore, 1) := zk_79 (by decide +kernel)
theorem dX12_init_150 : decode cX12_init 150 = .ok (.dup, 1) := zk_89 (by decide +kernel)
theorem dX12_init_151 : decode cX12_init 151 = .ok (.bipush 23, 2) := zk_16 (by decide +kernel)
theorem dX12_init_153 : decode cX12_init 153 = .ok (.bipush 110, 2) := zk_16 (by decide +kernel)
theorem dX12_init_155 : decode cX12_init 155 = .ok (.iastore, 1) := zk_79 (by decide +kernel)
theorem dX12_init_156 : decode cX12_init 156 = .ok (.dup, 1) := zk_89 (by decide +kernel)
theorem dX12_init_157 : decode cX12_init 157 = .ok (.bipush 24, 2) := zk_16 (by decide +kernel)
theorem dX12_init_159 : decode cX12_init 159 = .ok (.bipush 111, 2) := zk_16 (by decide +kernel)
theorem dX12_init_161 : decode cX12_init 161 = .ok (.iastore, 1) := zk_79 (by decide +kernel)
theorem dX12_init_162 : decode cX12_init 162 = .ok (.dup, 1) := zk_89 (by decide +kernel)
theorem dX12_init_163 : decode cX12_init 163 = .ok (.bipush 25, 2) := zk_16 (by decide +kernel)
theorem dX12_init_165 : decode cX12_init 165 = .ok (.bipush 116, 2) := zk_16 (by decide +kernel)
theorem dX12_init_167 : decode cX12_init 167 = .ok (.iastore, 1) := zk_79 (by decide +kernel)
theorem dX12_init_168 : decode cX12_init 168 = .ok (.dup, 1) := zk_89 (by decide +kernel)
theorem dX12_init_169 : decode cX12_init 169 = .ok (.bipush 26, 2) := zk_16 (by decide +kernel)
theorem dX12_init_171 : decode cX12_init 171 = .ok (.bipush 101, 2) := zk_16 (by decide +kernel)
theorem dX12_init_173 : decode cX12_init 173 = .ok (.iastore, 1) := zk_79 (by decide +kernel)
theorem dX12_init_174 : decode cX12_init 174 = .ok (.dup, 1) := zk_89 (by decide +kernel)
theorem dX12_init_175 : decode cX12_init 175 = .ok (.bipush 27, 2) := zk_16 (by decide +kernel)
theorem dX12_init_177 : decode cX12_init 177 = .ok (.bipush 32, 2) := zk_16 (by decide +kernel)
theorem dX12_init_179 : decode cX12_init 179 = .ok (.iastore, 1) := zk_79 (by decide +kernel)
theorem dX12_init_180 : decode cX12_init 180 = .ok (.dup, 1) := zk_89 (by decide +kernel)
theorem dX12_init_181 : decode cX12_init 181 = .ok (.bipush 28, 2) := zk_16 (by decide +kernel)
theorem dX12_init_183 : decode cX12_init 183 = .ok (.bipush 115, 2) := zk_16 (by decide +kernel)
theorem dX12_init_185 : decode cX12_init 185 = .ok (.iastore, 1) := zk_79 (by decide +kernel)
theorem dX12_init_186 : decode cX12_init 186 = .ok (.dup, 1) := zk_89 (by decide +kernel)
theorem dX12_init_187 : decode cX12_init 187 = .ok (.bipush 29, 2) := zk_16 (by decide +kernel)
theorem dX12_init_189 : decode cX12_init 189 = .ok (.bipush 117, 2) := zk_16 (by decide +kernel)
theorem dX12_init_191 : decode cX12_init 191 = .ok (.iastore, 1) := zk_79 (by decide +kernel)
theorem dX12_init_192 : decode cX12_init 192 = .ok (.dup, 1) := zk_89 (by decide +kernel)
theorem dX12_init_193 : decode cX12_init 193 = .ok (.bipush 30, 2) := zk_16 (by decide +kernel)
theorem dX12_init_195 : decode cX12_init 195 = .ok (.bipush 110, 2) := zk_16 (by decide +kernel)
theorem dX12_init_197 : decode cX12_init 197 = .ok (.iastore, 1) := zk_79 (by decide +kernel)
theorem dX12_init_198 : decode cX12_init 198 = .ok (.dup, 1) := zk_89 (by decide +kernel)
theorem dX12_init_199 : decode cX12_init 199 = .ok (.bipush 31, 2) := zk_16 (by decide +kernel)
theorem dX12_init_201 : decode cX12_init 201 = .ok (.bipush 32, 2) := zk_16 (by decide +kernel)
theorem dX12_init_203 : decode cX12_init 203 = .ok (.iastore, 1) := zk_79 (by decide +kernel)
theorem dX12_init_204 : decode cX12_init 204 = .ok (.dup, 1) := zk_89 (by decide +kernel)
theorem dX12_init_205 : decode cX12_init 205 = .ok (.bipush 32, 2) := zk_16 (by decide +kernel)
theorem dX12_init_207 : decode cX12_init 207 = .ok (.bipush 119, 2) := zk_16 (by decide +kernel)
theorem dX12_init_209 : decode cX12_init 209 = .ok (.iastore, 1) := zk_79 (by decide +kernel)
theorem dX12_init_210 : decode cX12_init 210 = .ok (.dup, 1) := zk_89 (by decide +kernel)
theorem dX12_init_211 : decode cX12_init 211 = .ok (.bipush 33, 2) := zk_16 (by decide +kernel)
theorem dX12_init_213 : decode cX12_init 213 = .ok (.bipush 101, 2) := zk_16 (by decide +kernel)
theorem dX12_init_215 : decode cX12_init 215 = .ok (.iastore, 1) := zk_79 (by decide +kernel)
theorem dX12_init_216 : decode cX12_init 216 = .ok (.dup, 1) := zk_89 (by decide +kernel)
theorem dX12_init_217 : decode cX12_init 217 = .ok (.bipush 34, 2) := zk_16 (by decide +kernel)
theorem dX12_init_219 : decode cX12_init 219 = .ok (.bipush 101, 2) := zk_16 (by decide +kernel)
theorem dX12_init_221 : decode cX12_init 221 = .ok (.iastore, 1) := zk_79 (by decide +kernel)
theorem dX12_init_222 : decode cX12_init 222 = .ok (.dup, 1) := zk_89 (by decide +kernel)
theorem dX12_init_223 : decode cX12_init 223 = .ok (.bipush 35, 2) := zk_16 (by decide +kernel)
theorem dX12_init_225 : decode cX12_init 225 = .ok (.bipush 107, 2) := zk_16 (by decide +kernel)
theorem dX12_init_227 : decode cX12_init 227 = .ok (.iastore, 1) := zk_79 (by decide +kernel)
theorem dX12_init_228 : decode cX12_init 228 = .ok (.dup, 1) := zk_89 (by decide +kernel)
theorem dX12_init_229 : decode cX12_init 229 = .ok (.bipush 36, 2) := zk_16 (by decide +kernel)
theorem dX12_init_231 : decode cX12_init 231 = .ok (.bipush 32, 2) := zk_16 (by decide +kernel)
theorem dX12_init_233 : decode cX12_init 233 = .ok (.iastore, 1) := zk_79 (by decide +kernel)
theorem dX12_init_234 : decode cX12_init 234 = .ok (.dup, 1) := zk_89 (by decide +kernel)
theorem dX12_init_235 : decode cX12_init 235 = .ok (.bipush 37, 2) := zk_16 (by decide +kernel)
theorem dX12_init_237 : decode cX12_init 237 = .ok (.bipush 109, 2) := zk_16 (by decide +kernel)
theorem dX12_init_239 : decode cX12_init 239 = .ok (.iastore, 1) := zk_79 (by decide +kernel)
theorem dX12_init_240 : decode cX12_init 240 = .ok (.dup, 1) := zk_89 (by decide +kernel)
theorem dX12_init_241 : decode cX12_init 241 = .ok (.bipush 38, 2) := zk_16 (by decide +kernel)
theorem dX12_init_243 : decode cX12_init 243 = .ok (.bipush 111, 2) := zk_16 (by decide +kernel)
theorem dX12_init_245 : decode cX12_init 245 = .ok (.iastore, 1) := zk_79 (by decide +kernel)
theorem dX12_init_246 : decode cX12_init 246 = .ok (.dup, 1) := zk_89 (by decide +kernel)
theorem dX12_init_247 : decode cX12_init 247 = .ok (.bipush 39, 2) := zk_16 (by decide +kernel)
theorem dX12_init_249 : decode cX12_init 249 = .ok (.bipush 111, 2) := zk_16 (by decide +kernel)
theorem dX12_init_251 : decode cX12_init 251 = .ok (.iastore, 1) := zk_79 (by decide +kernel)
theorem dX12_init_252 : decode cX12_init 252 = .ok (.dup, 1) := zk_89 (by decide +kernel)
theorem dX12_init_253 : decode cX12_init 253 = .ok (.bipush 40, 2) := zk_16 (by decide +kernel)
theorem dX12_init_255 : decode cX12_init 255 = .ok (.bipush 110, 2) := zk_16 (by decide +kernel)
theorem dX12_init_257 : decode cX12_init 257 = .ok (.iastore, 1) := zk_79 (by decide +kernel)
theorem dX12_init_258 : decode cX12_init 258 = .ok (.dup, 1) := zk_89 (by decide +kernel)
theorem dX12_init_259 : decode cX12_init 259 = .ok (.bipush 41, 2) := zk_16 (by decide +kernel)
theorem dX12_init_261 : decode cX12_init 261 = .ok (.bipush 32, 2) := zk_16 (by decide +kernel)
theorem dX12_init_263 : decode cX12_init 263 = .ok (.iastore, 1) := zk_79 (by decide +kernel)
theorem dX12_init_264 : decode cX12_init 264 = .ok (.dup, 1) := zk_89 (by decide +kernel)
theorem dX12_init_265 : decode cX12_init 265 = .ok (.bipush 42, 2) := zk_16 (by decide +kernel)
theorem dX12_init_267 : decode cX12_init 267 = .ok (.bipush 102, 2) := zk_16 (by decide +kernel)
theorem dX12_init_269 : decode cX12_init 269 = .ok (.iastore, 1) := zk_79 (by decide +kernel)
theorem dX12_init_270 : decode cX12_init 270 = .ok (.dup, 1) := zk_89 (by decide +kernel)
theorem dX12_init_271 : decode cX12_init 271 = .ok (.bipush 43, 2) := zk_16 (by decide +kernel)
theorem dX12_init_273 : decode cX12_init 273 = .ok (.bipush 114, 2) := zk_16 (by decide +kernel)
theorem dX12_init_275 : decode cX12_init 275 = .ok (.iastore, 1) := zk_79 (by decide +kernel)
theorem dX12_init_276 : decode cX12_init 276 = .ok (.dup, 1) := zk_89 (by decide +kernel)
theorem dX12_init_277 : decode cX12_init 277 = .ok (.bipush 44, 2) := zk_16 (by decide +kernel)
theorem dX12_init_279 : decode cX12_init 279 = .ok (.bipush 111, 2) := zk_16 (by decide +kernel)
theorem dX12_init_281 : decode cX12_init 281 = .ok (.iastore, 1) := zk_79 (by decide +kernel)
theorem dX12_init_282 : decode cX12_init 282 = .ok (.dup, 1) := zk_89 (by decide +kernel)
theorem dX12_init_283 : decode cX12_init 283 = .ok (.bipush 45, 2) := zk_16 (by decide +kernel)
theorem dX12_init_285 : decode cX12_init 285 = .ok (.bipush 109, 2) := zk_16 (by decide +kernel)
theorem dX12_init_287 : decode cX12_init 287 = .ok (.iastore, 1) := zk_79 (by decide +kernel)
theorem dX12_init_288 : decode cX12_init 288 = .ok (.dup, 1) := zk_89 (by decide +kernel)
theorem dX12_init_289 : decode cX12_init 289 = .ok (.bipush 46, 2) := zk_16 (by decide +kernel)
theorem dX12_init_291 : decode cX12_init 291 = .ok (.bipush 32, 2) := zk_16 (by decide +kernel)
theorem dX12_init_293 : decode cX12_init 293 = .ok (.iastore, 1) := zk_79 (by decide +kernel)
theorem dX12_init_294 : decode cX12_init 294 = .ok (.dup, 1) := zk_89 (by decide +kernel)
theorem dX12_init_295 : decode cX12_init 295 = .ok (.bipush 47, 2) := zk_16 (by decide +kernel)
theorem dX12_init_297 : decode cX12_init 297 = .ok (.bipush 100, 2) := zk_16 (by decide +kernel)
theorem dX12_init_299 : decode cX12_init 299 = .ok (.iastore, 1) := zk_79 (by decide +kernel)
theorem dX12_init_300 : decode cX12_init 300 = .ok (.dup, 1) := zk_89 (by decide +kernel)
theorem dX12_init_301 : decode cX12_init 301 = .ok (.bipush 48, 2) := zk_16 (by decide +kernel)
theorem dX12_init_303 : decode cX12_init 303 = .ok (.bipush 105, 2) := zk_16 (by decide +kernel)
theorem dX12_init_305 : decode cX12_init 305 = .ok (.iastore, 1) := zk_79 (by decide +kernel)
theorem dX12_init_306 : decode cX12_init 306 = .ok (.dup, 1) := zk_89 (by decide +kernel)
theorem dX12_init_307 : decode cX12_init 307 = .ok (.bipush 49, 2) := zk_16 (by decide +kernel)
theorem dX12_init_309 : decode cX12_init 309 = .ok (.bipush 101, 2) := zk_16 (by decide +kernel)
theorem dX12_init_311 : decode cX12_init 311 = .ok (.iastore, 1) := zk_79 (by decide +kernel)
theorem dX12_init_312 : decode cX12_init 312 = .ok (.dup, 1) := zk_89 (by decide +kernel)
theorem dX12_init_313 : decode cX12_init 313 = .ok (.bipush 50, 2) := zk_16 (by decide +kernel)
theorem dX12_init_315 : decode cX12_init 315 = .ok (.bipush 100, 2) := zk_16 (by decide +kernel)
theorem dX12_init_317 : decode cX12_init 317 = .ok (.iastore, 1) := zk_79 (by decide +kernel)
theorem dX12_init_318 : decode cX12_init 318 = .ok (.dup, 1) := zk_89 (by decide +kernel)
theorem dX12_init_319 : decode cX12_init 319 = .ok (.bipush 51, 2) := zk_16 (by decide +kernel)
theorem dX12_init_321 : decode cX12_init 321 = .ok (.bipush 32, 2) := zk_16 (by decide +kernel)
theorem dX12_init_323 : decode cX12_init 323 = .ok (.iastore, 1) := zk_79 (by decide +kernel)
theorem dX12_init_324 : decode cX12_init 324 = .ok (.dup, 1) := zk_89 (by decide +kernel)
theorem dX12_init_325 : decode cX12_init 325 = .ok (.bipush 52, 2) := zk_16 (by decide +kernel)
theorem dX12_init_327 : decode cX12_init 327 = .ok (.bipush 121, 2) := zk_16 (by decide +kernel)
theorem dX12_init_329 : decode cX12_init 329 = .ok (.iastore, 1) := zk_79 (by decide +kernel)
theorem dX12_init_330 : decode cX12_init 330 = .ok (.dup, 1) := zk_89 (by decide +kernel)
theorem dX12_init_331 : decode cX12_init 331 = .ok (.bipush 53, 2) := zk_16 (by decide +kernel)
theorem dX12_init_333 : decode cX12_init 333 = .ok (.bipush 101, 2) := zk_16 (by decide +kernel)
theorem dX12_init_335 : decode cX12_init 335 = .ok (.iastore, 1) := zk_79 (by decide +kernel)
theorem dX12_init_336 : decode cX12_init 336 = .ok (.dup, 1) := zk_89 (by decide +kernel)
theorem dX12_init_337 : decode cX12_init 337 = .ok (.bipush 54, 2) := zk_16 (by decide +kernel)
theorem dX12_init_339 : decode cX12_init 339 = .ok (.bipush 97, 2) := zk_16 (by decide +kernel)
theorem dX12_init_341 : decode cX12_init 341 = .ok (.iastore, 1) := zk_79 (by decide +kernel)
theorem dX12_init_342 : decode cX12_init 342 = .ok (.dup, 1) := zk_89 (by decide +kernel)
theorem dX12_init_343 : decode cX12_init 343 = .ok (.bipush 55, 2) := zk_16 (by decide +kernel)
theorem dX12_init_345 : decode cX12_init 345 = .ok (.bipush 114, 2) := zk_16 (by decide +kernel)
theorem dX12_init_347 : decode cX12_init 347 = .ok (.iastore, 1) := zk_79 (by decide +kernel)
theorem dX12_init_348 : decode cX12_init 348 = .ok (.dup, 1) := zk_89 (by decide +kernel)
theorem dX12_init_349 : decode cX12_init 349 = .ok (.bipush 56, 2) := zk_16 (by decide +kernel)
theorem dX12_init_351 : decode cX12_init 351 = .ok (.bipush 115, 2) := zk_16 (by decide +kernel)
theorem dX12_init_353 : decode cX12_init 353 = .ok (.iastore, 1) := zk_79 (by decide +kernel)
theorem dX12_init_354 : decode cX12_init 354 = .ok (.dup, 1) := zk_89 (by decide +kernel)
theorem dX12_init_355 : decode cX12_init 355 = .ok (.bipush 57, 2) := zk_16 (by decide +kernel)
theorem dX12_init_357 : decode cX12_init 357 = .ok (.bipush 32, 2) := zk_16 (by decide +kernel)
theorem dX12_init_359 : decode cX12_init 359 = .ok (.iastore, 1) := zk_79 (by decide +kernel)
theorem dX12_init_360 : decode cX12_init 360 = .ok (.dup, 1) := zk_89 (by decide +kernel)
theorem dX12_init_361 : decode cX12_init 361 = .ok (.bipush 58, 2) := zk_16 (by decide +kernel)
theorem dX12_init_363 : decode cX12_init 363 = .ok (.bipush 100, 2) := zk_16 (by decide +kernel)
theorem dX12_init_365 : decode cX12_init 365 = .ok (.iastore, 1) := zk_79 (by decide +kernel)
theorem dX12_init_366 : decode cX12_init 366 = .ok (.dup, 1) := zk_89 (by decide +kernel)
theorem dX12_init_367 : decode cX12_init 367 = .ok (.bipush 59, 2) := zk_16 (by decide +kernel)
theorem dX12_init_369 : decode cX12_init 369 = .ok (.bipush 97, 2) := zk_16 (by decide +kernel)
theorem dX12_init_371 : decode cX12_init 371 = .ok (.iastore, 1) := zk_79 (by decide +kernel)
theorem dX12_init_372 : decode cX12_init 372 = .ok (.dup, 1) := zk_89 (by decide +kernel)
theorem dX12_init_373 : decode cX12_init 373 = .ok (.bipush 60, 2) := zk_16 (by decide +kernel)
theorem dX12_init_375 : decode cX12_init 375 = .ok (.bipush 121, 2) := zk_16 (by decide +kernel)
theorem dX12_init_377 : decode cX12_init 377 = .ok (.iastore, 1) := zk_79 (by decide +kernel)
theorem dX12_init_378 : decode cX12_init 378 = .ok (.dup, 1) := zk_89 (by decide +kernel)
theorem dX12_init_379 : decode cX12_init 379 = .ok (.bipush 61, 2) := zk_16 (by decide +kernel)
theorem dX12_init_381 : decode cX12_init 381 = .ok (.bipush 115, 2) := zk_16 (by decide +kernel)
theorem dX12_init_383 : decode cX12_init 383 = .ok (.iastore, 1) := zk_79 (by decide +kernel)
theorem dX12_init_384 : decode cX12_init 384 = .ok (.dup, 1) := zk_89 (by decide +kernel)
theorem dX12_init_385 : decode cX12_init 385 = .ok (.bipush 62, 2) := zk_16 (by decide +kernel)
theorem dX12_init_387 : decode cX12_init 387 = .ok (.bipush 32, 2) := zk_16 (by decide +kernel)
theorem dX12_init_389 : decode cX12_init 389 = .ok (.iastore, 1) := zk_79 (by decide +kernel)
theorem dX12_init_390 : decode cX12_init 390 = .ok (.dup, 1) := zk_89 (by decide +kernel)
theorem dX12_init_391 : decode cX12_init 391 = .ok (.bipush 63, 2) := zk_16 (by decide +kernel)
theorem dX12_init_393 : decode cX12_init 393 = .ok (.bipush 116, 2) := zk_16 (by decide +kernel)
theorem dX12_init_395 : decode cX12_init 395 = .ok (.iastore, 1) := zk_79 (by decide +kernel)
theorem dX12_init_396 : decode cX12_init 396 = .ok (.dup, 1) := zk_89 (by decide +kernel)
theorem dX12_init_397 : decode cX12_init 397 = .ok (.bipush 64, 2) := zk_16 (by decide +kernel)
theorem dX12_init_399 : decode cX12_init 399 = .ok (.bipush 105, 2) := zk_16 (by decide +kernel)
theorem dX12_init_401 : decode cX12_init 401 = .ok (.iastore, 1) := zk_79 (by decide +kernel)
theorem dX12_init_402 : decode cX12_init 402 = .ok (.dup, 1) := zk_89 (by decide +kernel)
theorem dX12_init_403 : decode cX12_init 403 = .ok (.bipush 65, 2) := zk_16 (by decide +kernel)
theorem dX12_init_405 : decode cX12_init 405 = .ok (.bipush 108, 2) := zk_16 (by decide +kernel)
theorem dX12_init_407 : decode cX12_init 407 = .ok (.iastore, 1) := zk_79 (by decide +kernel)
theorem dX12_init_408 : decode cX12_init 408 = .ok (.dup, 1) := zk_89 (by decide +kernel)
theorem dX12_init_409 : decode cX12_init 409 = .ok (.bipush 66, 2) := zk_16 (by decide +kernel)
theorem dX12_init_411 : decode cX12_init 411 = .ok (.bipush 108, 2) := zk_16 (by decide +kernel)
theorem dX12_init_413 : decode cX12_init 413 = .ok (.iastore, 1) := zk_79 (by decide +kernel)
theorem dX12_init_414 : decode cX12_init 414 = .ok (.dup, 1) := zk_89 (by decide +kernel)
theorem dX12_init_415 : decode cX12_init 415 = .ok (.bipush 67, 2) := zk_16 (by decide +kernel)
theorem dX12_init_417 : decode cX12_init 417 = .ok (.bipush 32, 2) := zk_16 (by decide +kernel)
theorem dX12_init_419 : decode cX12_init 419 = .ok (.iastore, 1) := zk_79 (by decide +kernel)
theorem dX12_init_420 : decode cX12_init 420 = .ok (.dup, 1) := zk_89 (by decide +kernel)
theorem dX12_init_421 : decode cX12_init 421 = .ok (.bipush 68, 2) := zk_16 (by decide +kernel)
theorem dX12_init_423 : decode cX12_init 423 = .ok (.bipush 112, 2) := zk_16 (by decide +kernel)
theorem dX12_init_425 : decode cX12_init 425 = .ok (.iastore, 1) := zk_79 (by decide +kernel)
theorem dX12_init_426 : decode cX12_init 426 = .ok (.dup, 1) := zk_89 (by decide +kernel)
theorem dX12_init_427 : decode cX12_init 427 = .ok (.bipush 69, 2) := zk_16 (by decide +kernel)
theorem dX12_init_429 : decode cX12_init 429 = .ok (.bipush 97, 2) := zk_16 (by decide +kernel)
theorem dX12_init_431 : decode cX12_init 431 = .ok (.iastore, 1) := zk_79 (by decide +kernel)
theorem dX12_init_432 : decode cX12_init 432 = .ok (.dup, 1) := zk_89 (by decide +kernel)
theorem dX12_init_433 : decode cX12_init 433 = .ok (.bipush 70, 2) := zk_16 (by decide +kernel)
theorem dX12_init_435 : decode cX12_init 435 = .ok (.bipush 121, 2) := zk_16 (by decide +kernel)
theorem dX12_init_437 : decode cX12_init 437 = .ok (.iastore, 1) := zk_79 (by decide +kernel)
theorem dX12_init_438 : decode cX12_init 438 = .ok (.dup, 1) := zk_89 (by decide +kernel)
theorem dX12_init_439 : decode cX12_init 439 = .ok (.bipush 71, 2) := zk_16 (by decide +kernel)
theorem dX12_init_441 : decode cX12_init 441 = .ok (.bipush 32, 2) := zk_16 (by decide +kernel)
theorem dX12_init_443 : decode cX12_init 443 = .ok (.iastore, 1) := zk_79 (by decide +kernel)
theorem dX12_init_444 : decode cX12_init 444 = .ok (.dup, 1) := zk_89 (by decide +kernel)
theorem dX12_init_445 : decode cX12_init 445 = .ok (.bipush 72, 2) := zk_16 (by decide +kernel)
theorem dX12_init_447 : decode cX12_init 447 = .ok (.bipush 97, 2) := zk_16 (by decide +kernel)
theorem dX12_init_449 : decode cX12_init 449 = .ok (.iastore, 1) := zk_79 (by decide +kernel)
theorem dX12_init_450 : decode cX12_init 450 = .ok (.dup, 1) := zk_89 (by decide +kernel)
theorem dX12_init_451 : decode cX12_init 451 = .ok (.bipush 73, 2) := zk_16 (by decide +kernel)
theorem dX12_init_453 : decode cX12_init 453 = .ok (.bipush 108, 2) := zk_16 (by decide +kernel)
theorem dX12_init_455 : decode cX12_init 455 = .ok (.iastore, 1) := zk_79 (by decide +kernel)
theorem dX12_init_456 : decode cX12_init 456 = .ok (.dup, 1) := zk_89 (by decide +kernel)
theorem dX12_init_457 : decode cX12_init 457 = .ok (.bipush 74, 2) := zk_16 (by decide +kernel)
theorem dX12_init_459 : decode cX12_init 459 = .ok (.bipush 105, 2) := zk_16 (by decide +kernel)
theorem dX12_init_461 : decode cX12_init 461 = .ok (.iastore, 1) := zk_79 (by decide +kernel)
theorem dX12_init_462 : decode cX12_init 462 = .ok (.dup, 1) := zk_89 (by decide +kernel)
theorem dX12_init_463 : decode cX12_init 463 = .ok (.bipush 75, 2) := zk_16 (by decide +kernel)
theorem dX12_init_465 : decode cX12_init 465 = .ok (.bipush 118, 2) := zk_16 (by decide +kernel)
theorem dX12_init_467 : decode cX12_init 467 = .ok (.iastore, 1) := zk_79 (by decide +kernel)
theorem dX12_init_468 : decode cX12_init 468 = .ok (.dup, 1) := zk_89 (by decide +kernel)
theorem dX12_init_469 : decode cX12_init 469 = .ok (.bipush 76, 2) := zk_16 (by decide +kernel)
theorem dX12_init_471 : decode cX12_init 471 = .ok (.bipush 101, 2) := zk_16 (by decide +kernel)
theorem dX12_init_473 : decode cX12_init 473 = .ok (.iastore, 1) := zk_79 (by decide +kernel)
theorem dX12_init_474 : decode cX12_init 474 = .ok (.dup, 1) := zk_89 (by decide +kernel)
theorem dX12_init_475 : decode cX12_init 475 = .ok (.bipush 77, 2) := zk_16 (by decide +kernel)
theorem dX12_init_477 : decode cX12_init 477 = .ok (.bipush 32, 2) := zk_16 (by decide +kernel)
theorem dX12_init_479 : decode cX12_init 479 = .ok (.iastore, 1) := zk_79 (by decide +kernel)
theorem dX12_init_480 : decode cX12_init 480 = .ok (.dup, 1) := zk_89 (by decide +kernel)
theorem dX12_init_481 : decode cX12_init 481 = .ok (.bipush 78, 2) := zk_16 (by decide +kernel)
theorem dX12_init_483 : decode cX12_init 483 = .ok (.bipush 97, 2) := zk_16 (by decide +kernel)
theorem dX12_init_485 : decode cX12_init 485 = .ok (.iastore, 1) := zk_79 (by decide +kernel)
theorem dX12_init_486 : decode cX12_init 486 = .ok (.dup, 1) := zk_89 (by decide +kernel)
theorem dX12_init_487 : decode cX12_init 487 = .ok (.bipush 79, 2) := zk_16 (by decide +kernel)
theorem dX12_init_489 : decode cX12_init 489 = .ok (.bipush 102, 2) := zk_16 (by decide +kernel)
theorem dX12_init_491 : decode cX12_init 491 = .ok (.iastore, 1) := zk_79 (by decide +kernel)
theorem dX12_init_492 : decode cX12_init 492 = .ok (.dup, 1) := zk_89 (by decide +kernel)
theorem dX12_init_493 : decode cX12_init 493 = .ok (.bipush 80, 2) := zk_16 (by decide +kernel)
theorem dX12_init_495 : decode cX12_init 495 = .ok (.bipush 116, 2) := zk_16 (by decide +kernel)
theorem dX12_init_497 : decode cX12_init 497 = .ok (.iastore, 1) := zk_79 (by decide +kernel)
theorem dX12_init_498 : decode cX12_init 498 = .ok (.dup, 1) := zk_89 (by decide +kernel)
theorem dX12_init_499 : decode cX12_init 499 = .ok (.bipush 81, 2) := zk_16 (by decide +kernel)
theorem dX12_init_501 : decode cX12_init 501 = .ok (.bipush 101, 2) := zk_16 (by decide +kernel)
theorem dX12_init_503 : decode cX12_init 503 = .ok (.iastore, 1) := zk_79 (by decide +kernel)
theorem dX12_init_504 : decode cX12_init 504 = .ok (.dup, 1) := zk_89 (by decide +kernel)
theorem dX12_init_505 : decode cX12_init 505 = .ok (.bipush 82, 2) := zk_16 (by decide +kernel)
theorem dX12_init_507 : decode cX12_init 507 = .ok (.bipush 114, 2) := zk_16 (by decide +kernel)
theorem dX12_init_509 : decode cX12_init 509 = .ok (.iastore, 1) := zk_79 (by decide +kernel)
theorem dX12_init_510 : decode cX12_init 510 = .ok (.dup, 1) := zk_89 (by decide +kernel)
theorem dX12_init_511 : decode cX12_init 511 = .ok (.bipush 83, 2) := zk_16 (by decide +kernel)
theorem dX12_init_513 : decode cX12_init 513 = .ok (.bipush 32, 2) := zk_16 (by decide +kernel)
theorem dX12_init_515 : decode cX12_init 515 = .ok (.iastore, 1) := zk_79 (by decide +kernel)
theorem dX12_init_516 : decode cX12_init 516 = .ok (.dup, 1) := zk_89 (by decide +kernel)
theorem dX12_init_517 : decode cX12_init 517 = .ok (.bipush 84, 2) := zk_16 (by decide +kernel)
theorem dX12_init_519 : decode cX12_init 519 = .ok (.bipush 97, 2) := zk_16 (by decide +kernel)
theorem dX12_init_521 : decode cX12_init 521 = .ok (.iastore, 1) := zk_79 (by decide +kernel)
theorem dX12_init_522 : decode cX12_init 522 = .ok (.dup, 1) := zk_89 (by decide +kernel)
theorem dX12_init_523 : decode cX12_init 523 = .ok (.bipush 85, 2) := zk_16 (by decide +kernel)
theorem dX12_init_525 : decode cX12_init 525 = .ok (.bipush 110, 2) := zk_16 (by decide +kernel)
theorem dX12_init_527 : decode cX12_init 527 = .ok (.iastore, 1) := zk_79 (by decide +kernel)
theorem dX12_init_528 : decode cX12_init 528 = .ok (.dup, 1) := zk_89 (by decide +kernel)
theorem dX12_init_529 : decode cX12_init 529 = .ok (.bipush 86, 2) := zk_16 (by decide +kernel)
theorem dX12_init_531 : decode cX12_init 531 = .ok (.bipush 100, 2) := zk_16 (by decide +kernel)
theorem dX12_init_533 : decode cX12_init 533 = .ok (.iastore, 1) := zk_79 (by decide +kernel)
theorem dX12_init_534 : decode cX12_init 534 = .ok (.dup, 1) := zk_89 (by decide +kernel)
theorem dX12_init_535 : decode cX12_init 535 = .ok (.bipush 87, 2) := zk_16 (by decide +kernel)
theorem dX12_init_537 : decode cX12_init 537 = .ok (.bipush 32, 2) := zk_16 (by decide +kernel)
theorem dX12_init_539 : decode cX12_init 539 = .ok (.iastore, 1) := zk_79 (by decide +kernel)
theorem dX12_init_540 : decode cX12_init 540 = .ok (.dup, 1) := zk_89 (by decide +kernel)
theorem dX12_init_541 : decode cX12_init 541 = .ok (.bipush 88, 2) := zk_16 (by decide +kernel)
theorem dX12_init_543 : decode cX12_init 543 = .ok (.bipush 111, 2) := zk_16 (by decide +kernel)
theorem dX12_init_545 : decode cX12_init 545 = .ok (.iastore, 1) := zk_79 (by decide +kernel)
theorem dX12_init_546 : decode cX12_init 546 = .ok (.dup, 1) := zk_89 (by decide +kernel)
theorem dX12_init_547 : decode cX12_init 547 = .ok (.bipush 89, 2) := zk_16 (by decide +kernel)
theorem dX12_init_549 : decode cX12_init 549 = .ok (.bipush 114, 2) := zk_16 (by decide +kernel)
theorem dX12_init_551 : decode cX12_init 551 = .ok (.iastore, 1) := zk_79 (by decide +kernel)
theorem dX12_init_552 : decode cX12_init 552 = .ok (.dup, 1) := zk_89 (by decide +kernel)
theorem dX12_init_553 : decode cX12_init 553 = .ok (.bipush 90, 2) := zk_16 (by decide +kernel)
theorem dX12_init_555 : decode cX12_init 555 = .ok (.bipush 32, 2) := zk_16 (by decide +kernel)
theorem dX12_init_557 : decode cX12_init 557 = .ok (.iastore, 1) := zk_79 (by decide +kernel)
theorem dX12_init_558 : decode cX12_init 558 = .ok (.dup, 1) := zk_89 (by decide +kernel)
theorem dX12_init_559 : decode cX12_init 559 = .ok (.bipush 91, 2) := zk_16 (by decide +kernel)
theorem dX12_init_561 : decode cX12_init 561 = .ok (.bipush 110, 2) := zk_16 (by decide +kernel)
theorem dX12_init_563 : decode cX12_init 563 = .ok (.iastore, 1) := zk_79 (by decide +kernel)
theorem dX12_init_564 : decode cX12_init 564 = .ok (.dup, 1) := zk_89 (by decide +kernel)
theorem dX12_init_565 : decode cX12_init 565 = .ok (.bipush 92, 2) := zk_16 (by decide +kernel)
theorem dX12_init_567 : decode cX12_init 567 = .ok (.bipush 111, 2) := zk_16 (by decide +kernel)
theorem dX12_init_569 : decode cX12_init 569 = .ok (.iastore, 1) := zk_79 (by decide +kernel)
theorem dX12_init_570 : decode cX12_init 570 = .ok (.dup, 1) := zk_89 (by decide +kernel)
theorem dX12_init_571 : decode cX12_init 571 = .ok (.bipush 93, 2) := zk_16 (by decide +kernel)
theorem dX12_init_573 : decode cX12_init 573 = .ok (.bipush 116, 2) := zk_16 (by decide +kernel)
theorem dX12_init_575 : decode cX12_init 575 = .ok (.iastore, 1) := zk_79 (by decide +kernel)
theorem dX12_init_576 : decode cX12_init 576 = .ok (.dup, 1) := zk_89 (by decide +kernel)
theorem dX12_init_577 : decode cX12_init 577 = .ok (.bipush 94, 2) := zk_16 (by decide +kernel)
theorem dX12_init_579 : decode cX12_init 579 = .ok (.bipush 32, 2) := zk_16 (by decide +kernel)
theorem dX12_init_581 : decode cX12_init 581 = .ok (.iastore, 1) := zk_79 (by decide +kernel)
theorem dX12_init_582 : decode cX12_init 582 = .ok (.dup, 1) := zk_89 (by decide +kernel)
theorem dX12_init_583 : decode cX12_init 583 = .ok (.bipush 95, 2) := zk_16 (by decide +kernel)
theorem dX12_init_585 : decode cX12_init 585 = .ok (.bipush 100, 2) := zk_16 (by decide +kernel)
theorem dX12_init_587 : decode cX12_init 587 = .ok (.iastore, 1) := zk_79 (by decide +kernel)
theorem dX12_init_588 : decode cX12_init 588 = .ok (.dup, 1) := zk_89 (by decide +kernel)
theorem dX12_init_589 : decode cX12_init 589 = .ok (.bipush 96, 2) := zk_16 (by decide +kernel)
theorem dX12_init_591 : decode cX12_init 591 = .ok (.bipush 97, 2) := zk_16 (by decide +kernel)
theorem dX12_init_593 : decode cX12_init 593 = .ok (.iastore, 1) := zk_79 (by decide +kernel)
theorem dX12_init_594 : decode cX12_init 594 = .ok (.dup, 1) := zk_89 (by decide +kernel)
theorem dX12_init_595 : decode cX12_init 595 = .ok (.bipush 97, 2) := zk_16 (by decide +kernel)
theorem dX12_init_597 : decode cX12_init 597 = .ok (.bipush 121, 2) := zk_16 (by decide +kernel)
theorem dX12_init_599 : decode cX12_init 599 = .ok (.iastore, 1) := zk_79 (by decide +kernel)
theorem dX12_init_600 : decode cX12_init 600 = .ok (.dup, 1) := zk_89 (by decide +kernel)
theorem dX12_init_601 : decode cX12_init 601 = .ok (.bipush 98, 2) := zk_16 (by decide +kernel)
theorem dX12_init_603 : decode cX12_init 603 = .ok (.bipush 32, 2) := zk_16 (by decide +kernel)
theorem dX12_init_605 : decode cX12_init 605 = .ok (.iastore, 1) := zk_79 (by decide +kernel)
theorem dX12_init_606 : decode cX12_init 606 = .ok (.dup, 1) := zk_89 (by decide +kernel)
theorem dX12_init_607 : decode cX12_init 607 = .ok (.bipush 99, 2) := zk_16 (by decide +kernel)
theorem dX12_init_609 : decode cX12_init 609 = .ok (.bipush 121, 2) := zk_16 (by decide +kernel)
theorem dX12_init_611 : decode cX12_init 611 = .ok (.iastore, 1) := zk_79 (by decide +kernel)
theorem dX12_init_612 : decode cX12_init 612 = .ok (.dup, 1) := zk_89 (by decide +kernel)
theorem dX12_init_613 : decode cX12_init 613 = .ok (.bipush 100, 2) := zk_16 (by decide +kernel)
theorem dX12_init_615 : decode cX12_init 615 = .ok (.bipush 101, 2) := zk_16 (by decide +kernel)
theorem dX12_init_617 : decode cX12_init 617 = .ok (.iastore, 1) := zk_79 (by decide +kernel)
theorem dX12_init_618 : decode cX12_init 618 = .ok (.dup, 1) := zk_89 (by decide +kernel)
theorem dX12_init_619 : decode cX12_init 619 = .ok (.bipush 101, 2) := zk_16 (by decide +kernel)
theorem dX12_init_621 : decode cX12_init 621 = .ok (.bipush 97, 2) := zk_16 (by decide +kernel)
theorem dX12_init_623 : decode cX12_init 623 = .ok (.iastore, 1) := zk_79 (by decide +kernel)
theorem dX12_init_624 : decode cX12_init 624 = .ok (.dup, 1) := zk_89 (by decide +kernel)
theorem dX12_init_625 : decode cX12_init 625 = .ok (.bipush 102, 2) := zk_16 (by decide +kernel)
theorem dX12_init_627 : decode cX12_init 627 = .ok (.bipush 114, 2) := zk_16 (by decide +kernel)
theorem dX12_init_629 : decode cX12_init 629 = .ok (.iastore, 1) := zk_79 (by decide +kernel)
theorem dX12_init_630 : decode cX12_init 630 = .ok (.dup, 1) := zk_89 (by decide +kernel)
theorem dX12_init_631 : decode cX12_init 631 = .ok (.bipush 103, 2) := zk_16 (by decide +kernel)
theorem dX12_init_633 : decode cX12_init 633 = .ok (.bipush 32, 2) := zk_16 (by decide +kernel)
theorem dX12_init_635 : decode cX12_init 635 = .ok (.iastore, 1) := zk_79 (by decide +kernel)
theorem dX12_init_636 : decode cX12_init 636 = .ok (.dup, 1) := zk_89 (by decide +kernel)
theorem dX12_init_637 : decode cX12_init 637 = .ok (.bipush 104, 2) := zk_16 (by decide +kernel)
theorem dX12_init_639 : decode cX12_init 639 = .ok (.bipush 115, 2) := zk_16 (by decide +kernel)
theorem dX12_init_641 : decode cX12_init 641 = .ok (.iastore, 1) := zk_79 (by decide +kernel)
theorem dX12_init_642 : decode cX12_init 642 = .ok (.dup, 1) := zk_89 (by decide +kernel)
theorem dX12_init_643 : decode cX12_init 643 = .ok (.bipush 105, 2) := zk_16 (by decide +kernel)
theorem dX12_init_645 : decode cX12_init 645 = .ok (.bipush 101, 2) := zk_16 (by decide +kernel)
theorem dX12_init_647 : decode cX12_init 647 = .ok (.iastore, 1) := zk_79 (by decide +kernel)
theorem dX12_init_648 : decode cX12_init 648 = .ok (.dup, 1) := zk_89 (by decide +kernel)
theorem dX12_init_649 : decode cX12_init 649 = .ok (.bipush 106, 2) := zk_16 (by decide +kernel)
theorem dX12_init_651 : decode cX12_init 651 = .ok (.bipush 97, 2) := zk_16 (by decide +kernel)
theorem dX12_init_653 : decode cX12_init 653 = .ok (.iastore, 1) := zk_79 (by decide +kernel)
theorem dX12_init_654 : decode cX12_init 654 = .ok (.dup, 1) := zk_89 (by decide +kernel)
theorem dX12_init_655 : decode cX12_init 655 = .ok (.bipush 107, 2) := zk_16 (by decide +kernel)
theorem dX12_init_657 : decode cX12_init 657 = .ok (.bipush 115, 2) := zk_16 (by decide +kernel)
theorem dX12_init_659 : decode cX12_init 659 = .ok (.iastore, 1) := zk_79 (by decide +kernel)
theorem dX12_init_660 : decode cX12_init 660 = .ok (.dup, 1) := zk_89 (by decide +kernel)
theorem dX12_init_661 : decode cX12_init 661 = .ok (.bipush 108, 2) := zk_16 (by decide +kernel)
theorem dX12_init_663 : decode cX12_init 663 = .ok (.bipush 111, 2) := zk_16 (by decide +kernel)
theorem dX12_init_665 : decode cX12_init 665 = .ok (.iastore, 1) := zk_79 (by decide +kernel)
theorem dX12_init_666 : decode cX12_init 666 = .ok (.dup, 1) := zk_89 (by decide +kernel)
theorem dX12_init_667 : decode cX12_init 667 = .ok (.bipush 109, 2) := zk_16 (by decide +kernel)
theorem dX12_init_669 : decode cX12_init 669 = .ok (.bipush 110, 2) := zk_16 (by decide +kernel)
theorem dX12_init_671 : decode cX12_init 671 = .ok (.iastore, 1) := zk_79 (by decide +kernel)
theorem dX12_init_672 : decode cX12_init 672 = .ok (.dup, 1) := zk_89 (by decide +kernel)
theorem dX12_init_673 : decode cX12_init 673 = .ok (.bipush 110, 2) := zk_16 (by decide +kernel)
theorem dX12_init_675 : decode cX12_init 675 = .ok (.bipush 32, 2) := zk_16 (by decide +kernel)
theorem dX12_init_677 : decode cX12_init 677 = .ok (.iastore, 1) := zk_79 (by decide +kernel)
theorem dX12_init_678 : decode cX12_init 678 = .ok (.dup, 1) := zk_89 (by decide +kernel)
theorem dX12_init_679 : decode cX12_init 679 = .ok (.bipush 111, 2) := zk_16 (by decide +kernel)
theorem dX12_init_681 : decode cX12_init 681 = .ok (.bipush 108, 2) := zk_16 (by decide +kernel)
theorem dX12_init_683 : decode cX12_init 683 = .ok (.iastore, 1) := zk_79 (by decide +kernel)
theorem dX12_init_684 : decode cX12_init 684 = .ok (.dup, 1) := zk_89 (by decide +kernel)
theorem dX12_init_685 : decode cX12_init 685 = .ok (.bipush 112, 2) := zk_16 (by decide +kernel)
theorem dX12_init_687 : decode cX12_init 687 = .ok (.bipush 101, 2) := zk_16 (by decide +kernel)
theorem dX12_init_689 : decode cX12_init 689 = .ok (.iastore, 1) := zk_79 (by decide +kernel)
theorem dX12_init_690 : decode cX12_init 690 = .ok (.dup, 1) := zk_89 (by decide +kernel)
theorem dX12_init_691 : decode cX12_init 691 = .ok (.bipush 113, 2) := zk_16 (by decide +kernel)
theorem dX12_init_693 : decode cX12_init 693 = .ok (.bipush 110, 2) := zk_16 (by decide +kernel)
theorem dX12_init_695 : decode cX12_init 695 = .ok (.iastore, 1) := zk_79 (by decide +kernel)
theorem dX12_init_696 : decode cX12_init 696 = .ok (.dup, 1) := zk_89 (by decide +kernel)
theorem dX12_init_697 : decode cX12_init 697 = .ok (.bipush 114, 2) := zk_16 (by decide +kernel)
theorem dX12_init_699 : decode cX12_init 699 = .ok (.bipush 103, 2) := zk_16 (by decide +kernel)
theorem dX12_init_701 : decode cX12_init 701 = .ok (.iastore, 1) := zk_79 (by decide +kernel)
theorem dX12_init_702 : decode cX12_init 702 = .ok (.dup, 1) := zk_89 (by decide +kernel)
theorem dX12_init_703 : decode cX12_init 703 = .ok (.bipush 115, 2) := zk_16 (by decide +kernel)
theorem dX12_init_705 : decode cX12_init 705 = .ok (.bipush 116, 2) := zk_16 (by decide +kernel)
theorem dX12_init_707 : decode cX12_init 707 = .ok (.iastore, 1) := zk_79 (by decide +kernel)
theorem dX12_init_708 : decode cX12_init 708 = .ok (.dup, 1) := zk_89 (by decide +kernel)
theorem dX12_init_709 : decode cX12_init 709 = .ok (.bipush 116, 2) := zk_16 (by decide +kernel)
theorem dX12_init_711 : decode cX12_init 711 = .ok (.bipush 104, 2) := zk_16 (by decide +kernel)
theorem dX12_init_713 : decode cX12_init 713 = .ok (.iastore, 1) := zk_79 (by decide +kernel)
theorem dX12_init_714 : decode cX12_init 714 = .ok (.dup, 1) := zk_89 (by decide +kernel)
theorem dX12_init_715 : decode cX12_init 715 = .ok (.bipush 117, 2) := zk_16 (by decide +kernel)
theorem dX12_init_717 : decode cX12_init 717 = .ok (.bipush 32, 2) := zk_16 (by decide +kernel)
theorem dX12_init_719 : decode cX12_init 719 = .ok (.iastore, 1) := zk_79 (by decide +kernel)
theorem dX12_init_720 : decode cX12_init 720 = .ok (.putfield 13, 3) := zk_181 (by decide +kernel)
theorem dX12_init_723 : decode cX12_init 723 = .ok (.aload_n 0, 1) := zk_42 (by decide +kernel)
theorem dX12_init_724 : decode cX12_init 724 = .ok (.iconst (-1), 1) := zk_2 (by decide +kernel)
theorem dX12_init_725 : decode cX12_init 725 = .ok (.putfield 16, 3) := zk_181 (by decide +kernel)
theorem dX12_init_728 : decode cX12_init 728 = .ok (.aload_n 0, 1) := zk_42 (by decide +kernel)
theorem dX12_init_729 : decode cX12_init 729 = .ok (.bipush 14, 2) := zk_16 (by decide +kernel)
theorem dX12_init_731 : decode cX12_init 731 = .ok (.newarray .int, 2) := by decide +kernel
theorem dX12_init_733 : decode cX12_init 733 = .ok (.putfield 20, 3) := zk_181 (by decide +kernel)
theorem dX12_init_736 : decode cX12_init 736 = .ok (.aload_n 0, 1) := zk_42 (by decide +kernel)
theorem dX12_init_737 : decode cX12_init 737 = .ok (.bipush 8, 2) := zk_16 (by decide +kernel)
theorem dX12_init_739 : decode cX12_init 739 = .ok (.newarray .int, 2) := by decide +kernel
theorem dX12_init_741 : decode cX12_init 741 = .ok (.putfield 23, 3) := zk_181 (by decide +kernel)
theorem dX12_init_744 : decode cX12_init 744 = .ok (.aload_n 0, 1) := zk_42 (by decide +kernel)
theorem dX12_init_745 : decode cX12_init 745 = .ok (.bipush 24, 2) := zk_16 (by decide +kernel)
theorem dX12_init_747 : decode cX12_init 747 = .ok (.newarray .int, 2) := by decide +kernel
theorem dX12_init_749 : decode cX12_init 749 = .ok (.putfield 26, 3) := zk_181 (by decide +kernel)
theorem dX12_init_752 : decode cX12_init 752 = .ok (.aload_n 0, 1) := zk_42 (by decide +kernel)
theorem dX12_init_753 : decode cX12_init 753 = .ok (.bipush 8, 2) := zk_16 (by decide +kernel)
theorem dX12_init_755 : decode cX12_init 755 = .ok (.newarray .int, 2) := by decide +kernel
theorem dX12_init_757 : decode cX12_init 757 = .ok (.putfield 29, 3) := zk_181 (by decide +kernel)
theorem dX12_init_760 : decode cX12_init 760 = .ok (.aload_n 0, 1) := zk_42 (by decide +kernel)
theorem dX12_init_761 : decode cX12_init 761 = .ok (.bipush 8, 2) := zk_16 (by decide +kernel)
theorem dX12_init_763 : decode cX12_init 763 = .ok (.newarray .int, 2) := by decide +kernel
theorem dX12_init_765 : decode cX12_init 765 = .ok (.putfield 32, 3) := zk_181 (by decide +kernel)
theorem dX12_init_768 : decode cX12_init 768 = .ok (.aload_n 0, 1) := zk_42 (by decide +kernel)
theorem dX12_init_769 : decode cX12_init 769 = .ok (.bipush 8, 2) := zk_16 (by decide +kernel)
theorem dX12_init_771 : decode cX12_init 771 = .ok (.newarray .int, 2) := by decide +kernel
theorem dX12_init_773 : decode cX12_init 773 = .ok (.putfield 35, 3) := zk_181 (by decide +kernel)
theorem dX12_init_776 : decode cX12_init 776 = .ok (.aload_n 0, 1) := zk_42 (by decide +kernel)
theorem dX12_init_777 : decode cX12_init 777 = .ok (.bipush 12, 2) := zk_16 (by decide +kernel)
theorem dX12_init_779 : decode cX12_init 779 = .ok (.newarray .int, 2) := by decide +kernel
theorem dX12_init_781 : decode cX12_init 781 = .ok (.putfield 38, 3) := zk_181 (by decide +kernel)
theorem dX12_init_784 : decode cX12_init 784 = .ok (.aload_n 0, 1) := zk_42 (by decide +kernel)
theorem dX12_init_785 : decode cX12_init 785 = .ok (.bipush 12, 2) := zk_16 (by decide +kernel)
theorem dX12_init_787 : decode cX12_init 787 = .ok (.newarray .long, 2) := by decide +kernel
theorem dX12_init_789 : decode cX12_init 789 = .ok (.putfield 41, 3) := zk_181 (by decide +kernel)
theorem dX12_init_792 : decode cX12_init 792 = .ok (.aload_n 0, 1) := zk_42 (by decide +kernel)
theorem dX12_init_793 : decode cX12_init 793 = .ok (.bipush 12, 2) := zk_16 (by decide +kernel)
theorem dX12_init_795 : decode cX12_init 795 = .ok (.newarray .long, 2) := by decide +kernel
theorem dX12_init_797 : decode cX12_init 797 = .ok (.putfield 45, 3) := zk_181 (by decide +kernel)
theorem dX12_init_800 : decode cX12_init 800 = .ok (.aload_n 0, 1) := zk_42 (by decide +kernel)
theorem dX12_init_801 : decode cX12_init 801 = .ok (.bipush 8, 2) := zk_16 (by decide +kernel)
theorem dX12_init_803 : decode cX12_init 803 = .ok (.newarray .int, 2) := by decide +kernel
theorem dX12_init_805 : decode cX12_init 805 = .ok (.putfield 48, 3) := zk_181 (by decide +kernel)
theorem dX12_init_808 : decode cX12_init 808 = .ok (.aload_n 0, 1) := zk_42 (by decide +kernel)
theorem dX12_init_809 : decode cX12_init 809 = .ok (.bipush 8, 2) := zk_16 (by decide +kernel)
theorem dX12_init_811 : decode cX12_init 811 = .ok (.newarray .long, 2) := by decide +kernel
theorem dX12_init_813 : decode cX12_init 813 = .ok (.putfield 51, 3) := zk_181 (by decide +kernel)
theorem dX12_init_816 : decode cX12_init 816 = .ok (.aload_n 0, 1) := zk_42 (by decide +kernel)
theorem dX12_init_817 : decode cX12_init 817 = .ok (.bipush 24, 2) := zk_16 (by decide +kernel)
theorem dX12_init_819 : decode cX12_init 819 = .ok (.newarray .int, 2) := by decide +kernel
theorem dX12_init_821 : decode cX12_init 821 = .ok (.putfield 54, 3) := zk_181 (by decide +kernel)
theorem dX12_init_824 : decode cX12_init 824 = .ok (.aload_n 0, 1) := zk_42 (by decide +kernel)
theorem dX12_init_825 : decode cX12_init 825 = .ok (.bipush 12, 2) := zk_16 (by decide +kernel)
theorem dX12_init_827 : decode cX12_init 827 = .ok (.newarray .int, 2) := by decide +kernel
theorem dX12_init_829 : decode cX12_init 829 = .ok (.putfield 57, 3) := zk_181 (by decide +kernel)
theorem dX12_init_832 : decode cX12_init 832 = .ok (.aload_n 0, 1) := zk_42 (by decide +kernel)
theorem dX12_init_833 : decode cX12_init 833 = .ok (.sipush 264, 3) := zk_17 (by decide +kernel)
theorem dX12_init_836 : decode cX12_init 836 = .ok (.newarray .int, 2) := by decide +kernel
theorem dX12_init_838 : decode cX12_init 838 = .ok (.putfield 60, 3) := zk_181 (by decide +kernel)
theorem dX12_init_841 : decode cX12_init 841 = .ok (.aload_n 0, 1) := zk_42 (by decide +kernel)
theorem dX12_init_842 : decode cX12_init 842 = .ok (.sipush 128, 3) := zk_17 (by decide +kernel)
theorem dX12_init_845 : decode cX12_init 845 = .ok (.newarray .int, 2) := by decide +kernel
theorem dX12_init_847 : decode cX12_init 847 = .ok (.putfield 63, 3) := zk_181 (by decide +kernel)
theorem dX12_init_850 : decode cX12_init 850 = .ok (.aload_n 0, 1) := zk_42 (by decide +kernel)
theorem dX12_init_851 : decode cX12_init 851 = .ok (.sipush 128, 3) := zk_17 (by decide +kernel)
theorem dX12_init_854 : decode cX12_init 854 = .ok (.newarray .int, 2) := by decide +kernel
theorem dX12_init_856 : decode cX12_init 856 = .ok (.putfield 66, 3) := zk_181 (by decide +kernel)
theorem dX12_init_859 : decode cX12_init 859 = .ok (.aload_n 0, 1) := zk_42 (by decide +kernel)
theorem dX12_init_860 : decode cX12_init 860 = .ok (.sipush 128, 3) := zk_17 (by decide +kernel)
theorem dX12_init_863 : decode cX12_init 863 = .ok (.newarray .int, 2) := by decide +kernel
theorem dX12_init_865 : decode cX12_init 865 = .ok (.putfield 69, 3) := zk_181 (by decide +kernel)
theorem dX12_init_868 : decode cX12_init 868 = .ok (.aload_n 0, 1) := zk_42 (by decide +kernel)
theorem dX12_init_869 : decode cX12_init 869 = .ok (.bipush 96, 2) := zk_16 (by decide +kernel)
theorem dX12_init_871 : decode cX12_init 871 = .ok (.newarray .int, 2) := by decide +kernel
theorem dX12_init_873 : decode cX12_init 873 = .ok (.putfield 72, 3) := zk_181 (by decide +kernel)
theorem dX12_init_876 : decode cX12_init 876 = .ok (.aload_n 0, 1) := zk_42 (by decide +kernel)
theorem dX12_init_877 : decode cX12_init 877 = .ok (.bipush 96, 2) := zk_16 (by decide +kernel)
theorem dX12_init_879 : decode cX12_init 879 = .ok (.newarray .int, 2) := by decide +kernel
theorem dX12_init_881 : decode cX12_init 881 = .ok (.putfield 75, 3) := zk_181 (by decide +kernel)
theorem dX12_init_884 : decode cX12_init 884 = .ok (.aload_n 0, 1) := zk_42 (by decide +kernel)
theorem dX12_init_885 : decode cX12_init 885 = .ok (.bipush 6, 2) := zk_16 (by decide +kernel)
theorem dX12_init_887 : decode cX12_init 887 = .ok (.newarray .long, 2) := by decide +kernel
theorem dX12_init_889 : decode cX12_init 889 = .ok (.putfield 78, 3) := zk_181 (by decide +kernel)
theorem dX12_init_892 : decode cX12_init 892 = .ok (.aload_n 0, 1) := zk_42 (by decide +kernel)
theorem dX12_init_893 : decode cX12_init 893 = .ok (.bipush 64, 2) := zk_16 (by decide +kernel)
theorem dX12_init_895 : decode cX12_init 895 = .ok (.newarray .long, 2) := by decide +kernel
theorem dX12_init_897 : decode cX12_init 897 = .ok (.putfield 81, 3) := zk_181 (by decide +kernel)
theorem dX12_init_900 : decode cX12_init 900 = .ok (.aload_n 0, 1) := zk_42 (by decide +kernel)
theorem dX12_init_901 : decode cX12_init 901 = .ok (.sipush 128, 3) := zk_17 (by decide +kernel)
theorem dX12_init_904 : decode cX12_init 904 = .ok (.newarray .int, 2) := by decide +kernel
theorem dX12_init_906 : decode cX12_init 906 = .ok (.putfield 84, 3) := zk_181 (by decide +kernel)
theorem dX12_init_909 : decode cX12_init 909 = .ok (.aload_n 0, 1) := zk_42 (by decide +kernel)
theorem dX12_init_910 : decode cX12_init 910 = .ok (.ldc 87, 2) := zk_18 (by decide +kernel)
theorem dX12_init_912 : decode cX12_init 912 = .ok (.newarray .boolean, 2) := by decide +kernel
theorem dX12_init_914 : decode cX12_init 914 = .ok (.putfield 88, 3) := zk_181 (by decide +kernel)
theorem dX12_init_917 : decode cX12_init 917 = .ok (.aload_n 0, 1) := zk_42 (by decide +kernel)
theorem dX12_init_918 : decode cX12_init 918 = .ok (.bipush 12, 2) := zk_16 (by decide +kernel)
theorem dX12_init_920 : decode cX12_init 920 = .ok (.newarray .int, 2) := by decide +kernel
theorem dX12_init_922 : decode cX12_init 922 = .ok (.putfield 92, 3) := zk_181 (by decide +kernel)
theorem dX12_init_925 : decode cX12_init 925 = .ok (.aload_n 0, 1) := zk_42 (by decide +kernel)
theorem dX12_init_926 : decode cX12_init 926 = .ok (.bipush 12, 2) := zk_16 (by decide +kernel)
theorem dX12_init_928 : decode cX12_init 928 = .ok (.newarray .int, 2) := by decide +kernel
theorem dX12_init_930 : decode cX12_init 930 = .ok (.putfield 95, 3) := zk_181 (by decide +kernel)
theorem dX12_init_933 : decode cX12_init 933 = .ok (.aload_n 0, 1) := zk_42 (by decide +kernel)
theorem dX12_init_934 : decode cX12_init 934 = .ok (.bipush 20, 2) := zk_16 (by decide +kernel)
theorem dX12_init_936 : decode cX12_init 936 = .ok (.newarray .int, 2) := by decide +kernel
theorem dX12_init_938 : decode cX12_init 938 = .ok (.putfield 98, 3) := zk_181 (by decide +kernel)
theorem dX12_init_941 : decode cX12_init 941 = .ok (.aload_n 0, 1) := zk_42 (by decide +kernel)
theorem dX12_init_942 : decode cX12_init 942 = .ok (.bipush 20, 2) := zk_16 (by decide +kernel)
theorem dX12_init_944 : decode cX12_init 944 = .ok (.newarray .int, 2) := by decide +kernel
theorem dX12_init_946 : decode cX12_init 946 = .ok (.putfield 101, 3) := zk_181 (by decide +kernel)
theorem dX12_init_949 : decode cX12_init 949 = .ok (.aload_n 0, 1) := zk_42 (by decide +kernel)
theorem dX12_init_950 : decode cX12_init 950 = .ok (.sipush 132, 3) := zk_17 (by decide +kernel)
theorem dX12_init_953 : decode cX12_init 953 = .ok (.newarray .int, 2) := by decide +kernel
theorem dX12_init_955 : decode cX12_init 955 = .ok (.putfield 104, 3) := zk_181 (by decide +kernel)
theorem dX12_init_958 : decode cX12_init 958 = .ok (.aload_n 0, 1) := zk_42 (by decide +kernel)
theorem dX12_init_959 : decode cX12_init 959 = .ok (.bipush 20, 2) := zk_16 (by decide +kernel)
theorem dX12_init_961 : decode cX12_init 961 = .ok (.newarray .int, 2) := by decide +kernel
theorem dX12_init_963 : decode cX12_init 963 = .ok (.putfield 107, 3) := zk_181 (by decide +kernel)
theorem dX12_init_966 : decode cX12_init 966 = .ok (.aload_n 0, 1) := zk_42 (by decide +kernel)
theorem dX12_init_967 : decode cX12_init 967 = .ok (.bipush 20, 2) := zk_16 (by decide +kernel)
theorem dX12_init_969 : decode cX12_init 969 = .ok (.newarray .int, 2) := by decide +kernel
theorem dX12_init_971 : decode cX12_init 971 = .ok (.putfield 110, 3) := zk_181 (by decide +kernel)
theorem dX12_init_974 : decode cX12_init 974 = .ok (.aload_n 0, 1) := zk_42 (by decide +kernel)
theorem dX12_init_975 : decode cX12_init 975 = .ok (.invokevirtual 113, 3) := zk_182 (by decide +kernel)
theorem dX12_init_978 : decode cX12_init 978 = .ok (.aload_n 0, 1) := zk_42 (by decide +kernel)
theorem dX12_init_979 : decode cX12_init 979 = .ok (.invokevirtual 116, 3) := zk_182 (by decide +kernel)
theorem dX12_init_982 : decode cX12_init 982 = .ok (.return_, 1) := zk_177 (by decide +kernel)
set_option maxHeartbeats 4000000 in
set_option maxRecDepth 100000 in
theorem mc_model (l : Launch) (dC : Nat → ClassId) (dI : Nat → Nat → Nat) (mq : Nat) (sz : Nat) : Met l yX12_init (Cond.code yX12_init cX12_init 1 none :: wsL_law) ({ frames := 2, cells := 32, slots := 242450, locals := 42 }) (va_Pc [.ref mq] (fun U => U.heap.size = sz ∧ va_P (dC, dI) vwCl [(mq, .inr (12, (.null :: .int 0 :: .int 0 :: .null :: .int 0 :: .int 0 :: .int 0 :: .int 0 :: .int 0 :: .int 0 :: .int 0 :: .int 0 :: .int 0 :: .int 0 :: .int 0 :: .int 0 :: .int 0 :: .int 0 :: .int 0 :: .int 0 :: .int 0 :: .int 0 :: .int 0 :: .int 0 :: .null :: .int 0 :: .int 0 :: .int 0 :: .null :: .null :: .null :: .null :: .null :: .null :: .null :: .null :: .null :: .null :: .null :: .null :: .null :: .null :: .null :: .null :: [.long 0, .null, .null, .int 0, .int 0, .int 0, .int 0, .int 0, .int 0, .long 0, .long 0, .null, .null, .int 0, .int 0, .int 0, .null, .null, .int 0, .int 0, .int 0, .null, .null, .int 0, .null, .null, .int 0, .int 0, .int 0, .null, .null, .null])))] U.heap ∧ va_K (dC, dI) vwCl [] U ∧ va_D (fun _ => True) [(mq, .inr (12, (.null :: .int 0 :: .int 0 :: .null :: .int 0 :: .int 0 :: .int 0 :: .int 0 :: .int 0 :: .int 0 :: .int 0 :: .int 0 :: .int 0 :: .int 0 :: .int 0 :: .int 0 :: .int 0 :: .int 0 :: .int 0 :: .int 0 :: .int 0 :: .int 0 :: .int 0 :: .int 0 :: .null :: .int 0 :: .int 0 :: .int 0 :: .null :: .null :: .null :: .null :: .null :: .null :: .null :: .null :: .null :: .null :: .null :: .null :: .null :: .null :: .null :: .null :: [.long 0, .null, .null, .int 0, .int 0, .int 0, .int 0, .int 0, .int 0, .long 0, .long 0, .null, .null, .int 0, .int 0, .int 0, .null, .null, .int 0, .int 0, .int 0, .null, .null, .int 0, .null, .null, .int 0, .int 0, .int 0, .null, .null, .null])))])) (va_Qv (fun (u : (Nat → Int32) × (Nat → Int64) × (Nat → Nat) × (Nat → ClassId) × ((Int32) × (Int32) × (Int32) × (Int32) × (Int32) × (Int32) × (Int32) × (Int32) × (Int32) × (Int32) × (Nat → Int32)) × ((Int32) × (Int32) × (Int32) × (Int32) × (Int32) × (Int32) × (Int32) × (Int32) × (Int32) × (Int32) × (Nat → Int32) × (Nat → Int32) × (Nat → Int32) × (Nat → Int32) × (Nat → Int32) × (Nat → Int32) × (Nat → Int32) × (Nat → Int64) × (Nat → Int64) × (Nat → Int32) × (Nat → Int64) × (Nat → Int32) × (Nat → Int32) × (Nat → Int32) × (Nat → Int32) × (Nat → Int32) × (Nat → Int32))) => u.1 = ym_g ∧ u.2.1 = ym_l ∧ u.2.2.2.2.1 = (fq_plain (fun _ => 0)) ∧ u.2.2.2.2.2 = (fq_keepText u.2.2.2.2.1.2.2.2.2.2.2.2.2.2.2 (fun _ => 0) (fun _ => 0) (fun _ => 0) (fun _ => 0) (fun _ => 0) (fun _ => 0) (fun _ => 0) (fun _ => 0) (fun _ => 0) (fun _ => 0) (fun _ => 0) (fun _ => 0) (fun _ => 0) (fun _ => 0) (fun _ => 0) (fun _ => 0) u.2.2.2.2.1.1 u.2.2.2.2.1.2.1 u.2.2.2.2.1.2.2.1 u.2.2.2.2.1.2.2.2.1 u.2.2.2.2.1.2.2.2.2.1 u.2.2.2.2.1.2.2.2.2.2.1)) (fun (u : (Nat → Int32) × (Nat → Int64) × (Nat → Nat) × (Nat → ClassId) × ((Int32) × (Int32) × (Int32) × (Int32) × (Int32) × (Int32) × (Int32) × (Int32) × (Int32) × (Int32) × (Nat → Int32)) × ((Int32) × (Int32) × (Int32) × (Int32) × (Int32) × (Int32) × (Int32) × (Int32) × (Int32) × (Int32) × (Nat → Int32) × (Nat → Int32) × (Nat → Int32) × (Nat → Int32) × (Nat → Int32) × (Nat → Int32) × (Nat → Int32) × (Nat → Int64) × (Nat → Int64) × (Nat → Int32) × (Nat → Int64) × (Nat → Int32) × (Nat → Int32) × (Nat → Int32) × (Nat → Int32) × (Nat → Int32) × (Nat → Int32))) t => va_P (dC, dI) vwCl ((mq, .inr (12, mF (upd (upd (upd (upd (upd (upd (upd (upd (upd (upd (upd (upd (upd (upd (upd (upd (upd (upd (upd (upd u.1 12 u.2.2.2.2.2.1) 13 u.2.2.2.2.2.2.1) 14 u.2.2.2.2.2.2.2.1) 15 u.2.2.2.2.2.2.2.2.1) 16 u.2.2.2.2.2.2.2.2.2.1) 17 u.2.2.2.2.2.2.2.2.2.2.1) 18 u.2.2.2.2.1.1) 19 u.2.2.2.2.1.2.1) 20 u.2.2.2.2.1.2.2.1) 21 u.2.2.2.2.1.2.2.2.1) 22 u.2.2.2.2.1.2.2.2.2.1) 23 u.2.2.2.2.1.2.2.2.2.2.1) 25 u.2.2.2.2.1.2.2.2.2.2.2.1) 26 u.2.2.2.2.1.2.2.2.2.2.2.2.1) 27 u.2.2.2.2.1.2.2.2.2.2.2.2.2.1) 50 u.2.2.2.2.1.2.2.2.2.2.2.2.2.2.1) 58 u.2.2.2.2.2.2.2.2.2.2.2.1) 59 u.2.2.2.2.2.2.2.2.2.2.2.2.1) 67 u.2.2.2.2.2.2.2.2.2.2.2.2.2.1) 70 u.2.2.2.2.2.2.2.2.2.2.2.2.2.2.1) u.2.1 u.2.2.1)) :: [((u.2.2.1 0), .inl ((u.2.2.2.1 0), 900, .inl (fun _ => 0))), ((u.2.2.1 3), .inl ((u.2.2.2.1 3), 118, .inl (ym_w 118))), ((u.2.2.1 24), .inl ((u.2.2.2.1 24), 14, .inl u.2.2.2.2.2.2.2.2.2.2.2.2.2.2.2.1)), ((u.2.2.1 28), .inl ((u.2.2.2.1 28), 8, .inl u.2.2.2.2.2.2.2.2.2.2.2.2.2.2.2.2.1)), ((u.2.2.1 29), .inl ((u.2.2.2.1 29), 24, .inl u.2.2.2.2.2.2.2.2.2.2.2.2.2.2.2.2.2.1)), ((u.2.2.1 30), .inl ((u.2.2.2.1 30), 8, .inl u.2.2.2.2.2.2.2.2.2.2.2.2.2.2.2.2.2.2.1)), ((u.2.2.1 31), .inl ((u.2.2.2.1 31), 8, .inl u.2.2.2.2.2.2.2.2.2.2.2.2.2.2.2.2.2.2.2.1)), ((u.2.2.1 32), .inl ((u.2.2.2.1 32), 8, .inl u.2.2.2.2.2.2.2.2.2.2.2.2.2.2.2.2.2.2.2.2.1)), ((u.2.2.1 33), .inl ((u.2.2.2.1 33), 12, .inl u.2.2.2.2.2.2.2.2.2.2.2.2.2.2.2.2.2.2.2.2.2.1)), ((u.2.2.1 34), .inl ((u.2.2.2.1 34), 12, .inr (.inl u.2.2.2.2.2.2.2.2.2.2.2.2.2.2.2.2.2.2.2.2.2.2.1))), ((u.2.2.1 35), .inl ((u.2.2.2.1 35), 12, .inr (.inl u.2.2.2.2.2.2.2.2.2.2.2.2.2.2.2.2.2.2.2.2.2.2.2.1))), ((u.2.2.1 36), .inl ((u.2.2.2.1 36), 8, .inl u.2.2.2.2.2.2.2.2.2.2.2.2.2.2.2.2.2.2.2.2.2.2.2.2.1)), ((u.2.2.1 37), .inl ((u.2.2.2.1 37), 8, .inr (.inl u.2.2.2.2.2.2.2.2.2.2.2.2.2.2.2.2.2.2.2.2.2.2.2.2.2.1))), ((u.2.2.1 38), .inl ((u.2.2.2.1 38), 24, .inl u.2.2.2.2.2.2.2.2.2.2.2.2.2.2.2.2.2.2.2.2.2.2.2.2.2.2.1)), ((u.2.2.1 39), .inl ((u.2.2.2.1 39), 12, .inl u.2.2.2.2.2.2.2.2.2.2.2.2.2.2.2.2.2.2.2.2.2.2.2.2.2.2.2.1)), ((u.2.2.1 40), .inl ((u.2.2.2.1 40), 264, .inl u.2.2.2.2.2.2.2.2.2.2.2.2.2.2.2.2.2.2.2.2.2.2.2.2.2.2.2.2.1)), ((u.2.2.1 41), .inl ((u.2.2.2.1 41), 128, .inl u.2.2.2.2.2.2.2.2.2.2.2.2.2.2.2.2.2.2.2.2.2.2.2.2.2.2.2.2.2.1)), ((u.2.2.1 42), .inl ((u.2.2.2.1 42), 128, .inl u.2.2.2.2.2.2.2.2.2.2.2.2.2.2.2.2.2.2.2.2.2.2.2.2.2.2.2.2.2.2.1)), ((u.2.2.1 43), .inl ((u.2.2.2.1 43), 128, .inl u.2.2.2.2.2.2.2.2.2.2.2.2.2.2.2.2.2.2.2.2.2.2.2.2.2.2.2.2.2.2.2)), ((u.2.2.1 45), .inl ((u.2.2.2.1 45), 96, .inl (fun _ => 0))), ((u.2.2.1 46), .inl ((u.2.2.2.1 46), 96, .inl (fun _ => 0))), ((u.2.2.1 55), .inl ((u.2.2.2.1 55), 6, .inr (.inl (fun _ => 0)))), ((u.2.2.1 56), .inl ((u.2.2.2.1 56), 64, .inr (.inl (fun _ => 0)))), ((u.2.2.1 60), .inl ((u.2.2.2.1 60), 128, .inl (fun _ => 0))), ((u.2.2.1 61), .inl ((u.2.2.2.1 61), 240000, .inl (fun _ => 0))), ((u.2.2.1 65), .inl ((u.2.2.2.1 65), 12, .inl (fun _ => 0))), ((u.2.2.1 66), .inl ((u.2.2.2.1 66), 12, .inl (fun _ => 0))), ((u.2.2.1 68), .inl ((u.2.2.2.1 68), 20, .inl (fun _ => 0))), ((u.2.2.1 69), .inl ((u.2.2.2.1 69), 20, .inl (fun _ => 0))), ((u.2.2.1 73), .inl ((u.2.2.2.1 73), 132, .inl (fun _ => 0))), ((u.2.2.1 74), .inl ((u.2.2.2.1 74), 20, .inl (fun _ => 0))), ((u.2.2.1 75), .inl ((u.2.2.2.1 75), 20, .inl (fun _ => 0)))]) t.heap ∧ va_K (dC, dI) vwCl [((u.2.2.2.1 0), .int), ((u.2.2.2.1 3), .int), ((u.2.2.2.1 24), .int), ((u.2.2.2.1 28), .int), ((u.2.2.2.1 29), .int), ((u.2.2.2.1 30), .int), ((u.2.2.2.1 31), .int), ((u.2.2.2.1 32), .int), ((u.2.2.2.1 33), .int), ((u.2.2.2.1 34), .long), ((u.2.2.2.1 35), .long), ((u.2.2.2.1 36), .int), ((u.2.2.2.1 37), .long), ((u.2.2.2.1 38), .int), ((u.2.2.2.1 39), .int), ((u.2.2.2.1 40), .int), ((u.2.2.2.1 41), .int), ((u.2.2.2.1 42), .int), ((u.2.2.2.1 43), .int), ((u.2.2.2.1 45), .int), ((u.2.2.2.1 46), .int), ((u.2.2.2.1 55), .long), ((u.2.2.2.1 56), .long), ((u.2.2.2.1 60), .int), ((u.2.2.2.1 61), .boolean), ((u.2.2.2.1 65), .int), ((u.2.2.2.1 66), .int), ((u.2.2.2.1 68), .int), ((u.2.2.2.1 69), .int), ((u.2.2.2.1 73), .int), ((u.2.2.2.1 74), .int), ((u.2.2.2.1 75), .int)] t ∧ va_D (va_A [(mq, .inr (12, (.null :: .int 0 :: .int 0 :: .null :: .int 0 :: .int 0 :: .int 0 :: .int 0 :: .int 0 :: .int 0 :: .int 0 :: .int 0 :: .int 0 :: .int 0 :: .int 0 :: .int 0 :: .int 0 :: .int 0 :: .int 0 :: .int 0 :: .int 0 :: .int 0 :: .int 0 :: .int 0 :: .null :: .int 0 :: .int 0 :: .int 0 :: .null :: .null :: .null :: .null :: .null :: .null :: .null :: .null :: .null :: .null :: .null :: .null :: .null :: .null :: .null :: .null :: [.long 0, .null, .null, .int 0, .int 0, .int 0, .int 0, .int 0, .int 0, .long 0, .long 0, .null, .null, .int 0, .int 0, .int 0, .null, .null, .int 0, .int 0, .int 0, .null, .null, .int 0, .null, .null, .int 0, .int 0, .int 0, .null, .null, .null])))] sz) ((mq, .inr (12, mF (upd (upd (upd (upd (upd (upd (upd (upd (upd (upd (upd (upd (upd (upd (upd (upd (upd (upd (upd (upd u.1 12 u.2.2.2.2.2.1) 13 u.2.2.2.2.2.2.1) 14 u.2.2.2.2.2.2.2.1) 15 u.2.2.2.2.2.2.2.2.1) 16 u.2.2.2.2.2.2.2.2.2.1) 17 u.2.2.2.2.2.2.2.2.2.2.1) 18 u.2.2.2.2.1.1) 19 u.2.2.2.2.1.2.1) 20 u.2.2.2.2.1.2.2.1) 21 u.2.2.2.2.1.2.2.2.1) 22 u.2.2.2.2.1.2.2.2.2.1) 23 u.2.2.2.2.1.2.2.2.2.2.1) 25 u.2.2.2.2.1.2.2.2.2.2.2.1) 26 u.2.2.2.2.1.2.2.2.2.2.2.2.1) 27 u.2.2.2.2.1.2.2.2.2.2.2.2.2.1) 50 u.2.2.2.2.1.2.2.2.2.2.2.2.2.2.1) 58 u.2.2.2.2.2.2.2.2.2.2.2.1) 59 u.2.2.2.2.2.2.2.2.2.2.2.2.1) 67 u.2.2.2.2.2.2.2.2.2.2.2.2.2.1) 70 u.2.2.2.2.2.2.2.2.2.2.2.2.2.2.1) u.2.1 u.2.2.1)) :: [((u.2.2.1 0), .inl ((u.2.2.2.1 0), 900, .inl (fun _ => 0))), ((u.2.2.1 3), .inl ((u.2.2.2.1 3), 118, .inl (ym_w 118))), ((u.2.2.1 24), .inl ((u.2.2.2.1 24), 14, .inl u.2.2.2.2.2.2.2.2.2.2.2.2.2.2.2.1)), ((u.2.2.1 28), .inl ((u.2.2.2.1 28), 8, .inl u.2.2.2.2.2.2.2.2.2.2.2.2.2.2.2.2.1)), ((u.2.2.1 29), .inl ((u.2.2.2.1 29), 24, .inl u.2.2.2.2.2.2.2.2.2.2.2.2.2.2.2.2.2.1)), ((u.2.2.1 30), .inl ((u.2.2.2.1 30), 8, .inl u.2.2.2.2.2.2.2.2.2.2.2.2.2.2.2.2.2.2.1)), ((u.2.2.1 31), .inl ((u.2.2.2.1 31), 8, .inl u.2.2.2.2.2.2.2.2.2.2.2.2.2.2.2.2.2.2.2.1)), ((u.2.2.1 32), .inl ((u.2.2.2.1 32), 8, .inl u.2.2.2.2.2.2.2.2.2.2.2.2.2.2.2.2.2.2.2.2.1)), ((u.2.2.1 33), .inl ((u.2.2.2.1 33), 12, .inl u.2.2.2.2.2.2.2.2.2.2.2.2.2.2.2.2.2.2.2.2.2.1)), ((u.2.2.1 34), .inl ((u.2.2.2.1 34), 12, .inr (.inl u.2.2.2.2.2.2.2.2.2.2.2.2.2.2.2.2.2.2.2.2.2.2.1))), ((u.2.2.1 35), .inl ((u.2.2.2.1 35), 12, .inr (.inl u.2.2.2.2.2.2.2.2.2.2.2.2.2.2.2.2.2.2.2.2.2.2.2.1))), ((u.2.2.1 36), .inl ((u.2.2.2.1 36), 8, .inl u.2.2.2.2.2.2.2.2.2.2.2.2.2.2.2.2.2.2.2.2.2.2.2.2.1)), ((u.2.2.1 37), .inl ((u.2.2.2.1 37), 8, .inr (.inl u.2.2.2.2.2.2.2.2.2.2.2.2.2.2.2.2.2.2.2.2.2.2.2.2.2.1))), ((u.2.2.1 38), .inl ((u.2.2.2.1 38), 24, .inl u.2.2.2.2.2.2.2.2.2.2.2.2.2.2.2.2.2.2.2.2.2.2.2.2.2.2.1)), ((u.2.2.1 39), .inl ((u.2.2.2.1 39), 12, .inl u.2.2.2.2.2.2.2.2.2.2.2.2.2.2.2.2.2.2.2.2.2.2.2.2.2.2.2.1)), ((u.2.2.1 40), .inl ((u.2.2.2.1 40), 264, .inl u.2.2.2.2.2.2.2.2.2.2.2.2.2.2.2.2.2.2.2.2.2.2.2.2.2.2.2.2.1)), ((u.2.2.1 41), .inl ((u.2.2.2.1 41), 128, .inl u.2.2.2.2.2.2.2.2.2.2.2.2.2.2.2.2.2.2.2.2.2.2.2.2.2.2.2.2.2.1)), ((u.2.2.1 42), .inl ((u.2.2.2.1 42), 128, .inl u.2.2.2.2.2.2.2.2.2.2.2.2.2.2.2.2.2.2.2.2.2.2.2.2.2.2.2.2.2.2.1)), ((u.2.2.1 43), .inl ((u.2.2.2.1 43), 128, .inl u.2.2.2.2.2.2.2.2.2.2.2.2.2.2.2.2.2.2.2.2.2.2.2.2.2.2.2.2.2.2.2)), ((u.2.2.1 45), .inl ((u.2.2.2.1 45), 96, .inl (fun _ => 0))), ((u.2.2.1 46), .inl ((u.2.2.2.1 46), 96, .inl (fun _ => 0))), ((u.2.2.1 55), .inl ((u.2.2.2.1 55), 6, .inr (.inl (fun _ => 0)))), ((u.2.2.1 56), .inl ((u.2.2.2.1 56), 64, .inr (.inl (fun _ => 0)))), ((u.2.2.1 60), .inl ((u.2.2.2.1 60), 128, .inl (fun _ => 0))), ((u.2.2.1 61), .inl ((u.2.2.2.1 61), 240000, .inl (fun _ => 0))), ((u.2.2.1 65), .inl ((u.2.2.2.1 65), 12, .inl (fun _ => 0))), ((u.2.2.1 66), .inl ((u.2.2.2.1 66), 12, .inl (fun _ => 0))), ((u.2.2.1 68), .inl ((u.2.2.2.1 68), 20, .inl (fun _ => 0))), ((u.2.2.1 69), .inl ((u.2.2.2.1 69), 20, .inl (fun _ => 0))), ((u.2.2.1 73), .inl ((u.2.2.2.1 73), 132, .inl (fun _ => 0))), ((u.2.2.1 74), .inl ((u.2.2.2.1 74), 20, .inl (fun _ => 0))), ((u.2.2.1 75), .inl ((u.2.2.2.1 75), 20, .inl (fun _ => 0)))])) (va_A [(mq, .inr (12, (.null :: .int 0 :: .int 0 :: .null :: .int 0 :: .int 0 :: .int 0 :: .int 0 :: .int 0 :: .int 0 :: .int 0 :: .int 0 :: .int 0 :: .int 0 :: .int 0 :: .int 0 :: .int 0 :: .int 0 :: .int 0 :: .int 0 :: .int 0 :: .int 0 :: .int 0 :: .int 0 :: .null :: .int 0 :: .int 0 :: .int 0 :: .null :: .null :: .null :: .null :: .null :: .null :: .null :: .null :: .null :: .null :: .null :: .null :: .null :: .null :: .null :: .null :: [.long 0, .null, .null, .int 0, .int 0, .int 0, .int 0, .int 0, .int 0, .long 0, .long 0, .null, .null, .int 0, .int 0, .int 0, .null, .null, .int 0, .int 0, .int 0, .null, .null, .int 0, .null, .null, .int 0, .int 0, .int 0, .null, .null, .null])))] sz)) 32 242450 (va_A [(mq, .inr (12, (.null :: .int 0 :: .int 0 :: .null :: .int 0 :: .int 0 :: .int 0 :: .int 0 :: .int 0 :: .int 0 :: .int 0 :: .int 0 :: .int 0 :: .int 0 :: .int 0 :: .int 0 :: .int 0 :: .int 0 :: .int 0 :: .int 0 :: .int 0 :: .int 0 :: .int 0 :: .int 0 :: .null :: .int 0 :: .int 0 :: .int 0 :: .null :: .null :: .null :: .null :: .null :: .null :: .null :: .null :: .null :: .null :: .null :: .null :: .null :: .null :: .null :: .null :: [.long 0, .null, .null, .int 0, .int 0, .int 0, .int 0, .int 0, .int 0, .long 0, .long 0, .null, .null, .int 0, .int 0, .int 0, .null, .null, .int 0, .int 0, .int 0, .null, .null, .int 0, .null, .null, .int 0, .int 0, .int 0, .null, .null, .null])))] sz) := by
  refine Met.ofW (cc := cX12_init) (maxL := 1) (ret := none) (by decide) rfl ?_
  intro p e s m args below meth c s₁ B hml hv
  obtain ⟨rfl, hsz, hP, hK, hD0⟩ := hv
  have hx := B.exec
  have hb := B.bytes
  have hr := B.returns
  have hts := atoms_spec (ws := Cond.code yX12_init cX12_init 1 none :: wsL_law) B.pre
  have htw : ∀ w ∈ wsL_law, w.before _ s = true := fun w h => hts w (List.mem_cons_of_mem _ h)
  have hown : s.vm.findClass RX12 = some m.cls := findClass_of_methodNamed B.named
  have hlocks := B.notSynchronized
  have hin : meth.name = "<init>" := (name_of_methodNamed B.named B.method).1
  subst hsz
  have hD := hD0.self (sz := s.heap.size)
  generalize hAe : va_A [(mq, .inr (12, (.null :: .int 0 :: .int 0 :: .null :: .int 0 :: .int 0 :: .int 0 :: .int 0 :: .int 0 :: .int 0 :: .int 0 :: .int 0 :: .int 0 :: .int 0 :: .int 0 :: .int 0 :: .int 0 :: .int 0 :: .int 0 :: .int 0 :: .int 0 :: .int 0 :: .int 0 :: .int 0 :: .null :: .int 0 :: .int 0 :: .int 0 :: .null :: .null :: .null :: .null :: .null :: .null :: .null :: .null :: .null :: .null :: .null :: .null :: .null :: .null :: .null :: .null :: [.long 0, .null, .null, .int 0, .int 0, .int 0, .int 0, .int 0, .int 0, .long 0, .long 0, .null, .null, .int 0, .int 0, .int 0, .null, .null, .int 0, .int 0, .int 0, .null, .null, .int 0, .null, .null, .int 0, .int 0, .int 0, .null, .null, .null])))] s.heap.size = A at hD ⊢
  have hA : ∀ q : Nat, s.heap.size ≤ q → A q := fun q h => by rw [← hAe]; exact Or.inr h
  obtain ⟨H, rH⟩ : ∃ z : Heap, z = s.heap := ⟨_, rfl⟩
  have hS : va_S A s.heap H [] := by rw [rH]; exact va_S.rf
  have hP : va_P (dC, dI) vwCl [(mq, .inr (12, (.null :: .int 0 :: .int 0 :: .null :: .int 0 :: .int 0 :: .int 0 :: .int 0 :: .int 0 :: .int 0 :: .int 0 :: .int 0 :: .int 0 :: .int 0 :: .int 0 :: .int 0 :: .int 0 :: .int 0 :: .int 0 :: .int 0 :: .int 0 :: .int 0 :: .int 0 :: .int 0 :: .null :: .int 0 :: .int 0 :: .int 0 :: .null :: .null :: .null :: .null :: .null :: .null :: .null :: .null :: .null :: .null :: .null :: .null :: .null :: .null :: .null :: .null :: [.long 0, .null, .null, .int 0, .int 0, .int 0, .int 0, .int 0, .int 0, .long 0, .long 0, .null, .null, .int 0, .int 0, .int 0, .null, .null, .int 0, .int 0, .int 0, .null, .null, .int 0, .null, .null, .int 0, .int 0, .int 0, .null, .null, .null])))] H := by rw [rH]; exact hP
  rw [← rH]
  have hl := lv_entry ([.ref mq]) (n := 1) (Nat.le_of_ble_eq_true rfl)
  rw [lg_entry_eq]
  generalize (lg_sl ([.ref mq]) ++ List.replicate (1 - (lg_sl ([.ref mq])).length) Slot.unset).toArray = ls at hl ⊢
  have hl : lv_has ls 1 [(0, .ref mq)] := hl
  refine lv_aload_n hx hb dX12_init_0 rfl (lv_at hl 0 rfl) ?_
  refine W.objInit hx hb hown (htw _ (ck_9 _ (List.mem_of_getElem? (i := 3) rfl))) (htw _ (ck_1 _ (List.mem_of_getElem? (i := 12) rfl))) (htw _ (ck_1 _ (List.mem_of_getElem? (i := 13) rfl))) rfl (by rw [hml]; exact hl.1) rfl dX12_init_1 (Nat.le_of_ble_eq_true rfl) (Nat.le_of_ble_eq_true rfl) ?_
  refine W.eq (g2 := F0 m 4 ls []) rfl ?_
  refine lv_aload_n hx hb dX12_init_4 rfl (lv_at hl 0 rfl) ?_
  refine lv_sipush (v := 900) hx hb dX12_init_5 (by decide) ?_
  refine va_newa (ty := .int) (a0 := (900, .inl (fun _ => 0))) hx hb (htw _ (ck_2 _ (List.mem_of_getElem? (i := 7) rfl))) rfl hK hP hD hS hA (fun _ => rfl) (by decide) (by decide) (by decide) (Nat.le_of_ble_eq_true rfl) (Nat.le_of_ble_eq_true rfl) dX12_init_8 (fun q_1 cA_2 H hK hP hD hS => ?_)
  have hK : va_K (dC, dI) vwCl [(cA_2, .int)] s := hK
  obtain ⟨hP, hD⟩ := zre [(mq, .inr (12, (.null :: .int 0 :: .int 0 :: .null :: .int 0 :: .int 0 :: .int 0 :: .int 0 :: .int 0 :: .int 0 :: .int 0 :: .int 0 :: .int 0 :: .int 0 :: .int 0 :: .int 0 :: .int 0 :: .int 0 :: .int 0 :: .int 0 :: .int 0 :: .int 0 :: .int 0 :: .int 0 :: .null :: .int 0 :: .int 0 :: .int 0 :: .null :: .null :: .null :: .null :: .null :: .null :: .null :: .null :: .null :: .null :: .null :: .null :: .null :: .null :: .null :: .null :: [.long 0, .null, .null, .int 0, .int 0, .int 0, .int 0, .int 0, .int 0, .long 0, .long 0, .null, .null, .int 0, .int 0, .int 0, .null, .null, .int 0, .int 0, .int 0, .null, .null, .int 0, .null, .null, .int 0, .int 0, .int 0, .null, .null, .null]))), (eA0 q_1 cA_2 900 (fun _ => 0))] hP hD rfl
  refine W.widen (k := 1) (n := 900) (by omega) (by omega) ?_
  refine va_putF (D := (dC, dI)) (ci := 12) (v := .ref q_1) (ty := tyX12 0) (C := RX12) (T := TX12) (N := 76) hx hb htw inlX12 tyX12 tyX12_ok nmX12 hown hK hP hD hS 0 rfl rfl 0 (by decide) (htw _ (ck_9 _ (List.mem_of_getElem? (i := 4) rfl))) (fun _ h9 => h9) rfl hin rfl (tyX12_ok 0 (by decide)) rfl rfl (Nat.le_of_ble_eq_true rfl) dX12_init_10 (fun H locs hP hD hS => ?_)
  obtain ⟨hP, hD⟩ := zre [(mq, .inr (12, (.ref q_1 :: .int 0 :: .int 0 :: .null :: .int 0 :: .int 0 :: .int 0 :: .int 0 :: .int 0 :: .int 0 :: .int 0 :: .int 0 :: .int 0 :: .int 0 :: .int 0 :: .int 0 :: .int 0 :: .int 0 :: .int 0 :: .int 0 :: .int 0 :: .int 0 :: .int 0 :: .int 0 :: .null :: .int 0 :: .int 0 :: .int 0 :: .null :: .null :: .null :: .null :: .null :: .null :: .null :: .null :: .null :: .null :: .null :: .null :: .null :: .null :: .null :: .null :: [.long 0, .null, .null, .int 0, .int 0, .int 0, .int 0, .int 0, .int 0, .long 0, .long 0, .null, .null, .int 0, .int 0, .int 0, .null, .null, .int 0, .int 0, .int 0, .null, .null, .int 0, .null, .null, .int 0, .int 0, .int 0, .null, .null, .null]))), (eA0 q_1 cA_2 900 (fun _ => 0))] hP hD rfl
  refine lv_aload_n hx hb dX12_init_13 rfl (lv_at hl 0 rfl) ?_
  refine lv_bipush (v := 118) hx hb dX12_init_14 (by decide) ?_
  refine va_newa (ty := .int) (a0 := (118, .inl (fun _ => 0))) hx hb (htw _ (ck_2 _ (List.mem_of_getElem? (i := 7) rfl))) rfl hK hP hD hS hA (fun _ => rfl) (by decide) (by decide) (by decide) (Nat.le_of_ble_eq_true rfl) (Nat.le_of_ble_eq_true rfl) dX12_init_16 (fun q_3 cA_4 H hK hP hD hS => ?_)
  have hK : va_K (dC, dI) vwCl [(cA_2, .int), (cA_4, .int)] s := hK
  obtain ⟨hP, hD⟩ := zre [(mq, .inr (12, (.ref q_1 :: .int 0 :: .int 0 :: .null :: .int 0 :: .int 0 :: .int 0 :: .int 0 :: .int 0 :: .int 0 :: .int 0 :: .int 0 :: .int 0 :: .int 0 :: .int 0 :: .int 0 :: .int 0 :: .int 0 :: .int 0 :: .int 0 :: .int 0 :: .int 0 :: .int 0 :: .int 0 :: .null :: .int 0 :: .int 0 :: .int 0 :: .null :: .null :: .null :: .null :: .null :: .null :: .null :: .null :: .null :: .null :: .null :: .null :: .null :: .null :: .null :: .null :: [.long 0, .null, .null, .int 0, .int 0, .int 0, .int 0, .int 0, .int 0, .long 0, .long 0, .null, .null, .int 0, .int 0, .int 0, .null, .null, .int 0, .int 0, .int 0, .null, .null, .int 0, .null, .null, .int 0, .int 0, .int 0, .null, .null, .null]))), (eA0 q_1 cA_2 900 (fun _ => 0)), (eA0 q_3 cA_4 118 (fun _ => 0))] hP hD rfl
  refine W.widen (k := 2) (n := 1018) (by omega) (by omega) ?_
  refine lv_dup hx hb dX12_init_18 rfl ?_
  refine lv_iconst (v := 0) hx hb dX12_init_19 (by decide) ?_
  refine lv_bipush (v := 108) hx hb dX12_init_20 (by decide) ?_
  have hP := xa_P hP hD (p := 2) rfl (xa_i (g := ym_w 0) (fun k _ => (if_neg (Nat.not_lt_zero k)).symm))
  have hD := hD.set (p := 2) (e := .inl (cA_4, 118, .inl (ym_w 0))) rfl
  obtain ⟨hP, hD⟩ := zre [(mq, .inr (12, (.ref q_1 :: .int 0 :: .int 0 :: .null :: .int 0 :: .int 0 :: .int 0 :: .int 0 :: .int 0 :: .int 0 :: .int 0 :: .int 0 :: .int 0 :: .int 0 :: .int 0 :: .int 0 :: .int 0 :: .int 0 :: .int 0 :: .int 0 :: .int 0 :: .int 0 :: .int 0 :: .int 0 :: .null :: .int 0 :: .int 0 :: .int 0 :: .null :: .null :: .null :: .null :: .null :: .null :: .null :: .null :: .null :: .null :: .null :: .null :: .null :: .null :: .null :: .null :: [.long 0, .null, .null, .int 0, .int 0, .int 0, .int 0, .int 0, .int 0, .long 0, .long 0, .null, .null, .int 0, .int 0, .int 0, .null, .null, .int 0, .int 0, .int 0, .null, .null, .int 0, .null, .null, .int 0, .int 0, .int 0, .null, .null, .null]))), (eA0 q_1 cA_2 900 (fun _ => 0)), (eA0 q_3 cA_4 118 (ym_w 0))] hP hD rfl
  obtain ⟨W0, hW0⟩ : ∃ z : va_E, z = .inr (12, (.ref q_1 :: .int 0 :: .int 0 :: .null :: .int 0 :: .int 0 :: .int 0 :: .int 0 :: .int 0 :: .int 0 :: .int 0 :: .int 0 :: .int 0 :: .int 0 :: .int 0 :: .int 0 :: .int 0 :: .int 0 :: .int 0 :: .int 0 :: .int 0 :: .int 0 :: .int 0 :: .int 0 :: .null :: .int 0 :: .int 0 :: .int 0 :: .null :: .null :: .null :: .null :: .null :: .null :: .null :: .null :: .null :: .null :: .null :: .null :: .null :: .null :: .null :: .null :: [.long 0, .null, .null, .int 0, .int 0, .int 0, .int 0, .int 0, .int 0, .long 0, .long 0, .null, .null, .int 0, .int 0, .int 0, .null, .null, .int 0, .int 0, .int 0, .null, .null, .int 0, .null, .null, .int 0, .int 0, .int 0, .null, .null, .null])) := ⟨_, rfl⟩
  rw [← hW0] at hP hD
  refine va_iast hx hb hK hP hD hS 2 1 rfl rfl (by unfold vp_in; decide) dX12_init_22 (fun H locs hP hD hS => ?_)
  rw [ym_wS 0 (i := 0) (v := 108) (by decide) (by decide)] at hP hD
  obtain ⟨hP, hD⟩ := zre [(mq, W0), (eA0 q_1 cA_2 900 (fun _ => 0)), (eA0 q_3 cA_4 118 (ym_w 1))] hP hD rfl
  refine lv_dup hx hb dX12_init_23 rfl ?_
  refine lv_iconst (v := 1) hx hb dX12_init_24 (by decide) ?_
  refine lv_bipush (v := 97) hx hb dX12_init_25 (by decide) ?_
  refine va_iast hx hb hK hP hD hS 2 1 rfl rfl (by unfold vp_in; decide) dX12_init_27 (fun H locs hP hD hS => ?_)
  rw [ym_wS 1 (i := 1) (v := 97) (by decide) (by decide)] at hP hD
  obtain ⟨hP, hD⟩ := zre [(mq, W0), (eA0 q_1 cA_2 900 (fun _ => 0)), (eA0 q_3 cA_4 118 (ym_w 2))] hP hD rfl
  refine lv_dup hx hb dX12_init_28 rfl ?_
  refine lv_iconst (v := 2) hx hb dX12_init_29 (by decide) ?_
  refine lv_bipush (v := 110) hx hb dX12_init_30 (by decide) ?_
  refine va_iast hx hb hK hP hD hS 2 1 rfl rfl (by unfold vp_in; decide) dX12_init_32 (fun H locs hP hD hS => ?_)
  rw [ym_wS 2 (i := 2) (v := 110) (by decide) (by decide)] at hP hD
  obtain ⟨hP, hD⟩ := zre [(mq, W0), (eA0 q_1 cA_2 900 (fun _ => 0)), (eA0 q_3 cA_4 118 (ym_w 3))] hP hD rfl
  refine lv_dup hx hb dX12_init_33 rfl ?_
  refine lv_iconst (v := 3) hx hb dX12_init_34 (by decide) ?_
  refine lv_bipush (v := 100) hx hb dX12_init_35 (by decide) ?_
  refine va_iast hx hb hK hP hD hS 2 1 rfl rfl (by unfold vp_in; decide) dX12_init_37 (fun H locs hP hD hS => ?_)
  rw [ym_wS 3 (i := 3) (v := 100) (by decide) (by decide)] at hP hD
  obtain ⟨hP, hD⟩ := zre [(mq, W0), (eA0 q_1 cA_2 900 (fun _ => 0)), (eA0 q_3 cA_4 118 (ym_w 4))] hP hD rfl
  refine lv_dup hx hb dX12_init_38 rfl ?_
  refine lv_iconst (v := 4) hx hb dX12_init_39 (by decide) ?_
  refine lv_bipush (v := 32) hx hb dX12_init_40 (by decide) ?_
  refine va_iast hx hb hK hP hD hS 2 1 rfl rfl (by unfold vp_in; decide) dX12_init_42 (fun H locs hP hD hS => ?_)
  rw [ym_wS 4 (i := 4) (v := 32) (by decide) (by decide)] at hP hD
  obtain ⟨hP, hD⟩ := zre [(mq, W0), (eA0 q_1 cA_2 900 (fun _ => 0)), (eA0 q_3 cA_4 118 (ym_w 5))] hP hD rfl
  refine lv_dup hx hb dX12_init_43 rfl ?_
  refine lv_iconst (v := 5) hx hb dX12_init_44 (by decide) ?_
  refine lv_bipush (v := 102) hx hb dX12_init_45 (by decide) ?_
  refine va_iast hx hb hK hP hD hS 2 1 rfl rfl (by unfold vp_in; decide) dX12_init_47 (fun H locs hP hD hS => ?_)
  rw [ym_wS 5 (i := 5) (v := 102) (by decide) (by decide)] at hP hD
  obtain ⟨hP, hD⟩ := zre [(mq, W0), (eA0 q_1 cA_2 900 (fun _ => 0)), (eA0 q_3 cA_4 118 (ym_w 6))] hP hD rfl
  refine lv_dup hx hb dX12_init_48 rfl ?_
  refine lv_bipush (v := 6) hx hb dX12_init_49 (by decide) ?_
  refine lv_bipush (v := 101) hx hb dX12_init_51 (by decide) ?_
  refine va_iast hx hb hK hP hD hS 2 1 rfl rfl (by unfold vp_in; decide) dX12_init_53 (fun H locs hP hD hS => ?_)
  rw [ym_wS 6 (i := 6) (v := 101) (by decide) (by decide)] at hP hD
  obtain ⟨hP, hD⟩ := zre [(mq, W0), (eA0 q_1 cA_2 900 (fun _ => 0)), (eA0 q_3 cA_4 118 (ym_w 7))] hP hD rfl
  refine lv_dup hx hb dX12_init_54 rfl ?_
  refine lv_bipush (v := 7) hx hb dX12_init_55 (by decide) ?_
  refine lv_bipush (v := 97) hx hb dX12_init_57 (by decide) ?_
  refine va_iast hx hb hK hP hD hS 2 1 rfl rfl (by unfold vp_in; decide) dX12_init_59 (fun H locs hP hD hS => ?_)
  rw [ym_wS 7 (i := 7) (v := 97) (by decide) (by decide)] at hP hD
  obtain ⟨hP, hD⟩ := zre [(mq, W0), (eA0 q_1 cA_2 900 (fun _ => 0)), (eA0 q_3 cA_4 118 (ym_w 8))] hP hD rfl
  refine lv_dup hx hb dX12_init_60 rfl ?_
  refine lv_bipush (v := 8) hx hb dX12_init_61 (by decide) ?_
  refine lv_bipush (v := 115) hx hb dX12_init_63 (by decide) ?_
  refine va_iast hx hb hK hP hD hS 2 1 rfl rfl (by unfold vp_in; decide) dX12_init_65 (fun H locs hP hD hS => ?_)
  rw [ym_wS 8 (i := 8) (v := 115) (by decide) (by decide)] at hP hD
  obtain ⟨hP, hD⟩ := zre [(mq, W0), (eA0 q_1 cA_2 900 (fun _ => 0)), (eA0 q_3 cA_4 118 (ym_w 9))] hP hD rfl
  refine lv_dup hx hb dX12_init_66 rfl ?_
  refine lv_bipush (v := 9) hx hb dX12_init_67 (by decide) ?_
  refine lv_bipush (v := 116) hx hb dX12_init_69 (by decide) ?_
  refine va_iast hx hb hK hP hD hS 2 1 rfl rfl (by unfold vp_in; decide) dX12_init_71 (fun H locs hP hD hS => ?_)
  rw [ym_wS 9 (i := 9) (v := 116) (by decide) (by decide)] at hP hD
  obtain ⟨hP, hD⟩ := zre [(mq, W0), (eA0 q_1 cA_2 900 (fun _ => 0)), (eA0 q_3 cA_4 118 (ym_w 10))] hP hD rfl
  refine lv_dup hx hb dX12_init_72 rfl ?_
  refine lv_bipush (v := 10) hx hb dX12_init_73 (by decide) ?_
  refine lv_bipush (v := 32) hx hb dX12_init_75 (by decide) ?_
  refine va_iast hx hb hK hP hD hS 2 1 rfl rfl (by unfold vp_in; decide) dX12_init_77 (fun H locs hP hD hS => ?_)
  rw [ym_wS 10 (i := 10) (v := 32) (by decide) (by decide)] at hP hD
  obtain ⟨hP, hD⟩ := zre [(mq, W0), (eA0 q_1 cA_2 900 (fun _ => 0)), (eA0 q_3 cA_4 118 (ym_w 11))] hP hD rfl
  refine lv_dup hx hb dX12_init_78 rfl ?_
  refine lv_bipush (v := 11) hx hb dX12_init_79 (by decide) ?_
  refine lv_bipush (v := 112) hx hb dX12_init_81 (by decide) ?_
  refine va_iast hx hb hK hP hD hS 2 1 rfl rfl (by unfold vp_in; decide) dX12_init_83 (fun H locs hP hD hS => ?_)
  rw [ym_wS 11 (i := 11) (v := 112) (by decide) (by decide)] at hP hD
  obtain ⟨hP, hD⟩ := zre [(mq, W0), (eA0 q_1 cA_2 900 (fun _ => 0)), (eA0 q_3 cA_4 118 (ym_w 12))] hP hD rfl
  refine lv_dup hx hb dX12_init_84 rfl ?_
  refine lv_bipush (v := 12) hx hb dX12_init_85 (by decide) ?_
  refine lv_bipush (v := 101) hx hb dX12_init_87 (by decide) ?_
  refine va_iast hx hb hK hP hD hS 2 1 rfl rfl (by unfold vp_in; decide) dX12_init_89 (fun H locs hP hD hS => ?_)
  rw [ym_wS 12 (i := 12) (v := 101) (by decide) (by decide)] at hP hD
  obtain ⟨hP, hD⟩ := zre [(mq, W0), (eA0 q_1 cA_2 900 (fun _ => 0)), (eA0 q_3 cA_4 118 (ym_w 13))] hP hD rfl
  refine lv_dup hx hb dX12_init_90 rfl ?_
  refine lv_bipush (v := 13) hx hb dX12_init_91 (by decide) ?_
  refine lv_bipush (v := 114) hx hb dX12_init_93 (by decide) ?_
  refine va_iast hx hb hK hP hD hS 2 1 rfl rfl (by unfold vp_in; decide) dX12_init_95 (fun H locs hP hD hS => ?_)
  rw [ym_wS 13 (i := 13) (v := 114) (by decide) (by decide)] at hP hD
  obtain ⟨hP, hD⟩ := zre [(mq, W0), (eA0 q_1 cA_2 900 (fun _ => 0)), (eA0 q_3 cA_4 118 (ym_w 14))] hP hD rfl
  refine lv_dup hx hb dX12_init_96 rfl ?_
  refine lv_bipush (v := 14) hx hb dX12_init_97 (by decide) ?_
  refine lv_bipush (v := 115) hx hb dX12_init_99 (by decide) ?_
  refine va_iast hx hb hK hP hD hS 2 1 rfl rfl (by unfold vp_in; decide) dX12_init_101 (fun H locs hP hD hS => ?_)
  rw [ym_wS 14 (i := 14) (v := 115) (by decide) (by decide)] at hP hD
  obtain ⟨hP, hD⟩ := zre [(mq, W0), (eA0 q_1 cA_2 900 (fun _ => 0)), (eA0 q_3 cA_4 118 (ym_w 15))] hP hD rfl
  refine lv_dup hx hb dX12_init_102 rfl ?_
  refine lv_bipush (v := 15) hx hb dX12_init_103 (by decide) ?_
  refine lv_bipush (v := 111) hx hb dX12_init_105 (by decide) ?_
  refine va_iast hx hb hK hP hD hS 2 1 rfl rfl (by unfold vp_in; decide) dX12_init_107 (fun H locs hP hD hS => ?_)
  rw [ym_wS 15 (i := 15) (v := 111) (by decide) (by decide)] at hP hD
  obtain ⟨hP, hD⟩ := zre [(mq, W0), (eA0 q_1 cA_2 900 (fun _ => 0)), (eA0 q_3 cA_4 118 (ym_w 16))] hP hD rfl
  refine lv_dup hx hb dX12_init_108 rfl ?_
  refine lv_bipush (v := 16) hx hb dX12_init_109 (by decide) ?_
  refine lv_bipush (v := 110) hx hb dX12_init_111 (by decide) ?_
  refine va_iast hx hb hK hP hD hS 2 1 rfl rfl (by unfold vp_in; decide) dX12_init_113 (fun H locs hP hD hS => ?_)
  rw [ym_wS 16 (i := 16) (v := 110) (by decide) (by decide)] at hP hD
  obtain ⟨hP, hD⟩ := zre [(mq, W0), (eA0 q_1 cA_2 900 (fun _ => 0)), (eA0 q_3 cA_4 118 (ym_w 17))] hP hD rfl
  refine lv_dup hx hb dX12_init_114 rfl ?_
  refine lv_bipush (v := 17) hx hb dX12_init_115 (by decide) ?_
  refine lv_bipush (v := 32) hx hb dX12_init_117 (by decide) ?_
  refine va_iast hx hb hK hP hD hS 2 1 rfl rfl (by unfold vp_in; decide) dX12_init_119 (fun H locs hP hD hS => ?_)
  rw [ym_wS 17 (i := 17) (v := 32) (by decide) (by decide)] at hP hD
  obtain ⟨hP, hD⟩ := zre [(mq, W0), (eA0 q_1 cA_2 900 (fun _ => 0)), (eA0 q_3 cA_4 118 (ym_w 18))] hP hD rfl
  refine lv_dup hx hb dX12_init_120 rfl ?_
  refine lv_bipush (v := 18) hx hb dX12_init_121 (by decide) ?_
  refine lv_bipush (v := 100) hx hb dX12_init_123 (by decide) ?_
  refine va_iast hx hb hK hP hD hS 2 1 rfl rfl (by unfold vp_in; decide) dX12_init_125 (fun H locs hP hD hS => ?_)
  rw [ym_wS 18 (i := 18) (v := 100) (by decide) (by decide)] at hP hD
  obtain ⟨hP, hD⟩ := zre [(mq, W0), (eA0 q_1 cA_2 900 (fun _ => 0)), (eA0 q_3 cA_4 118 (ym_w 19))] hP hD rfl
  refine lv_dup hx hb dX12_init_126 rfl ?_
  refine lv_bipush (v := 19) hx hb dX12_init_127 (by decide) ?_
  refine lv_bipush (v := 101) hx hb dX12_init_129 (by decide) ?_
  refine va_iast hx hb hK hP hD hS 2 1 rfl rfl (by unfold vp_in; decide) dX12_init_131 (fun H locs hP hD hS => ?_)
  rw [ym_wS 19 (i := 19) (v := 101) (by decide) (by decide)] at hP hD
  obtain ⟨hP, hD⟩ := zre [(mq, W0), (eA0 q_1 cA_2 900 (fun _ => 0)), (eA0 q_3 cA_4 118 (ym_w 20))] hP hD rfl
  refine lv_dup hx hb dX12_init_132 rfl ?_
  refine lv_bipush (v := 20) hx hb dX12_init_133 (by decide) ?_
  refine lv_bipush (v := 101) hx hb dX12_init_135 (by decide) ?_
  refine va_iast hx hb hK hP hD hS 2 1 rfl rfl (by unfold vp_in; decide) dX12_init_137 (fun H locs hP hD hS => ?_)
  rw [ym_wS 20 (i := 20) (v := 101) (by decide) (by decide)] at hP hD
  obtain ⟨hP, hD⟩ := zre [(mq, W0), (eA0 q_1 cA_2 900 (fun _ => 0)), (eA0 q_3 cA_4 118 (ym_w 21))] hP hD rfl
  refine lv_dup hx hb dX12_init_138 rfl ?_
  refine lv_bipush (v := 21) hx hb dX12_init_139 (by decide) ?_
  refine lv_bipush (v := 100) hx hb dX12_init_141 (by decide) ?_
  refine va_iast hx hb hK hP hD hS 2 1 rfl rfl (by unfold vp_in; decide) dX12_init_143 (fun H locs hP hD hS => ?_)
  rw [ym_wS 21 (i := 21) (v := 100) (by decide) (by decide)] at hP hD
  obtain ⟨hP, hD⟩ := zre [(mq, W0), (eA0 q_1 cA_2 900 (fun _ => 0)), (eA0 q_3 cA_4 118 (ym_w 22))] hP hD rfl
  refine lv_dup hx hb dX12_init_144 rfl ?_
  refine lv_bipush (v := 22) hx hb dX12_init_145 (by decide) ?_
  refine lv_bipush (v := 32) hx hb dX12_init_147 (by decide) ?_
  refine va_iast hx hb hK hP hD hS 2 1 rfl rfl (by unfold vp_in; decide) dX12_init_149 (fun H locs hP hD hS => ?_)
  rw [ym_wS 22 (i := 22) (v := 32) (by decide) (by decide)] at hP hD
  obtain ⟨hP, hD⟩ := zre [(mq, W0), (eA0 q_1 cA_2 900 (fun _ => 0)), (eA0 q_3 cA_4 118 (ym_w 23))] hP hD rfl
  refine lv_dup hx hb dX12_init_150 rfl ?_
  refine lv_bipush (v := 23) hx hb dX12_init_151 (by decide) ?_
  refine lv_bipush (v := 110) hx hb dX12_init_153 (by decide) ?_
  refine va_iast hx hb hK hP hD hS 2 1 rfl rfl (by unfold vp_in; decide) dX12_init_155 (fun H locs hP hD hS => ?_)
  rw [ym_wS 23 (i := 23) (v := 110) (by decide) (by decide)] at hP hD
  obtain ⟨hP, hD⟩ := zre [(mq, W0), (eA0 q_1 cA_2 900 (fun _ => 0)), (eA0 q_3 cA_4 118 (ym_w 24))] hP hD rfl
  refine lv_dup hx hb dX12_init_156 rfl ?_
  refine lv_bipush (v := 24) hx hb dX12_init_157 (by decide) ?_
  refine lv_bipush (v := 111) hx hb dX12_init_159 (by decide) ?_
  refine va_iast hx hb hK hP hD hS 2 1 rfl rfl (by unfold vp_in; decide) dX12_init_161 (fun H locs hP hD hS => ?_)
  rw [ym_wS 24 (i := 24) (v := 111) (by decide) (by decide)] at hP hD
  obtain ⟨hP, hD⟩ := zre [(mq, W0), (eA0 q_1 cA_2 900 (fun _ => 0)), (eA0 q_3 cA_4 118 (ym_w 25))] hP hD rfl
  refine lv_dup hx hb dX12_init_162 rfl ?_
  refine lv_bipush (v := 25) hx hb dX12_init_163 (by decide) ?_
  refine lv_bipush (v := 116) hx hb dX12_init_165 (by decide) ?_
  refine va_iast hx hb hK hP hD hS 2 1 rfl rfl (by unfold vp_in; decide) dX12_init_167 (fun H locs hP hD hS => ?_)
  rw [ym_wS 25 (i := 25) (v := 116) (by decide) (by decide)] at hP hD
  obtain ⟨hP, hD⟩ := zre [(mq, W0), (eA0 q_1 cA_2 900 (fun _ => 0)), (eA0 q_3 cA_4 118 (ym_w 26))] hP hD rfl
  refine lv_dup hx hb dX12_init_168 rfl ?_
  refine lv_bipush (v := 26) hx hb dX12_init_169 (by decide) ?_
  refine lv_bipush (v := 101) hx hb dX12_init_171 (by decide) ?_
  refine va_iast hx hb hK hP hD hS 2 1 rfl rfl (by unfold vp_in; decide) dX12_init_173 (fun H locs hP hD hS => ?_)
  rw [ym_wS 26 (i := 26) (v := 101) (by decide) (by decide)] at hP hD
  obtain ⟨hP, hD⟩ := zre [(mq, W0), (eA0 q_1 cA_2 900 (fun _ => 0)), (eA0 q_3 cA_4 118 (ym_w 27))] hP hD rfl
  refine lv_dup hx hb dX12_init_174 rfl ?_
  refine lv_bipush (v := 27) hx hb dX12_init_175 (by decide) ?_
  refine lv_bipush (v := 32) hx hb dX12_init_177 (by decide) ?_
  refine va_iast hx hb hK hP hD hS 2 1 rfl rfl (by unfold vp_in; decide) dX12_init_179 (fun H locs hP hD hS => ?_)
  rw [ym_wS 27 (i := 27) (v := 32) (by decide) (by decide)] at hP hD
  obtain ⟨hP, hD⟩ := zre [(mq, W0), (eA0 q_1 cA_2 900 (fun _ => 0)), (eA0 q_3 cA_4 118 (ym_w 28))] hP hD rfl
  refine lv_dup hx hb dX12_init_180 rfl ?_
  refine lv_bipush (v := 28) hx hb dX12_init_181 (by decide) ?_
  refine lv_bipush (v := 115) hx hb dX12_init_183 (by decide) ?_
  refine va_iast hx hb hK hP hD hS 2 1 rfl rfl (by unfold vp_in; decide) dX12_init_185 (fun H locs hP hD hS => ?_)
  rw [ym_wS 28 (i := 28) (v := 115) (by decide) (by decide)] at hP hD
  obtain ⟨hP, hD⟩ := zre [(mq, W0), (eA0 q_1 cA_2 900 (fun _ => 0)), (eA0 q_3 cA_4 118 (ym_w 29))] hP hD rfl
  refine lv_dup hx hb dX12_init_186 rfl ?_
  refine lv_bipush (v := 29) hx hb dX12_init_187 (by decide) ?_
  refine lv_bipush (v := 117) hx hb dX12_init_189 (by decide) ?_
  refine va_iast hx hb hK hP hD hS 2 1 rfl rfl (by unfold vp_in; decide) dX12_init_191 (fun H locs hP hD hS => ?_)
  rw [ym_wS 29 (i := 29) (v := 117) (by decide) (by decide)] at hP hD
  obtain ⟨hP, hD⟩ := zre [(mq, W0), (eA0 q_1 cA_2 900 (fun _ => 0)), (eA0 q_3 cA_4 118 (ym_w 30))] hP hD rfl
  refine lv_dup hx hb dX12_init_192 rfl ?_
  refine lv_bipush (v := 30) hx hb dX12_init_193 (by decide) ?_
  refine lv_bipush (v := 110) hx hb dX12_init_195 (by decide) ?_
  refine va_iast hx hb hK hP hD hS 2 1 rfl rfl (by unfold vp_in; decide) dX12_init_197 (fun H locs hP hD hS => ?_)
  rw [ym_wS 30 (i := 30) (v := 110) (by decide) (by decide)] at hP hD
  obtain ⟨hP, hD⟩ := zre [(mq, W0), (eA0 q_1 cA_2 900 (fun _ => 0)), (eA0 q_3 cA_4 118 (ym_w 31))] hP hD rfl
  refine lv_dup hx hb dX12_init_198 rfl ?_
  refine lv_bipush (v := 31) hx hb dX12_init_199 (by decide) ?_
  refine lv_bipush (v := 32) hx hb dX12_init_201 (by decide) ?_
  refine va_iast hx hb hK hP hD hS 2 1 rfl rfl (by unfold vp_in; decide) dX12_init_203 (fun H locs hP hD hS => ?_)
  rw [ym_wS 31 (i := 31) (v := 32) (by decide) (by decide)] at hP hD
  obtain ⟨hP, hD⟩ := zre [(mq, W0), (eA0 q_1 cA_2 900 (fun _ => 0)), (eA0 q_3 cA_4 118 (ym_w 32))] hP hD rfl
  refine lv_dup hx hb dX12_init_204 rfl ?_
  refine lv_bipush (v := 32) hx hb dX12_init_205 (by decide) ?_
  refine lv_bipush (v := 119) hx hb dX12_init_207 (by decide) ?_
  refine va_iast hx hb hK hP hD hS 2 1 rfl rfl (by unfold vp_in; decide) dX12_init_209 (fun H locs hP hD hS => ?_)
  rw [ym_wS 32 (i := 32) (v := 119) (by decide) (by decide)] at hP hD
  obtain ⟨hP, hD⟩ := zre [(mq, W0), (eA0 q_1 cA_2 900 (fun _ => 0)), (eA0 q_3 cA_4 118 (ym_w 33))] hP hD rfl
  refine lv_dup hx hb dX12_init_210 rfl ?_
  refine lv_bipush (v := 33) hx hb dX12_init_211 (by decide) ?_
  refine lv_bipush (v := 101) hx hb dX12_init_213 (by decide) ?_
  refine va_iast hx hb hK hP hD hS 2 1 rfl rfl (by unfold vp_in; decide) dX12_init_215 (fun H locs hP hD hS => ?_)
  rw [ym_wS 33 (i := 33) (v := 101) (by decide) (by decide)] at hP hD
  obtain ⟨hP, hD⟩ := zre [(mq, W0), (eA0 q_1 cA_2 900 (fun _ => 0)), (eA0 q_3 cA_4 118 (ym_w 34))] hP hD rfl
  refine lv_dup hx hb dX12_init_216 rfl ?_
  refine lv_bipush (v := 34) hx hb dX12_init_217 (by decide) ?_
  refine lv_bipush (v := 101) hx hb dX12_init_219 (by decide) ?_
  refine va_iast hx hb hK hP hD hS 2 1 rfl rfl (by unfold vp_in; decide) dX12_init_221 (fun H locs hP hD hS => ?_)
  rw [ym_wS 34 (i := 34) (v := 101) (by decide) (by decide)] at hP hD
  obtain ⟨hP, hD⟩ := zre [(mq, W0), (eA0 q_1 cA_2 900 (fun _ => 0)), (eA0 q_3 cA_4 118 (ym_w 35))] hP hD rfl
  refine lv_dup hx hb dX12_init_222 rfl ?_
  refine lv_bipush (v := 35) hx hb dX12_init_223 (by decide) ?_
  refine lv_bipush (v := 107) hx hb dX12_init_225 (by decide) ?_
  refine va_iast hx hb hK hP hD hS 2 1 rfl rfl (by unfold vp_in; decide) dX12_init_227 (fun H locs hP hD hS => ?_)
  rw [ym_wS 35 (i := 35) (v := 107) (by decide) (by decide)] at hP hD
  obtain ⟨hP, hD⟩ := zre [(mq, W0), (eA0 q_1 cA_2 900 (fun _ => 0)), (eA0 q_3 cA_4 118 (ym_w 36))] hP hD rfl
  refine lv_dup hx hb dX12_init_228 rfl ?_
  refine lv_bipush (v := 36) hx hb dX12_init_229 (by decide) ?_
  refine lv_bipush (v := 32) hx hb dX12_init_231 (by decide) ?_
  refine va_iast hx hb hK hP hD hS 2 1 rfl rfl (by unfold vp_in; decide) dX12_init_233 (fun H locs hP hD hS => ?_)
  rw [ym_wS 36 (i := 36) (v := 32) (by decide) (by decide)] at hP hD
  obtain ⟨hP, hD⟩ := zre [(mq, W0), (eA0 q_1 cA_2 900 (fun _ => 0)), (eA0 q_3 cA_4 118 (ym_w 37))] hP hD rfl
  refine lv_dup hx hb dX12_init_234 rfl ?_
  refine lv_bipush (v := 37) hx hb dX12_init_235 (by decide) ?_
  refine lv_bipush (v := 109) hx hb dX12_init_237 (by decide) ?_
  refine va_iast hx hb hK hP hD hS 2 1 rfl rfl (by unfold vp_in; decide) dX12_init_239 (fun H locs hP hD hS => ?_)
  rw [ym_wS 37 (i := 37) (v := 109) (by decide) (by decide)] at hP hD
  obtain ⟨hP, hD⟩ := zre [(mq, W0), (eA0 q_1 cA_2 900 (fun _ => 0)), (eA0 q_3 cA_4 118 (ym_w 38))] hP hD rfl
  refine lv_dup hx hb dX12_init_240 rfl ?_
  refine lv_bipush (v := 38) hx hb dX12_init_241 (by decide) ?_
  refine lv_bipush (v := 111) hx hb dX12_init_243 (by decide) ?_
  refine va_iast hx hb hK hP hD hS 2 1 rfl rfl (by unfold vp_in; decide) dX12_init_245 (fun H locs hP hD hS => ?_)
  rw [ym_wS 38 (i := 38) (v := 111) (by decide) (by decide)] at hP hD
  obtain ⟨hP, hD⟩ := zre [(mq, W0), (eA0 q_1 cA_2 900 (fun _ => 0)), (eA0 q_3 cA_4 118 (ym_w 39))] hP hD rfl
  refine lv_dup hx hb dX12_init_246 rfl ?_
  refine lv_bipush (v := 39) hx hb dX12_init_247 (by decide) ?_
  refine lv_bipush (v := 111) hx hb dX12_init_249 (by decide) ?_
  refine va_iast hx hb hK hP hD hS 2 1 rfl rfl (by unfold vp_in; decide) dX12_init_251 (fun H locs hP hD hS => ?_)
  rw [ym_wS 39 (i := 39) (v := 111) (by decide) (by decide)] at hP hD
  obtain ⟨hP, hD⟩ := zre [(mq, W0), (eA0 q_1 cA_2 900 (fun _ => 0)), (eA0 q_3 cA_4 118 (ym_w 40))] hP hD rfl
  refine lv_dup hx hb dX12_init_252 rfl ?_
  refine lv_bipush (v := 40) hx hb dX12_init_253 (by decide) ?_
  refine lv_bipush (v := 110) hx hb dX12_init_255 (by decide) ?_
  refine va_iast hx hb hK hP hD hS 2 1 rfl rfl (by unfold vp_in; decide) dX12_init_257 (fun H locs hP hD hS => ?_)
  rw [ym_wS 40 (i := 40) (v := 110) (by decide) (by decide)] at hP hD
  obtain ⟨hP, hD⟩ := zre [(mq, W0), (eA0 q_1 cA_2 900 (fun _ => 0)), (eA0 q_3 cA_4 118 (ym_w 41))] hP hD rfl
  refine lv_dup hx hb dX12_init_258 rfl ?_
  refine lv_bipush (v := 41) hx hb dX12_init_259 (by decide) ?_
  refine lv_bipush (v := 32) hx hb dX12_init_261 (by decide) ?_
  refine va_iast hx hb hK hP hD hS 2 1 rfl rfl (by unfold vp_in; decide) dX12_init_263 (fun H locs hP hD hS => ?_)
  rw [ym_wS 41 (i := 41) (v := 32) (by decide) (by decide)] at hP hD
  obtain ⟨hP, hD⟩ := zre [(mq, W0), (eA0 q_1 cA_2 900 (fun _ => 0)), (eA0 q_3 cA_4 118 (ym_w 42))] hP hD rfl
  refine lv_dup hx hb dX12_init_264 rfl ?_
  refine lv_bipush (v := 42) hx hb dX12_init_265 (by decide) ?_
  refine lv_bipush (v := 102) hx hb dX12_init_267 (by decide) ?_
  refine va_iast hx hb hK hP hD hS 2 1 rfl rfl (by unfold vp_in; decide) dX12_init_269 (fun H locs hP hD hS => ?_)
  rw [ym_wS 42 (i := 42) (v := 102) (by decide) (by decide)] at hP hD
  obtain ⟨hP, hD⟩ := zre [(mq, W0), (eA0 q_1 cA_2 900 (fun _ => 0)), (eA0 q_3 cA_4 118 (ym_w 43))] hP hD rfl
  refine lv_dup hx hb dX12_init_270 rfl ?_
  refine lv_bipush (v := 43) hx hb dX12_init_271 (by decide) ?_
  refine lv_bipush (v := 114) hx hb dX12_init_273 (by decide) ?_
  refine va_iast hx hb hK hP hD hS 2 1 rfl rfl (by unfold vp_in; decide) dX12_init_275 (fun H locs hP hD hS => ?_)
  rw [ym_wS 43 (i := 43) (v := 114) (by decide) (by decide)] at hP hD
  obtain ⟨hP, hD⟩ := zre [(mq, W0), (eA0 q_1 cA_2 900 (fun _ => 0)), (eA0 q_3 cA_4 118 (ym_w 44))] hP hD rfl
  refine lv_dup hx hb dX12_init_276 rfl ?_
  refine lv_bipush (v := 44) hx hb dX12_init_277 (by decide) ?_
  refine lv_bipush (v := 111) hx hb dX12_init_279 (by decide) ?_
  refine va_iast hx hb hK hP hD hS 2 1 rfl rfl (by unfold vp_in; decide) dX12_init_281 (fun H locs hP hD hS => ?_)
  rw [ym_wS 44 (i := 44) (v := 111) (by decide) (by decide)] at hP hD
  obtain ⟨hP, hD⟩ := zre [(mq, W0), (eA0 q_1 cA_2 900 (fun _ => 0)), (eA0 q_3 cA_4 118 (ym_w 45))] hP hD rfl
  refine lv_dup hx hb dX12_init_282 rfl ?_
  refine lv_bipush (v := 45) hx hb dX12_init_283 (by decide) ?_
  refine lv_bipush (v := 109) hx hb dX12_init_285 (by decide) ?_
  refine va_iast hx hb hK hP hD hS 2 1 rfl rfl (by unfold vp_in; decide) dX12_init_287 (fun H locs hP hD hS => ?_)
  rw [ym_wS 45 (i := 45) (v := 109) (by decide) (by decide)] at hP hD
  obtain ⟨hP, hD⟩ := zre [(mq, W0), (eA0 q_1 cA_2 900 (fun _ => 0)), (eA0 q_3 cA_4 118 (ym_w 46))] hP hD rfl
  refine lv_dup hx hb dX12_init_288 rfl ?_
  refine lv_bipush (v := 46) hx hb dX12_init_289 (by decide) ?_
  refine lv_bipush (v := 32) hx hb dX12_init_291 (by decide) ?_
  refine va_iast hx hb hK hP hD hS 2 1 rfl rfl (by unfold vp_in; decide) dX12_init_293 (fun H locs hP hD hS => ?_)
  rw [ym_wS 46 (i := 46) (v := 32) (by decide) (by decide)] at hP hD
  obtain ⟨hP, hD⟩ := zre [(mq, W0), (eA0 q_1 cA_2 900 (fun _ => 0)), (eA0 q_3 cA_4 118 (ym_w 47))] hP hD rfl
  refine lv_dup hx hb dX12_init_294 rfl ?_
  refine lv_bipush (v := 47) hx hb dX12_init_295 (by decide) ?_
  refine lv_bipush (v := 100) hx hb dX12_init_297 (by decide) ?_
  refine va_iast hx hb hK hP hD hS 2 1 rfl rfl (by unfold vp_in; decide) dX12_init_299 (fun H locs hP hD hS => ?_)
  rw [ym_wS 47 (i := 47) (v := 100) (by decide) (by decide)] at hP hD
  obtain ⟨hP, hD⟩ := zre [(mq, W0), (eA0 q_1 cA_2 900 (fun _ => 0)), (eA0 q_3 cA_4 118 (ym_w 48))] hP hD rfl
  refine lv_dup hx hb dX12_init_300 rfl ?_
  refine lv_bipush (v := 48) hx hb dX12_init_301 (by decide) ?_
  refine lv_bipush (v := 105) hx hb dX12_init_303 (by decide) ?_
  refine va_iast hx hb hK hP hD hS 2 1 rfl rfl (by unfold vp_in; decide) dX12_init_305 (fun H locs hP hD hS => ?_)
  rw [ym_wS 48 (i := 48) (v := 105) (by decide) (by decide)] at hP hD
  obtain ⟨hP, hD⟩ := zre [(mq, W0), (eA0 q_1 cA_2 900 (fun _ => 0)), (eA0 q_3 cA_4 118 (ym_w 49))] hP hD rfl
  refine lv_dup hx hb dX12_init_306 rfl ?_
  refine lv_bipush (v := 49) hx hb dX12_init_307 (by decide) ?_
  refine lv_bipush (v := 101) hx hb dX12_init_309 (by decide) ?_
  refine va_iast hx hb hK hP hD hS 2 1 rfl rfl (by unfold vp_in; decide) dX12_init_311 (fun H locs hP hD hS => ?_)
  rw [ym_wS 49 (i := 49) (v := 101) (by decide) (by decide)] at hP hD
  obtain ⟨hP, hD⟩ := zre [(mq, W0), (eA0 q_1 cA_2 900 (fun _ => 0)), (eA0 q_3 cA_4 118 (ym_w 50))] hP hD rfl
  refine lv_dup hx hb dX12_init_312 rfl ?_
  refine lv_bipush (v := 50) hx hb dX12_init_313 (by decide) ?_
  refine lv_bipush (v := 100) hx hb dX12_init_315 (by decide) ?_
  refine va_iast hx hb hK hP hD hS 2 1 rfl rfl (by unfold vp_in; decide) dX12_init_317 (fun H locs hP hD hS => ?_)
  rw [ym_wS 50 (i := 50) (v := 100) (by decide) (by decide)] at hP hD
  obtain ⟨hP, hD⟩ := zre [(mq, W0), (eA0 q_1 cA_2 900 (fun _ => 0)), (eA0 q_3 cA_4 118 (ym_w 51))] hP hD rfl
  refine lv_dup hx hb dX12_init_318 rfl ?_
  refine lv_bipush (v := 51) hx hb dX12_init_319 (by decide) ?_
  refine lv_bipush (v := 32) hx hb dX12_init_321 (by decide) ?_
  refine va_iast hx hb hK hP hD hS 2 1 rfl rfl (by unfold vp_in; decide) dX12_init_323 (fun H locs hP hD hS => ?_)
  rw [ym_wS 51 (i := 51) (v := 32) (by decide) (by decide)] at hP hD
  obtain ⟨hP, hD⟩ := zre [(mq, W0), (eA0 q_1 cA_2 900 (fun _ => 0)), (eA0 q_3 cA_4 118 (ym_w 52))] hP hD rfl
  refine lv_dup hx hb dX12_init_324 rfl ?_
  refine lv_bipush (v := 52) hx hb dX12_init_325 (by decide) ?_
  refine lv_bipush (v := 121) hx hb dX12_init_327 (by decide) ?_
  refine va_iast hx hb hK hP hD hS 2 1 rfl rfl (by unfold vp_in; decide) dX12_init_329 (fun H locs hP hD hS => ?_)
  rw [ym_wS 52 (i := 52) (v := 121) (by decide) (by decide)] at hP hD
  obtain ⟨hP, hD⟩ := zre [(mq, W0), (eA0 q_1 cA_2 900 (fun _ => 0)), (eA0 q_3 cA_4 118 (ym_w 53))] hP hD rfl
  refine lv_dup hx hb dX12_init_330 rfl ?_
  refine lv_bipush (v := 53) hx hb dX12_init_331 (by decide) ?_
  refine lv_bipush (v := 101) hx hb dX12_init_333 (by decide) ?_
  refine va_iast hx hb hK hP hD hS 2 1 rfl rfl (by unfold vp_in; decide) dX12_init_335 (fun H locs hP hD hS => ?_)
  rw [ym_wS 53 (i := 53) (v := 101) (by decide) (by decide)] at hP hD
  obtain ⟨hP, hD⟩ := zre [(mq, W0), (eA0 q_1 cA_2 900 (fun _ => 0)), (eA0 q_3 cA_4 118 (ym_w 54))] hP hD rfl
  refine lv_dup hx hb dX12_init_336 rfl ?_
  refine lv_bipush (v := 54) hx hb dX12_init_337 (by decide) ?_
  refine lv_bipush (v := 97) hx hb dX12_init_339 (by decide) ?_
  refine va_iast hx hb hK hP hD hS 2 1 rfl rfl (by unfold vp_in; decide) dX12_init_341 (fun H locs hP hD hS => ?_)
  rw [ym_wS 54 (i := 54) (v := 97) (by decide) (by decide)] at hP hD
  obtain ⟨hP, hD⟩ := zre [(mq, W0), (eA0 q_1 cA_2 900 (fun _ => 0)), (eA0 q_3 cA_4 118 (ym_w 55))] hP hD rfl
  refine lv_dup hx hb dX12_init_342 rfl ?_
  refine lv_bipush (v := 55) hx hb dX12_init_343 (by decide) ?_
  refine lv_bipush (v := 114) hx hb dX12_init_345 (by decide) ?_
  refine va_iast hx hb hK hP hD hS 2 1 rfl rfl (by unfold vp_in; decide) dX12_init_347 (fun H locs hP hD hS => ?_)
  rw [ym_wS 55 (i := 55) (v := 114) (by decide) (by decide)] at hP hD
  obtain ⟨hP, hD⟩ := zre [(mq, W0), (eA0 q_1 cA_2 900 (fun _ => 0)), (eA0 q_3 cA_4 118 (ym_w 56))] hP hD rfl
  refine lv_dup hx hb dX12_init_348 rfl ?_
  refine lv_bipush (v := 56) hx hb dX12_init_349 (by decide) ?_
  refine lv_bipush (v := 115) hx hb dX12_init_351 (by decide) ?_
  refine va_iast hx hb hK hP hD hS 2 1 rfl rfl (by unfold vp_in; decide) dX12_init_353 (fun H locs hP hD hS => ?_)
  rw [ym_wS 56 (i := 56) (v := 115) (by decide) (by decide)] at hP hD
  obtain ⟨hP, hD⟩ := zre [(mq, W0), (eA0 q_1 cA_2 900 (fun _ => 0)), (eA0 q_3 cA_4 118 (ym_w 57))] hP hD rfl
  refine lv_dup hx hb dX12_init_354 rfl ?_
  refine lv_bipush (v := 57) hx hb dX12_init_355 (by decide) ?_
  refine lv_bipush (v := 32) hx hb dX12_init_357 (by decide) ?_
  refine va_iast hx hb hK hP hD hS 2 1 rfl rfl (by unfold vp_in; decide) dX12_init_359 (fun H locs hP hD hS => ?_)
  rw [ym_wS 57 (i := 57) (v := 32) (by decide) (by decide)] at hP hD
  obtain ⟨hP, hD⟩ := zre [(mq, W0), (eA0 q_1 cA_2 900 (fun _ => 0)), (eA0 q_3 cA_4 118 (ym_w 58))] hP hD rfl
  refine lv_dup hx hb dX12_init_360 rfl ?_
  refine lv_bipush (v := 58) hx hb dX12_init_361 (by decide) ?_
  refine lv_bipush (v := 100) hx hb dX12_init_363 (by decide) ?_
  refine va_iast hx hb hK hP hD hS 2 1 rfl rfl (by unfold vp_in; decide) dX12_init_365 (fun H locs hP hD hS => ?_)
  rw [ym_wS 58 (i := 58) (v := 100) (by decide) (by decide)] at hP hD
  obtain ⟨hP, hD⟩ := zre [(mq, W0), (eA0 q_1 cA_2 900 (fun _ => 0)), (eA0 q_3 cA_4 118 (ym_w 59))] hP hD rfl
  refine lv_dup hx hb dX12_init_366 rfl ?_
  refine lv_bipush (v := 59) hx hb dX12_init_367 (by decide) ?_
  refine lv_bipush (v := 97) hx hb dX12_init_369 (by decide) ?_
  refine va_iast hx hb hK hP hD hS 2 1 rfl rfl (by unfold vp_in; decide) dX12_init_371 (fun H locs hP hD hS => ?_)
  rw [ym_wS 59 (i := 59) (v := 97) (by decide) (by decide)] at hP hD
  obtain ⟨hP, hD⟩ := zre [(mq, W0), (eA0 q_1 cA_2 900 (fun _ => 0)), (eA0 q_3 cA_4 118 (ym_w 60))] hP hD rfl
  refine lv_dup hx hb dX12_init_372 rfl ?_
  refine lv_bipush (v := 60) hx hb dX12_init_373 (by decide) ?_
  refine lv_bipush (v := 121) hx hb dX12_init_375 (by decide) ?_
  refine va_iast hx hb hK hP hD hS 2 1 rfl rfl (by unfold vp_in; decide) dX12_init_377 (fun H locs hP hD hS => ?_)
  rw [ym_wS 60 (i := 60) (v := 121) (by decide) (by decide)] at hP hD
  obtain ⟨hP, hD⟩ := zre [(mq, W0), (eA0 q_1 cA_2 900 (fun _ => 0)), (eA0 q_3 cA_4 118 (ym_w 61))] hP hD rfl
  refine lv_dup hx hb dX12_init_378 rfl ?_
  refine lv_bipush (v := 61) hx hb dX12_init_379 (by decide) ?_
  refine lv_bipush (v := 115) hx hb dX12_init_381 (by decide) ?_
  refine va_iast hx hb hK hP hD hS 2 1 rfl rfl (by unfold vp_in; decide) dX12_init_383 (fun H locs hP hD hS => ?_)
  rw [ym_wS 61 (i := 61) (v := 115) (by decide) (by decide)] at hP hD
  obtain ⟨hP, hD⟩ := zre [(mq, W0), (eA0 q_1 cA_2 900 (fun _ => 0)), (eA0 q_3 cA_4 118 (ym_w 62))] hP hD rfl
  refine lv_dup hx hb dX12_init_384 rfl ?_
  refine lv_bipush (v := 62) hx hb dX12_init_385 (by decide) ?_
  refine lv_bipush (v := 32) hx hb dX12_init_387 (by decide) ?_
  refine va_iast hx hb hK hP hD hS 2 1 rfl rfl (by unfold vp_in; decide) dX12_init_389 (fun H locs hP hD hS => ?_)
  rw [ym_wS 62 (i := 62) (v := 32) (by decide) (by decide)] at hP hD
  obtain ⟨hP, hD⟩ := zre [(mq, W0), (eA0 q_1 cA_2 900 (fun _ => 0)), (eA0 q_3 cA_4 118 (ym_w 63))] hP hD rfl
  refine lv_dup hx hb dX12_init_390 rfl ?_
  refine lv_bipush (v := 63) hx hb dX12_init_391 (by decide) ?_
  refine lv_bipush (v := 116) hx hb dX12_init_393 (by decide) ?_
  refine va_iast hx hb hK hP hD hS 2 1 rfl rfl (by unfold vp_in; decide) dX12_init_395 (fun H locs hP hD hS => ?_)
  rw [ym_wS 63 (i := 63) (v := 116) (by decide) (by decide)] at hP hD
  obtain ⟨hP, hD⟩ := zre [(mq, W0), (eA0 q_1 cA_2 900 (fun _ => 0)), (eA0 q_3 cA_4 118 (ym_w 64))] hP hD rfl
  refine lv_dup hx hb dX12_init_396 rfl ?_
  refine lv_bipush (v := 64) hx hb dX12_init_397 (by decide) ?_
  refine lv_bipush (v := 105) hx hb dX12_init_399 (by decide) ?_
  refine va_iast hx hb hK hP hD hS 2 1 rfl rfl (by unfold vp_in; decide) dX12_init_401 (fun H locs hP hD hS => ?_)
  rw [ym_wS 64 (i := 64) (v := 105) (by decide) (by decide)] at hP hD
  obtain ⟨hP, hD⟩ := zre [(mq, W0), (eA0 q_1 cA_2 900 (fun _ => 0)), (eA0 q_3 cA_4 118 (ym_w 65))] hP hD rfl
  refine lv_dup hx hb dX12_init_402 rfl ?_
  refine lv_bipush (v := 65) hx hb dX12_init_403 (by decide) ?_
  refine lv_bipush (v := 108) hx hb dX12_init_405 (by decide) ?_
  refine va_iast hx hb hK hP hD hS 2 1 rfl rfl (by unfold vp_in; decide) dX12_init_407 (fun H locs hP hD hS => ?_)
  rw [ym_wS 65 (i := 65) (v := 108) (by decide) (by decide)] at hP hD
  obtain ⟨hP, hD⟩ := zre [(mq, W0), (eA0 q_1 cA_2 900 (fun _ => 0)), (eA0 q_3 cA_4 118 (ym_w 66))] hP hD rfl
  refine lv_dup hx hb dX12_init_408 rfl ?_
  refine lv_bipush (v := 66) hx hb dX12_init_409 (by decide) ?_
  refine lv_bipush (v := 108) hx hb dX12_init_411 (by decide) ?_
  refine va_iast hx hb hK hP hD hS 2 1 rfl rfl (by unfold vp_in; decide) dX12_init_413 (fun H locs hP hD hS => ?_)
  rw [ym_wS 66 (i := 66) (v := 108) (by decide) (by decide)] at hP hD
  obtain ⟨hP, hD⟩ := zre [(mq, W0), (eA0 q_1 cA_2 900 (fun _ => 0)), (eA0 q_3 cA_4 118 (ym_w 67))] hP hD rfl
  refine lv_dup hx hb dX12_init_414 rfl ?_
  refine lv_bipush (v := 67) hx hb dX12_init_415 (by decide) ?_
  refine lv_bipush (v := 32) hx hb dX12_init_417 (by decide) ?_
  refine va_iast hx hb hK hP hD hS 2 1 rfl rfl (by unfold vp_in; decide) dX12_init_419 (fun H locs hP hD hS => ?_)
  rw [ym_wS 67 (i := 67) (v := 32) (by decide) (by decide)] at hP hD
  obtain ⟨hP, hD⟩ := zre [(mq, W0), (eA0 q_1 cA_2 900 (fun _ => 0)), (eA0 q_3 cA_4 118 (ym_w 68))] hP hD rfl
  refine lv_dup hx hb dX12_init_420 rfl ?_
  refine lv_bipush (v := 68) hx hb dX12_init_421 (by decide) ?_
  refine lv_bipush (v := 112) hx hb dX12_init_423 (by decide) ?_
  refine va_iast hx hb hK hP hD hS 2 1 rfl rfl (by unfold vp_in; decide) dX12_init_425 (fun H locs hP hD hS => ?_)
  rw [ym_wS 68 (i := 68) (v := 112) (by decide) (by decide)] at hP hD
  obtain ⟨hP, hD⟩ := zre [(mq, W0), (eA0 q_1 cA_2 900 (fun _ => 0)), (eA0 q_3 cA_4 118 (ym_w 69))] hP hD rfl
  refine lv_dup hx hb dX12_init_426 rfl ?_
  refine lv_bipush (v := 69) hx hb dX12_init_427 (by decide) ?_
  refine lv_bipush (v := 97) hx hb dX12_init_429 (by decide) ?_
  refine va_iast hx hb hK hP hD hS 2 1 rfl rfl (by unfold vp_in; decide) dX12_init_431 (fun H locs hP hD hS => ?_)
  rw [ym_wS 69 (i := 69) (v := 97) (by decide) (by decide)] at hP hD
  obtain ⟨hP, hD⟩ := zre [(mq, W0), (eA0 q_1 cA_2 900 (fun _ => 0)), (eA0 q_3 cA_4 118 (ym_w 70))] hP hD rfl
  refine lv_dup hx hb dX12_init_432 rfl ?_
  refine lv_bipush (v := 70) hx hb dX12_init_433 (by decide) ?_
  refine lv_bipush (v := 121) hx hb dX12_init_435 (by decide) ?_
  refine va_iast hx hb hK hP hD hS 2 1 rfl rfl (by unfold vp_in; decide) dX12_init_437 (fun H locs hP hD hS => ?_)
  rw [ym_wS 70 (i := 70) (v := 121) (by decide) (by decide)] at hP hD
  obtain ⟨hP, hD⟩ := zre [(mq, W0), (eA0 q_1 cA_2 900 (fun _ => 0)), (eA0 q_3 cA_4 118 (ym_w 71))] hP hD rfl
  refine lv_dup hx hb dX12_init_438 rfl ?_
  refine lv_bipush (v := 71) hx hb dX12_init_439 (by decide) ?_
  refine lv_bipush (v := 32) hx hb dX12_init_441 (by decide) ?_
  refine va_iast hx hb hK hP hD hS 2 1 rfl rfl (by unfold vp_in; decide) dX12_init_443 (fun H locs hP hD hS => ?_)
  rw [ym_wS 71 (i := 71) (v := 32) (by decide) (by decide)] at hP hD
  obtain ⟨hP, hD⟩ := zre [(mq, W0), (eA0 q_1 cA_2 900 (fun _ => 0)), (eA0 q_3 cA_4 118 (ym_w 72))] hP hD rfl
  refine lv_dup hx hb dX12_init_444 rfl ?_
  refine lv_bipush (v := 72) hx hb dX12_init_445 (by decide) ?_
  refine lv_bipush (v := 97) hx hb dX12_init_447 (by decide) ?_
  refine va_iast hx hb hK hP hD hS 2 1 rfl rfl (by unfold vp_in; decide) dX12_init_449 (fun H locs hP hD hS => ?_)
  rw [ym_wS 72 (i := 72) (v := 97) (by decide) (by decide)] at hP hD
  obtain ⟨hP, hD⟩ := zre [(mq, W0), (eA0 q_1 cA_2 900 (fun _ => 0)), (eA0 q_3 cA_4 118 (ym_w 73))] hP hD rfl
  refine lv_dup hx hb dX12_init_450 rfl ?_
  refine lv_bipush (v := 73) hx hb dX12_init_451 (by decide) ?_
  refine lv_bipush (v := 108) hx hb dX12_init_453 (by decide) ?_
  refine va_iast hx hb hK hP hD hS 2 1 rfl rfl (by unfold vp_in; decide) dX12_init_455 (fun H locs hP hD hS => ?_)
  rw [ym_wS 73 (i := 73) (v := 108) (by decide) (by decide)] at hP hD
  obtain ⟨hP, hD⟩ := zre [(mq, W0), (eA0 q_1 cA_2 900 (fun _ => 0)), (eA0 q_3 cA_4 118 (ym_w 74))] hP hD rfl
  refine lv_dup hx hb dX12_init_456 rfl ?_
  refine lv_bipush (v := 74) hx hb dX12_init_457 (by decide) ?_
  refine lv_bipush (v := 105) hx hb dX12_init_459 (by decide) ?_
  refine va_iast hx hb hK hP hD hS 2 1 rfl rfl (by unfold vp_in; decide) dX12_init_461 (fun H locs hP hD hS => ?_)
  rw [ym_wS 74 (i := 74) (v := 105) (by decide) (by decide)] at hP hD
  obtain ⟨hP, hD⟩ := zre [(mq, W0), (eA0 q_1 cA_2 900 (fun _ => 0)), (eA0 q_3 cA_4 118 (ym_w 75))] hP hD rfl
  refine lv_dup hx hb dX12_init_462 rfl ?_
  refine lv_bipush (v := 75) hx hb dX12_init_463 (by decide) ?_
  refine lv_bipush (v := 118) hx hb dX12_init_465 (by decide) ?_
  refine va_iast hx hb hK hP hD hS 2 1 rfl rfl (by unfold vp_in; decide) dX12_init_467 (fun H locs hP hD hS => ?_)
  rw [ym_wS 75 (i := 75) (v := 118) (by decide) (by decide)] at hP hD
  obtain ⟨hP, hD⟩ := zre [(mq, W0), (eA0 q_1 cA_2 900 (fun _ => 0)), (eA0 q_3 cA_4 118 (ym_w 76))] hP hD rfl
  refine lv_dup hx hb dX12_init_468 rfl ?_
  refine lv_bipush (v := 76) hx hb dX12_init_469 (by decide) ?_
  refine lv_bipush (v := 101) hx hb dX12_init_471 (by decide) ?_
  refine va_iast hx hb hK hP hD hS 2 1 rfl rfl (by unfold vp_in; decide) dX12_init_473 (fun H locs hP hD hS => ?_)
  rw [ym_wS 76 (i := 76) (v := 101) (by decide) (by decide)] at hP hD
  obtain ⟨hP, hD⟩ := zre [(mq, W0), (eA0 q_1 cA_2 900 (fun _ => 0)), (eA0 q_3 cA_4 118 (ym_w 77))] hP hD rfl
  refine lv_dup hx hb dX12_init_474 rfl ?_
  refine lv_bipush (v := 77) hx hb dX12_init_475 (by decide) ?_
  refine lv_bipush (v := 32) hx hb dX12_init_477 (by decide) ?_
  refine va_iast hx hb hK hP hD hS 2 1 rfl rfl (by unfold vp_in; decide) dX12_init_479 (fun H locs hP hD hS => ?_)
  rw [ym_wS 77 (i := 77) (v := 32) (by decide) (by decide)] at hP hD
  obtain ⟨hP, hD⟩ := zre [(mq, W0), (eA0 q_1 cA_2 900 (fun _ => 0)), (eA0 q_3 cA_4 118 (ym_w 78))] hP hD rfl
  refine lv_dup hx hb dX12_init_480 rfl ?_
  refine lv_bipush (v := 78) hx hb dX12_init_481 (by decide) ?_
  refine lv_bipush (v := 97) hx hb dX12_init_483 (by decide) ?_
  refine va_iast hx hb hK hP hD hS 2 1 rfl rfl (by unfold vp_in; decide) dX12_init_485 (fun H locs hP hD hS => ?_)
  rw [ym_wS 78 (i := 78) (v := 97) (by decide) (by decide)] at hP hD
  obtain ⟨hP, hD⟩ := zre [(mq, W0), (eA0 q_1 cA_2 900 (fun _ => 0)), (eA0 q_3 cA_4 118 (ym_w 79))] hP hD rfl
  refine lv_dup hx hb dX12_init_486 rfl ?_
  refine lv_bipush (v := 79) hx hb dX12_init_487 (by decide) ?_
  refine lv_bipush (v := 102) hx hb dX12_init_489 (by decide) ?_
  refine va_iast hx hb hK hP hD hS 2 1 rfl rfl (by unfold vp_in; decide) dX12_init_491 (fun H locs hP hD hS => ?_)
  rw [ym_wS 79 (i := 79) (v := 102) (by decide) (by decide)] at hP hD
  obtain ⟨hP, hD⟩ := zre [(mq, W0), (eA0 q_1 cA_2 900 (fun _ => 0)), (eA0 q_3 cA_4 118 (ym_w 80))] hP hD rfl
  refine lv_dup hx hb dX12_init_492 rfl ?_
  refine lv_bipush (v := 80) hx hb dX12_init_493 (by decide) ?_
  refine lv_bipush (v := 116) hx hb dX12_init_495 (by decide) ?_
  refine va_iast hx hb hK hP hD hS 2 1 rfl rfl (by unfold vp_in; decide) dX12_init_497 (fun H locs hP hD hS => ?_)
  rw [ym_wS 80 (i := 80) (v := 116) (by decide) (by decide)] at hP hD
  obtain ⟨hP, hD⟩ := zre [(mq, W0), (eA0 q_1 cA_2 900 (fun _ => 0)), (eA0 q_3 cA_4 118 (ym_w 81))] hP hD rfl
  refine lv_dup hx hb dX12_init_498 rfl ?_
  refine lv_bipush (v := 81) hx hb dX12_init_499 (by decide) ?_
  refine lv_bipush (v := 101) hx hb dX12_init_501 (by decide) ?_
  refine va_iast hx hb hK hP hD hS 2 1 rfl rfl (by unfold vp_in; decide) dX12_init_503 (fun H locs hP hD hS => ?_)
  rw [ym_wS 81 (i := 81) (v := 101) (by decide) (by decide)] at hP hD
  obtain ⟨hP, hD⟩ := zre [(mq, W0), (eA0 q_1 cA_2 900 (fun _ => 0)), (eA0 q_3 cA_4 118 (ym_w 82))] hP hD rfl
  refine lv_dup hx hb dX12_init_504 rfl ?_
  refine lv_bipush (v := 82) hx hb dX12_init_505 (by decide) ?_
  refine lv_bipush (v := 114) hx hb dX12_init_507 (by decide) ?_
  refine va_iast hx hb hK hP hD hS 2 1 rfl rfl (by unfold vp_in; decide) dX12_init_509 (fun H locs hP hD hS => ?_)
  rw [ym_wS 82 (i := 82) (v := 114) (by decide) (by decide)] at hP hD
  obtain ⟨hP, hD⟩ := zre [(mq, W0), (eA0 q_1 cA_2 900 (fun _ => 0)), (eA0 q_3 cA_4 118 (ym_w 83))] hP hD rfl
  refine lv_dup hx hb dX12_init_510 rfl ?_
  refine lv_bipush (v := 83) hx hb dX12_init_511 (by decide) ?_
  refine lv_bipush (v := 32) hx hb dX12_init_513 (by decide) ?_
  refine va_iast hx hb hK hP hD hS 2 1 rfl rfl (by unfold vp_in; decide) dX12_init_515 (fun H locs hP hD hS => ?_)
  rw [ym_wS 83 (i := 83) (v := 32) (by decide) (by decide)] at hP hD
  obtain ⟨hP, hD⟩ := zre [(mq, W0), (eA0 q_1 cA_2 900 (fun _ => 0)), (eA0 q_3 cA_4 118 (ym_w 84))] hP hD rfl
  refine lv_dup hx hb dX12_init_516 rfl ?_
  refine lv_bipush (v := 84) hx hb dX12_init_517 (by decide) ?_
  refine lv_bipush (v := 97) hx hb dX12_init_519 (by decide) ?_
  refine va_iast hx hb hK hP hD hS 2 1 rfl rfl (by unfold vp_in; decide) dX12_init_521 (fun H locs hP hD hS => ?_)
  rw [ym_wS 84 (i := 84) (v := 97) (by decide) (by decide)] at hP hD
  obtain ⟨hP, hD⟩ := zre [(mq, W0), (eA0 q_1 cA_2 900 (fun _ => 0)), (eA0 q_3 cA_4 118 (ym_w 85))] hP hD rfl
  refine lv_dup hx hb dX12_init_522 rfl ?_
  refine lv_bipush (v := 85) hx hb dX12_init_523 (by decide) ?_
  refine lv_bipush (v := 110) hx hb dX12_init_525 (by decide) ?_
  refine va_iast hx hb hK hP hD hS 2 1 rfl rfl (by unfold vp_in; decide) dX12_init_527 (fun H locs hP hD hS => ?_)
  rw [ym_wS 85 (i := 85) (v := 110) (by decide) (by decide)] at hP hD
  obtain ⟨hP, hD⟩ := zre [(mq, W0), (eA0 q_1 cA_2 900 (fun _ => 0)), (eA0 q_3 cA_4 118 (ym_w 86))] hP hD rfl
  refine lv_dup hx hb dX12_init_528 rfl ?_
  refine lv_bipush (v := 86) hx hb dX12_init_529 (by decide) ?_
  refine lv_bipush (v := 100) hx hb dX12_init_531 (by decide) ?_
  refine va_iast hx hb hK hP hD hS 2 1 rfl rfl (by unfold vp_in; decide) dX12_init_533 (fun H locs hP hD hS => ?_)
  rw [ym_wS 86 (i := 86) (v := 100) (by decide) (by decide)] at hP hD
  obtain ⟨hP, hD⟩ := zre [(mq, W0), (eA0 q_1 cA_2 900 (fun _ => 0)), (eA0 q_3 cA_4 118 (ym_w 87))] hP hD rfl
  refine lv_dup hx hb dX12_init_534 rfl ?_
  refine lv_bipush (v := 87) hx hb dX12_init_535 (by decide) ?_
  refine lv_bipush (v := 32) hx hb dX12_init_537 (by decide) ?_
  refine va_iast hx hb hK hP hD hS 2 1 rfl rfl (by unfold vp_in; decide) dX12_init_539 (fun H locs hP hD hS => ?_)
  rw [ym_wS 87 (i := 87) (v := 32) (by decide) (by decide)] at hP hD
  obtain ⟨hP, hD⟩ := zre [(mq, W0), (eA0 q_1 cA_2 900 (fun _ => 0)), (eA0 q_3 cA_4 118 (ym_w 88))] hP hD rfl
  refine lv_dup hx hb dX12_init_540 rfl ?_
  refine lv_bipush (v := 88) hx hb dX12_init_541 (by decide) ?_
  refine lv_bipush (v := 111) hx hb dX12_init_543 (by decide) ?_
  refine va_iast hx hb hK hP hD hS 2 1 rfl rfl (by unfold vp_in; decide) dX12_init_545 (fun H locs hP hD hS => ?_)
  rw [ym_wS 88 (i := 88) (v := 111) (by decide) (by decide)] at hP hD
  obtain ⟨hP, hD⟩ := zre [(mq, W0), (eA0 q_1 cA_2 900 (fun _ => 0)), (eA0 q_3 cA_4 118 (ym_w 89))] hP hD rfl
  refine lv_dup hx hb dX12_init_546 rfl ?_
  refine lv_bipush (v := 89) hx hb dX12_init_547 (by decide) ?_
  refine lv_bipush (v := 114) hx hb dX12_init_549 (by decide) ?_
  refine va_iast hx hb hK hP hD hS 2 1 rfl rfl (by unfold vp_in; decide) dX12_init_551 (fun H locs hP hD hS => ?_)
  rw [ym_wS 89 (i := 89) (v := 114) (by decide) (by decide)] at hP hD
  obtain ⟨hP, hD⟩ := zre [(mq, W0), (eA0 q_1 cA_2 900 (fun _ => 0)), (eA0 q_3 cA_4 118 (ym_w 90))] hP hD rfl
  refine lv_dup hx hb dX12_init_552 rfl ?_
  refine lv_bipush (v := 90) hx hb dX12_init_553 (by decide) ?_
  refine lv_bipush (v := 32) hx hb dX12_init_555 (by decide) ?_
  refine va_iast hx hb hK hP hD hS 2 1 rfl rfl (by unfold vp_in; decide) dX12_init_557 (fun H locs hP hD hS => ?_)
  rw [ym_wS 90 (i := 90) (v := 32) (by decide) (by decide)] at hP hD
  obtain ⟨hP, hD⟩ := zre [(mq, W0), (eA0 q_1 cA_2 900 (fun _ => 0)), (eA0 q_3 cA_4 118 (ym_w 91))] hP hD rfl
  refine lv_dup hx hb dX12_init_558 rfl ?_
  refine lv_bipush (v := 91) hx hb dX12_init_559 (by decide) ?_
  refine lv_bipush (v := 110) hx hb dX12_init_561 (by decide) ?_
  refine va_iast hx hb hK hP hD hS 2 1 rfl rfl (by unfold vp_in; decide) dX12_init_563 (fun H locs hP hD hS => ?_)
  rw [ym_wS 91 (i := 91) (v := 110) (by decide) (by decide)] at hP hD
  obtain ⟨hP, hD⟩ := zre [(mq, W0), (eA0 q_1 cA_2 900 (fun _ => 0)), (eA0 q_3 cA_4 118 (ym_w 92))] hP hD rfl
  refine lv_dup hx hb dX12_init_564 rfl ?_
  refine lv_bipush (v := 92) hx hb dX12_init_565 (by decide) ?_
  refine lv_bipush (v := 111) hx hb dX12_init_567 (by decide) ?_
  refine va_iast hx hb hK hP hD hS 2 1 rfl rfl (by unfold vp_in; decide) dX12_init_569 (fun H locs hP hD hS => ?_)
  rw [ym_wS 92 (i := 92) (v := 111) (by decide) (by decide)] at hP hD
  obtain ⟨hP, hD⟩ := zre [(mq, W0), (eA0 q_1 cA_2 900 (fun _ => 0)), (eA0 q_3 cA_4 118 (ym_w 93))] hP hD rfl
  refine lv_dup hx hb dX12_init_570 rfl ?_
  refine lv_bipush (v := 93) hx hb dX12_init_571 (by decide) ?_
  refine lv_bipush (v := 116) hx hb dX12_init_573 (by decide) ?_
  refine va_iast hx hb hK hP hD hS 2 1 rfl rfl (by unfold vp_in; decide) dX12_init_575 (fun H locs hP hD hS => ?_)
  rw [ym_wS 93 (i := 93) (v := 116) (by decide) (by decide)] at hP hD
  obtain ⟨hP, hD⟩ := zre [(mq, W0), (eA0 q_1 cA_2 900 (fun _ => 0)), (eA0 q_3 cA_4 118 (ym_w 94))] hP hD rfl
  refine lv_dup hx hb dX12_init_576 rfl ?_
  refine lv_bipush (v := 94) hx hb dX12_init_577 (by decide) ?_
  refine lv_bipush (v := 32) hx hb dX12_init_579 (by decide) ?_
  refine va_iast hx hb hK hP hD hS 2 1 rfl rfl (by unfold vp_in; decide) dX12_init_581 (fun H locs hP hD hS => ?_)
  rw [ym_wS 94 (i := 94) (v := 32) (by decide) (by decide)] at hP hD
  obtain ⟨hP, hD⟩ := zre [(mq, W0), (eA0 q_1 cA_2 900 (fun _ => 0)), (eA0 q_3 cA_4 118 (ym_w 95))] hP hD rfl
  refine lv_dup hx hb dX12_init_582 rfl ?_
  refine lv_bipush (v := 95) hx hb dX12_init_583 (by decide) ?_
  refine lv_bipush (v := 100) hx hb dX12_init_585 (by decide) ?_
  refine va_iast hx hb hK hP hD hS 2 1 rfl rfl (by unfold vp_in; decide) dX12_init_587 (fun H locs hP hD hS => ?_)
  rw [ym_wS 95 (i := 95) (v := 100) (by decide) (by decide)] at hP hD
  obtain ⟨hP, hD⟩ := zre [(mq, W0), (eA0 q_1 cA_2 900 (fun _ => 0)), (eA0 q_3 cA_4 118 (ym_w 96))] hP hD rfl
  refine lv_dup hx hb dX12_init_588 rfl ?_
  refine lv_bipush (v := 96) hx hb dX12_init_589 (by decide) ?_
  refine lv_bipush (v := 97) hx hb dX12_init_591 (by decide) ?_
  refine va_iast hx hb hK hP hD hS 2 1 rfl rfl (by unfold vp_in; decide) dX12_init_593 (fun H locs hP hD hS => ?_)
  rw [ym_wS 96 (i := 96) (v := 97) (by decide) (by decide)] at hP hD
  obtain ⟨hP, hD⟩ := zre [(mq, W0), (eA0 q_1 cA_2 900 (fun _ => 0)), (eA0 q_3 cA_4 118 (ym_w 97))] hP hD rfl
  refine lv_dup hx hb dX12_init_594 rfl ?_
  refine lv_bipush (v := 97) hx hb dX12_init_595 (by decide) ?_
  refine lv_bipush (v := 121) hx hb dX12_init_597 (by decide) ?_
  refine va_iast hx hb hK hP hD hS 2 1 rfl rfl (by unfold vp_in; decide) dX12_init_599 (fun H locs hP hD hS => ?_)
  rw [ym_wS 97 (i := 97) (v := 121) (by decide) (by decide)] at hP hD
  obtain ⟨hP, hD⟩ := zre [(mq, W0), (eA0 q_1 cA_2 900 (fun _ => 0)), (eA0 q_3 cA_4 118 (ym_w 98))] hP hD rfl
  refine lv_dup hx hb dX12_init_600 rfl ?_
  refine lv_bipush (v := 98) hx hb dX12_init_601 (by decide) ?_
  refine lv_bipush (v := 32) hx hb dX12_init_603 (by decide) ?_
  refine va_iast hx hb hK hP hD hS 2 1 rfl rfl (by unfold vp_in; decide) dX12_init_605 (fun H locs hP hD hS => ?_)
  rw [ym_wS 98 (i := 98) (v := 32) (by decide) (by decide)] at hP hD
  obtain ⟨hP, hD⟩ := zre [(mq, W0), (eA0 q_1 cA_2 900 (fun _ => 0)), (eA0 q_3 cA_4 118 (ym_w 99))] hP hD rfl
  refine lv_dup hx hb dX12_init_606 rfl ?_
  refine lv_bipush (v := 99) hx hb dX12_init_607 (by decide) ?_
  refine lv_bipush (v := 121) hx hb dX12_init_609 (by decide) ?_
  refine va_iast hx hb hK hP hD hS 2 1 rfl rfl (by unfold vp_in; decide) dX12_init_611 (fun H locs hP hD hS => ?_)
  rw [ym_wS 99 (i := 99) (v := 121) (by decide) (by decide)] at hP hD
  obtain ⟨hP, hD⟩ := zre [(mq, W0), (eA0 q_1 cA_2 900 (fun _ => 0)), (eA0 q_3 cA_4 118 (ym_w 100))] hP hD rfl
  refine lv_dup hx hb dX12_init_612 rfl ?_
  refine lv_bipush (v := 100) hx hb dX12_init_613 (by decide) ?_
  refine lv_bipush (v := 101) hx hb dX12_init_615 (by decide) ?_
  refine va_iast hx hb hK hP hD hS 2 1 rfl rfl (by unfold vp_in; decide) dX12_init_617 (fun H locs hP hD hS => ?_)
  rw [ym_wS 100 (i := 100) (v := 101) (by decide) (by decide)] at hP hD
  obtain ⟨hP, hD⟩ := zre [(mq, W0), (eA0 q_1 cA_2 900 (fun _ => 0)), (eA0 q_3 cA_4 118 (ym_w 101))] hP hD rfl
  refine lv_dup hx hb dX12_init_618 rfl ?_
  refine lv_bipush (v := 101) hx hb dX12_init_619 (by decide) ?_
  refine lv_bipush (v := 97) hx hb dX12_init_621 (by decide) ?_
  refine va_iast hx hb hK hP hD hS 2 1 rfl rfl (by unfold vp_in; decide) dX12_init_623 (fun H locs hP hD hS => ?_)
  rw [ym_wS 101 (i := 101) (v := 97) (by decide) (by decide)] at hP hD
  obtain ⟨hP, hD⟩ := zre [(mq, W0), (eA0 q_1 cA_2 900 (fun _ => 0)), (eA0 q_3 cA_4 118 (ym_w 102))] hP hD rfl
  refine lv_dup hx hb dX12_init_624 rfl ?_
  refine lv_bipush (v := 102) hx hb dX12_init_625 (by decide) ?_
  refine lv_bipush (v := 114) hx hb dX12_init_627 (by decide) ?_
  refine va_iast hx hb hK hP hD hS 2 1 rfl rfl (by unfold vp_in; decide) dX12_init_629 (fun H locs hP hD hS => ?_)
  rw [ym_wS 102 (i := 102) (v := 114) (by decide) (by decide)] at hP hD
  obtain ⟨hP, hD⟩ := zre [(mq, W0), (eA0 q_1 cA_2 900 (fun _ => 0)), (eA0 q_3 cA_4 118 (ym_w 103))] hP hD rfl
  refine lv_dup hx hb dX12_init_630 rfl ?_
  refine lv_bipush (v := 103) hx hb dX12_init_631 (by decide) ?_
  refine lv_bipush (v := 32) hx hb dX12_init_633 (by decide) ?_
  refine va_iast hx hb hK hP hD hS 2 1 rfl rfl (by unfold vp_in; decide) dX12_init_635 (fun H locs hP hD hS => ?_)
  rw [ym_wS 103 (i := 103) (v := 32) (by decide) (by decide)] at hP hD
  obtain ⟨hP, hD⟩ := zre [(mq, W0), (eA0 q_1 cA_2 900 (fun _ => 0)), (eA0 q_3 cA_4 118 (ym_w 104))] hP hD rfl
  refine lv_dup hx hb dX12_init_636 rfl ?_
  refine lv_bipush (v := 104) hx hb dX12_init_637 (by decide) ?_
  refine lv_bipush (v := 115) hx hb dX12_init_639 (by decide) ?_
  refine va_iast hx hb hK hP hD hS 2 1 rfl rfl (by unfold vp_in; decide) dX12_init_641 (fun H locs hP hD hS => ?_)
  rw [ym_wS 104 (i := 104) (v := 115) (by decide) (by decide)] at hP hD
  obtain ⟨hP, hD⟩ := zre [(mq, W0), (eA0 q_1 cA_2 900 (fun _ => 0)), (eA0 q_3 cA_4 118 (ym_w 105))] hP hD rfl
  refine lv_dup hx hb dX12_init_642 rfl ?_
  refine lv_bipush (v := 105) hx hb dX12_init_643 (by decide) ?_
  refine lv_bipush (v := 101) hx hb dX12_init_645 (by decide) ?_
  refine va_iast hx hb hK hP hD hS 2 1 rfl rfl (by unfold vp_in; decide) dX12_init_647 (fun H locs hP hD hS => ?_)
  rw [ym_wS 105 (i := 105) (v := 101) (by decide) (by decide)] at hP hD
  obtain ⟨hP, hD⟩ := zre [(mq, W0), (eA0 q_1 cA_2 900 (fun _ => 0)), (eA0 q_3 cA_4 118 (ym_w 106))] hP hD rfl
  refine lv_dup hx hb dX12_init_648 rfl ?_
  refine lv_bipush (v := 106) hx hb dX12_init_649 (by decide) ?_
  refine lv_bipush (v := 97) hx hb dX12_init_651 (by decide) ?_
  refine va_iast hx hb hK hP hD hS 2 1 rfl rfl (by unfold vp_in; decide) dX12_init_653 (fun H locs hP hD hS => ?_)
  rw [ym_wS 106 (i := 106) (v := 97) (by decide) (by decide)] at hP hD
  obtain ⟨hP, hD⟩ := zre [(mq, W0), (eA0 q_1 cA_2 900 (fun _ => 0)), (eA0 q_3 cA_4 118 (ym_w 107))] hP hD rfl
  refine lv_dup hx hb dX12_init_654 rfl ?_
  refine lv_bipush (v := 107) hx hb dX12_init_655 (by decide) ?_
  refine lv_bipush (v := 115) hx hb dX12_init_657 (by decide) ?_
  refine va_iast hx hb hK hP hD hS 2 1 rfl rfl (by unfold vp_in; decide) dX12_init_659 (fun H locs hP hD hS => ?_)
  rw [ym_wS 107 (i := 107) (v := 115) (by decide) (by decide)] at hP hD
  obtain ⟨hP, hD⟩ := zre [(mq, W0), (eA0 q_1 cA_2 900 (fun _ => 0)), (eA0 q_3 cA_4 118 (ym_w 108))] hP hD rfl
  refine lv_dup hx hb dX12_init_660 rfl ?_
  refine lv_bipush (v := 108) hx hb dX12_init_661 (by decide) ?_
  refine lv_bipush (v := 111) hx hb dX12_init_663 (by decide) ?_
  refine va_iast hx hb hK hP hD hS 2 1 rfl rfl (by unfold vp_in; decide) dX12_init_665 (fun H locs hP hD hS => ?_)
  rw [ym_wS 108 (i := 108) (v := 111) (by decide) (by decide)] at hP hD
  obtain ⟨hP, hD⟩ := zre [(mq, W0), (eA0 q_1 cA_2 900 (fun _ => 0)), (eA0 q_3 cA_4 118 (ym_w 109))] hP hD rfl
  refine lv_dup hx hb dX12_init_666 rfl ?_
  refine lv_bipush (v := 109) hx hb dX12_init_667 (by decide) ?_
  refine lv_bipush (v := 110) hx hb dX12_init_669 (by decide) ?_
  refine va_iast hx hb hK hP hD hS 2 1 rfl rfl (by unfold vp_in; decide) dX12_init_671 (fun H locs hP hD hS => ?_)
  rw [ym_wS 109 (i := 109) (v := 110) (by decide) (by decide)] at hP hD
  obtain ⟨hP, hD⟩ := zre [(mq, W0), (eA0 q_1 cA_2 900 (fun _ => 0)), (eA0 q_3 cA_4 118 (ym_w 110))] hP hD rfl
  refine lv_dup hx hb dX12_init_672 rfl ?_
  refine lv_bipush (v := 110) hx hb dX12_init_673 (by decide) ?_
  refine lv_bipush (v := 32) hx hb dX12_init_675 (by decide) ?_
  refine va_iast hx hb hK hP hD hS 2 1 rfl rfl (by unfold vp_in; decide) dX12_init_677 (fun H locs hP hD hS => ?_)
  rw [ym_wS 110 (i := 110) (v := 32) (by decide) (by decide)] at hP hD
  obtain ⟨hP, hD⟩ := zre [(mq, W0), (eA0 q_1 cA_2 900 (fun _ => 0)), (eA0 q_3 cA_4 118 (ym_w 111))] hP hD rfl
  refine lv_dup hx hb dX12_init_678 rfl ?_
  refine lv_bipush (v := 111) hx hb dX12_init_679 (by decide) ?_
  refine lv_bipush (v := 108) hx hb dX12_init_681 (by decide) ?_
  refine va_iast hx hb hK hP hD hS 2 1 rfl rfl (by unfold vp_in; decide) dX12_init_683 (fun H locs hP hD hS => ?_)
  rw [ym_wS 111 (i := 111) (v := 108) (by decide) (by decide)] at hP hD
  obtain ⟨hP, hD⟩ := zre [(mq, W0), (eA0 q_1 cA_2 900 (fun _ => 0)), (eA0 q_3 cA_4 118 (ym_w 112))] hP hD rfl
  refine lv_dup hx hb dX12_init_684 rfl ?_
  refine lv_bipush (v := 112) hx hb dX12_init_685 (by decide) ?_
  refine lv_bipush (v := 101) hx hb dX12_init_687 (by decide) ?_
  refine va_iast hx hb hK hP hD hS 2 1 rfl rfl (by unfold vp_in; decide) dX12_init_689 (fun H locs hP hD hS => ?_)
  rw [ym_wS 112 (i := 112) (v := 101) (by decide) (by decide)] at hP hD
  obtain ⟨hP, hD⟩ := zre [(mq, W0), (eA0 q_1 cA_2 900 (fun _ => 0)), (eA0 q_3 cA_4 118 (ym_w 113))] hP hD rfl
  refine lv_dup hx hb dX12_init_690 rfl ?_
  refine lv_bipush (v := 113) hx hb dX12_init_691 (by decide) ?_
  refine lv_bipush (v := 110) hx hb dX12_init_693 (by decide) ?_
  refine va_iast hx hb hK hP hD hS 2 1 rfl rfl (by unfold vp_in; decide) dX12_init_695 (fun H locs hP hD hS => ?_)
  rw [ym_wS 113 (i := 113) (v := 110) (by decide) (by decide)] at hP hD
  obtain ⟨hP, hD⟩ := zre [(mq, W0), (eA0 q_1 cA_2 900 (fun _ => 0)), (eA0 q_3 cA_4 118 (ym_w 114))] hP hD rfl
  refine lv_dup hx hb dX12_init_696 rfl ?_
  refine lv_bipush (v := 114) hx hb dX12_init_697 (by decide) ?_
  refine lv_bipush (v := 103) hx hb dX12_init_699 (by decide) ?_
  refine va_iast hx hb hK hP hD hS 2 1 rfl rfl (by unfold vp_in; decide) dX12_init_701 (fun H locs hP hD hS => ?_)
  rw [ym_wS 114 (i := 114) (v := 103) (by decide) (by decide)] at hP hD
  obtain ⟨hP, hD⟩ := zre [(mq, W0), (eA0 q_1 cA_2 900 (fun _ => 0)), (eA0 q_3 cA_4 118 (ym_w 115))] hP hD rfl
  refine lv_dup hx hb dX12_init_702 rfl ?_
  refine lv_bipush (v := 115) hx hb dX12_init_703 (by decide) ?_
  refine lv_bipush (v := 116) hx hb dX12_init_705 (by decide) ?_
  refine va_iast hx hb hK hP hD hS 2 1 rfl rfl (by unfold vp_in; decide) dX12_init_707 (fun H locs hP hD hS => ?_)
  rw [ym_wS 115 (i := 115) (v := 116) (by decide) (by decide)] at hP hD
  obtain ⟨hP, hD⟩ := zre [(mq, W0), (eA0 q_1 cA_2 900 (fun _ => 0)), (eA0 q_3 cA_4 118 (ym_w 116))] hP hD rfl
  refine lv_dup hx hb dX12_init_708 rfl ?_
  refine lv_bipush (v := 116) hx hb dX12_init_709 (by decide) ?_
  refine lv_bipush (v := 104) hx hb dX12_init_711 (by decide) ?_
  refine va_iast hx hb hK hP hD hS 2 1 rfl rfl (by unfold vp_in; decide) dX12_init_713 (fun H locs hP hD hS => ?_)
  rw [ym_wS 116 (i := 116) (v := 104) (by decide) (by decide)] at hP hD
  obtain ⟨hP, hD⟩ := zre [(mq, W0), (eA0 q_1 cA_2 900 (fun _ => 0)), (eA0 q_3 cA_4 118 (ym_w 117))] hP hD rfl
  refine lv_dup hx hb dX12_init_714 rfl ?_
  refine lv_bipush (v := 117) hx hb dX12_init_715 (by decide) ?_
  refine lv_bipush (v := 32) hx hb dX12_init_717 (by decide) ?_
  refine va_iast hx hb hK hP hD hS 2 1 rfl rfl (by unfold vp_in; decide) dX12_init_719 (fun H locs hP hD hS => ?_)
  rw [ym_wS 117 (i := 117) (v := 32) (by decide) (by decide)] at hP hD
  obtain ⟨hP, hD⟩ := zre [(mq, W0), (eA0 q_1 cA_2 900 (fun _ => 0)), (eA0 q_3 cA_4 118 (ym_w 118))] hP hD rfl
  subst hW0
  refine va_putF (D := (dC, dI)) (ci := 12) (v := .ref q_3) (ty := tyX12 3) (C := RX12) (T := TX12) (N := 76) hx hb htw inlX12 tyX12 tyX12_ok nmX12 hown hK hP hD hS 0 rfl rfl 3 (by decide) (htw _ (ck_9 _ (List.mem_of_getElem? (i := 5) rfl))) (fun _ h9 => h9) rfl hin rfl (tyX12_ok 3 (by decide)) rfl rfl (Nat.le_of_ble_eq_true rfl) dX12_init_720 (fun H locs hP hD hS => ?_)
  obtain ⟨hP, hD⟩ := zre [(mq, .inr (12, (.ref q_1 :: .int 0 :: .int 0 :: .ref q_3 :: .int 0 :: .int 0 :: .int 0 :: .int 0 :: .int 0 :: .int 0 :: .int 0 :: .int 0 :: .int 0 :: .int 0 :: .int 0 :: .int 0 :: .int 0 :: .int 0 :: .int 0 :: .int 0 :: .int 0 :: .int 0 :: .int 0 :: .int 0 :: .null :: .int 0 :: .int 0 :: .int 0 :: .null :: .null :: .null :: .null :: .null :: .null :: .null :: .null :: .null :: .null :: .null :: .null :: .null :: .null :: .null :: .null :: [.long 0, .null, .null, .int 0, .int 0, .int 0, .int 0, .int 0, .int 0, .long 0, .long 0, .null, .null, .int 0, .int 0, .int 0, .null, .null, .int 0, .int 0, .int 0, .null, .null, .int 0, .null, .null, .int 0, .int 0, .int 0, .null, .null, .null]))), (eA0 q_1 cA_2 900 (fun _ => 0)), (eA0 q_3 cA_4 118 (ym_w 118))] hP hD rfl
  refine lv_aload_n hx hb dX12_init_723 rfl (lv_at hl 0 rfl) ?_
  refine lv_iconst (v := (-1)) hx hb dX12_init_724 (by decide) ?_
  refine va_put (D := (dC, dI)) (ci := 12) (v := .int (-1)) (ty := tyX12 5) (C := RX12) (T := TX12) (N := 76) hx hb htw inlX12 tyX12 tyX12_ok nmX12 hown hK hP hD hS 0 rfl rfl 5 (by decide) (htw _ (ck_9 _ (List.mem_of_getElem? (i := 6) rfl))) (fun _ h9 => h9) rfl (tyX12_ok 5 (by decide)) rfl rfl (Nat.le_of_ble_eq_true rfl) dX12_init_725 (fun H locs hP hD hS => ?_)
  obtain ⟨hP, hD⟩ := zre [(mq, .inr (12, (.ref q_1 :: .int 0 :: .int 0 :: .ref q_3 :: .int 0 :: .int (-1) :: .int 0 :: .int 0 :: .int 0 :: .int 0 :: .int 0 :: .int 0 :: .int 0 :: .int 0 :: .int 0 :: .int 0 :: .int 0 :: .int 0 :: .int 0 :: .int 0 :: .int 0 :: .int 0 :: .int 0 :: .int 0 :: .null :: .int 0 :: .int 0 :: .int 0 :: .null :: .null :: .null :: .null :: .null :: .null :: .null :: .null :: .null :: .null :: .null :: .null :: .null :: .null :: .null :: .null :: [.long 0, .null, .null, .int 0, .int 0, .int 0, .int 0, .int 0, .int 0, .long 0, .long 0, .null, .null, .int 0, .int 0, .int 0, .null, .null, .int 0, .int 0, .int 0, .null, .null, .int 0, .null, .null, .int 0, .int 0, .int 0, .null, .null, .null]))), (eA0 q_1 cA_2 900 (fun _ => 0)), (eA0 q_3 cA_4 118 (ym_w 118))] hP hD rfl
  refine lv_aload_n hx hb dX12_init_728 rfl (lv_at hl 0 rfl) ?_
  refine lv_bipush (v := 14) hx hb dX12_init_729 (by decide) ?_
  refine va_newa (ty := .int) (a0 := (14, .inl (fun _ => 0))) hx hb (htw _ (ck_2 _ (List.mem_of_getElem? (i := 7) rfl))) rfl hK hP hD hS hA (fun _ => rfl) (by decide) (by decide) (by decide) (Nat.le_of_ble_eq_true rfl) (Nat.le_of_ble_eq_true rfl) dX12_init_731 (fun q_5 cA_6 H hK hP hD hS => ?_)
  have hK : va_K (dC, dI) vwCl [(cA_2, .int), (cA_4, .int), (cA_6, .int)] s := hK
  obtain ⟨hP, hD⟩ := zre [(mq, .inr (12, (.ref q_1 :: .int 0 :: .int 0 :: .ref q_3 :: .int 0 :: .int (-1) :: .int 0 :: .int 0 :: .int 0 :: .int 0 :: .int 0 :: .int 0 :: .int 0 :: .int 0 :: .int 0 :: .int 0 :: .int 0 :: .int 0 :: .int 0 :: .int 0 :: .int 0 :: .int 0 :: .int 0 :: .int 0 :: .null :: .int 0 :: .int 0 :: .int 0 :: .null :: .null :: .null :: .null :: .null :: .null :: .null :: .null :: .null :: .null :: .null :: .null :: .null :: .null :: .null :: .null :: [.long 0, .null, .null, .int 0, .int 0, .int 0, .int 0, .int 0, .int 0, .long 0, .long 0, .null, .null, .int 0, .int 0, .int 0, .null, .null, .int 0, .int 0, .int 0, .null, .null, .int 0, .null, .null, .int 0, .int 0, .int 0, .null, .null, .null]))), (eA0 q_1 cA_2 900 (fun _ => 0)), (eA0 q_3 cA_4 118 (ym_w 118)), (eA0 q_5 cA_6 14 (fun _ => 0))] hP hD rfl
  refine W.widen (k := 3) (n := 1032) (by omega) (by omega) ?_
  refine va_putF (D := (dC, dI)) (ci := 12) (v := .ref q_5) (ty := tyX12 24) (C := RX12) (T := TX12) (N := 76) hx hb htw inlX12 tyX12 tyX12_ok nmX12 hown hK hP hD hS 0 rfl rfl 24 (by decide) (htw _ (ck_9 _ (List.mem_of_getElem? (i := 7) rfl))) (fun _ h9 => h9) rfl hin rfl (tyX12_ok 24 (by decide)) rfl rfl (Nat.le_of_ble_eq_true rfl) dX12_init_733 (fun H locs hP hD hS => ?_)
  obtain ⟨hP, hD⟩ := zre [(mq, .inr (12, (.ref q_1 :: .int 0 :: .int 0 :: .ref q_3 :: .int 0 :: .int (-1) :: .int 0 :: .int 0 :: .int 0 :: .int 0 :: .int 0 :: .int 0 :: .int 0 :: .int 0 :: .int 0 :: .int 0 :: .int 0 :: .int 0 :: .int 0 :: .int 0 :: .int 0 :: .int 0 :: .int 0 :: .int 0 :: .ref q_5 :: .int 0 :: .int 0 :: .int 0 :: .null :: .null :: .null :: .null :: .null :: .null :: .null :: .null :: .null :: .null :: .null :: .null :: .null :: .null :: .null :: .null :: [.long 0, .null, .null, .int 0, .int 0, .int 0, .int 0, .int 0, .int 0, .long 0, .long 0, .null, .null, .int 0, .int 0, .int 0, .null, .null, .int 0, .int 0, .int 0, .null, .null, .int 0, .null, .null, .int 0, .int 0, .int 0, .null, .null, .null]))), (eA0 q_1 cA_2 900 (fun _ => 0)), (eA0 q_3 cA_4 118 (ym_w 118)), (eA0 q_5 cA_6 14 (fun _ => 0))] hP hD rfl
  refine lv_aload_n hx hb dX12_init_736 rfl (lv_at hl 0 rfl) ?_
  refine lv_bipush (v := 8) hx hb dX12_init_737 (by decide) ?_
  refine va_newa (ty := .int) (a0 := (8, .inl (fun _ => 0))) hx hb (htw _ (ck_2 _ (List.mem_of_getElem? (i := 7) rfl))) rfl hK hP hD hS hA (fun _ => rfl) (by decide) (by decide) (by decide) (Nat.le_of_ble_eq_true rfl) (Nat.le_of_ble_eq_true rfl) dX12_init_739 (fun q_7 cA_8 H hK hP hD hS => ?_)
  have hK : va_K (dC, dI) vwCl [(cA_2, .int), (cA_4, .int), (cA_6, .int), (cA_8, .int)] s := hK
  obtain ⟨hP, hD⟩ := zre [(mq, .inr (12, (.ref q_1 :: .int 0 :: .int 0 :: .ref q_3 :: .int 0 :: .int (-1) :: .int 0 :: .int 0 :: .int 0 :: .int 0 :: .int 0 :: .int 0 :: .int 0 :: .int 0 :: .int 0 :: .int 0 :: .int 0 :: .int 0 :: .int 0 :: .int 0 :: .int 0 :: .int 0 :: .int 0 :: .int 0 :: .ref q_5 :: .int 0 :: .int 0 :: .int 0 :: .null :: .null :: .null :: .null :: .null :: .null :: .null :: .null :: .null :: .null :: .null :: .null :: .null :: .null :: .null :: .null :: [.long 0, .null, .null, .int 0, .int 0, .int 0, .int 0, .int 0, .int 0, .long 0, .long 0, .null, .null, .int 0, .int 0, .int 0, .null, .null, .int 0, .int 0, .int 0, .null, .null, .int 0, .null, .null, .int 0, .int 0, .int 0, .null, .null, .null]))), (eA0 q_1 cA_2 900 (fun _ => 0)), (eA0 q_3 cA_4 118 (ym_w 118)), (eA0 q_5 cA_6 14 (fun _ => 0)), (eA0 q_7 cA_8 8 (fun _ => 0))] hP hD rfl
  refine W.widen (k := 4) (n := 1040) (by omega) (by omega) ?_
  refine va_putF (D := (dC, dI)) (ci := 12) (v := .ref q_7) (ty := tyX12 28) (C := RX12) (T := TX12) (N := 76) hx hb htw inlX12 tyX12 tyX12_ok nmX12 hown hK hP hD hS 0 rfl rfl 28 (by decide) (htw _ (ck_9 _ (List.mem_of_getElem? (i := 8) rfl))) (fun _ h9 => h9) rfl hin rfl (tyX12_ok 28 (by decide)) rfl rfl (Nat.le_of_ble_eq_true rfl) dX12_init_741 (fun H locs hP hD hS => ?_)
  obtain ⟨hP, hD⟩ := zre [(mq, .inr (12, (.ref q_1 :: .int 0 :: .int 0 :: .ref q_3 :: .int 0 :: .int (-1) :: .int 0 :: .int 0 :: .int 0 :: .int 0 :: .int 0 :: .int 0 :: .int 0 :: .int 0 :: .int 0 :: .int 0 :: .int 0 :: .int 0 :: .int 0 :: .int 0 :: .int 0 :: .int 0 :: .int 0 :: .int 0 :: .ref q_5 :: .int 0 :: .int 0 :: .int 0 :: .ref q_7 :: .null :: .null :: .null :: .null :: .null :: .null :: .null :: .null :: .null :: .null :: .null :: .null :: .null :: .null :: .null :: [.long 0, .null, .null, .int 0, .int 0, .int 0, .int 0, .int 0, .int 0, .long 0, .long 0, .null, .null, .int 0, .int 0, .int 0, .null, .null, .int 0, .int 0, .int 0, .null, .null, .int 0, .null, .null, .int 0, .int 0, .int 0, .null, .null, .null]))), (eA0 q_1 cA_2 900 (fun _ => 0)), (eA0 q_3 cA_4 118 (ym_w 118)), (eA0 q_5 cA_6 14 (fun _ => 0)), (eA0 q_7 cA_8 8 (fun _ => 0))] hP hD rfl
  refine lv_aload_n hx hb dX12_init_744 rfl (lv_at hl 0 rfl) ?_
  refine lv_bipush (v := 24) hx hb dX12_init_745 (by decide) ?_
  refine va_newa (ty := .int) (a0 := (24, .inl (fun _ => 0))) hx hb (htw _ (ck_2 _ (List.mem_of_getElem? (i := 7) rfl))) rfl hK hP hD hS hA (fun _ => rfl) (by decide) (by decide) (by decide) (Nat.le_of_ble_eq_true rfl) (Nat.le_of_ble_eq_true rfl) dX12_init_747 (fun q_9 cA_10 H hK hP hD hS => ?_)
  have hK : va_K (dC, dI) vwCl [(cA_2, .int), (cA_4, .int), (cA_6, .int), (cA_8, .int), (cA_10, .int)] s := hK
  obtain ⟨hP, hD⟩ := zre [(mq, .inr (12, (.ref q_1 :: .int 0 :: .int 0 :: .ref q_3 :: .int 0 :: .int (-1) :: .int 0 :: .int 0 :: .int 0 :: .int 0 :: .int 0 :: .int 0 :: .int 0 :: .int 0 :: .int 0 :: .int 0 :: .int 0 :: .int 0 :: .int 0 :: .int 0 :: .int 0 :: .int 0 :: .int 0 :: .int 0 :: .ref q_5 :: .int 0 :: .int 0 :: .int 0 :: .ref q_7 :: .null :: .null :: .null :: .null :: .null :: .null :: .null :: .null :: .null :: .null :: .null :: .null :: .null :: .null :: .null :: [.long 0, .null, .null, .int 0, .int 0, .int 0, .int 0, .int 0, .int 0, .long 0, .long 0, .null, .null, .int 0, .int 0, .int 0, .null, .null, .int 0, .int 0, .int 0, .null, .null, .int 0, .null, .null, .int 0, .int 0, .int 0, .null, .null, .null]))), (eA0 q_1 cA_2 900 (fun _ => 0)), (eA0 q_3 cA_4 118 (ym_w 118)), (eA0 q_5 cA_6 14 (fun _ => 0)), (eA0 q_7 cA_8 8 (fun _ => 0)), (eA0 q_9 cA_10 24 (fun _ => 0))] hP hD rfl
  refine W.widen (k := 5) (n := 1064) (by omega) (by omega) ?_
  refine va_putF (D := (dC, dI)) (ci := 12) (v := .ref q_9) (ty := tyX12 29) (C := RX12) (T := TX12) (N := 76) hx hb htw inlX12 tyX12 tyX12_ok nmX12 hown hK hP hD hS 0 rfl rfl 29 (by decide) (htw _ (ck_9 _ (List.mem_of_getElem? (i := 9) rfl))) (fun _ h9 => h9) rfl hin rfl (tyX12_ok 29 (by decide)) rfl rfl (Nat.le_of_ble_eq_true rfl) dX12_init_749 (fun H locs hP hD hS => ?_)
  obtain ⟨hP, hD⟩ := zre [(mq, .inr (12, (.ref q_1 :: .int 0 :: .int 0 :: .ref q_3 :: .int 0 :: .int (-1) :: .int 0 :: .int 0 :: .int 0 :: .int 0 :: .int 0 :: .int 0 :: .int 0 :: .int 0 :: .int 0 :: .int 0 :: .int 0 :: .int 0 :: .int 0 :: .int 0 :: .int 0 :: .int 0 :: .int 0 :: .int 0 :: .ref q_5 :: .int 0 :: .int 0 :: .int 0 :: .ref q_7 :: .ref q_9 :: .null :: .null :: .null :: .null :: .null :: .null :: .null :: .null :: .null :: .null :: .null :: .null :: .null :: .null :: [.long 0, .null, .null, .int 0, .int 0, .int 0, .int 0, .int 0, .int 0, .long 0, .long 0, .null, .null, .int 0, .int 0, .int 0, .null, .null, .int 0, .int 0, .int 0, .null, .null, .int 0, .null, .null, .int 0, .int 0, .int 0, .null, .null, .null]))), (eA0 q_1 cA_2 900 (fun _ => 0)), (eA0 q_3 cA_4 118 (ym_w 118)), (eA0 q_5 cA_6 14 (fun _ => 0)), (eA0 q_7 cA_8 8 (fun _ => 0)), (eA0 q_9 cA_10 24 (fun _ => 0))] hP hD rfl
  refine lv_aload_n hx hb dX12_init_752 rfl (lv_at hl 0 rfl) ?_
  refine lv_bipush (v := 8) hx hb dX12_init_753 (by decide) ?_
  refine va_newa (ty := .int) (a0 := (8, .inl (fun _ => 0))) hx hb (htw _ (ck_2 _ (List.mem_of_getElem? (i := 7) rfl))) rfl hK hP hD hS hA (fun _ => rfl) (by decide) (by decide) (by decide) (Nat.le_of_ble_eq_true rfl) (Nat.le_of_ble_eq_true rfl) dX12_init_755 (fun q_11 cA_12 H hK hP hD hS => ?_)
  have hK : va_K (dC, dI) vwCl [(cA_2, .int), (cA_4, .int), (cA_6, .int), (cA_8, .int), (cA_10, .int), (cA_12, .int)] s := hK
  obtain ⟨hP, hD⟩ := zre [(mq, .inr (12, (.ref q_1 :: .int 0 :: .int 0 :: .ref q_3 :: .int 0 :: .int (-1) :: .int 0 :: .int 0 :: .int 0 :: .int 0 :: .int 0 :: .int 0 :: .int 0 :: .int 0 :: .int 0 :: .int 0 :: .int 0 :: .int 0 :: .int 0 :: .int 0 :: .int 0 :: .int 0 :: .int 0 :: .int 0 :: .ref q_5 :: .int 0 :: .int 0 :: .int 0 :: .ref q_7 :: .ref q_9 :: .null :: .null :: .null :: .null :: .null :: .null :: .null :: .null :: .null :: .null :: .null :: .null :: .null :: .null :: [.long 0, .null, .null, .int 0, .int 0, .int 0, .int 0, .int 0, .int 0, .long 0, .long 0, .null, .null, .int 0, .int 0, .int 0, .null, .null, .int 0, .int 0, .int 0, .null, .null, .int 0, .null, .null, .int 0, .int 0, .int 0, .null, .null, .null]))), (eA0 q_1 cA_2 900 (fun _ => 0)), (eA0 q_3 cA_4 118 (ym_w 118)), (eA0 q_5 cA_6 14 (fun _ => 0)), (eA0 q_7 cA_8 8 (fun _ => 0)), (eA0 q_9 cA_10 24 (fun _ => 0)), (eA0 q_11 cA_12 8 (fun _ => 0))] hP hD rfl
  refine W.widen (k := 6) (n := 1072) (by omega) (by omega) ?_
  refine va_putF (D := (dC, dI)) (ci := 12) (v := .ref q_11) (ty := tyX12 30) (C := RX12) (T := TX12) (N := 76) hx hb htw inlX12 tyX12 tyX12_ok nmX12 hown hK hP hD hS 0 rfl rfl 30 (by decide) (htw _ (ck_9 _ (List.mem_of_getElem? (i := 10) rfl))) (fun _ h9 => h9) rfl hin rfl (tyX12_ok 30 (by decide)) rfl rfl (Nat.le_of_ble_eq_true rfl) dX12_init_757 (fun H locs hP hD hS => ?_)
  obtain ⟨hP, hD⟩ := zre [(mq, .inr (12, (.ref q_1 :: .int 0 :: .int 0 :: .ref q_3 :: .int 0 :: .int (-1) :: .int 0 :: .int 0 :: .int 0 :: .int 0 :: .int 0 :: .int 0 :: .int 0 :: .int 0 :: .int 0 :: .int 0 :: .int 0 :: .int 0 :: .int 0 :: .int 0 :: .int 0 :: .int 0 :: .int 0 :: .int 0 :: .ref q_5 :: .int 0 :: .int 0 :: .int 0 :: .ref q_7 :: .ref q_9 :: .ref q_11 :: .null :: .null :: .null :: .null :: .null :: .null :: .null :: .null :: .null :: .null :: .null :: .null :: .null :: [.long 0, .null, .null, .int 0, .int 0, .int 0, .int 0, .int 0, .int 0, .long 0, .long 0, .null, .null, .int 0, .int 0, .int 0, .null, .null, .int 0, .int 0, .int 0, .null, .null, .int 0, .null, .null, .int 0, .int 0, .int 0, .null, .null, .null]))), (eA0 q_1 cA_2 900 (fun _ => 0)), (eA0 q_3 cA_4 118 (ym_w 118)), (eA0 q_5 cA_6 14 (fun _ => 0)), (eA0 q_7 cA_8 8 (fun _ => 0)), (eA0 q_9 cA_10 24 (fun _ => 0)), (eA0 q_11 cA_12 8 (fun _ => 0))] hP hD rfl
  refine lv_aload_n hx hb dX12_init_760 rfl (lv_at hl 0 rfl) ?_
  refine lv_bipush (v := 8) hx hb dX12_init_761 (by decide) ?_
  refine va_newa (ty := .int) (a0 := (8, .inl (fun _ => 0))) hx hb (htw _ (ck_2 _ (List.mem_of_getElem? (i := 7) rfl))) rfl hK hP hD hS hA (fun _ => rfl) (by decide) (by decide) (by decide) (Nat.le_of_ble_eq_true rfl) (Nat.le_of_ble_eq_true rfl) dX12_init_763 (fun q_13 cA_14 H hK hP hD hS => ?_)
  have hK : va_K (dC, dI) vwCl [(cA_2, .int), (cA_4, .int), (cA_6, .int), (cA_8, .int), (cA_10, .int), (cA_12, .int), (cA_14, .int)] s := hK
  obtain ⟨hP, hD⟩ := zre [(mq, .inr (12, (.ref q_1 :: .int 0 :: .int 0 :: .ref q_3 :: .int 0 :: .int (-1) :: .int 0 :: .int 0 :: .int 0 :: .int 0 :: .int 0 :: .int 0 :: .int 0 :: .int 0 :: .int 0 :: .int 0 :: .int 0 :: .int 0 :: .int 0 :: .int 0 :: .int 0 :: .int 0 :: .int 0 :: .int 0 :: .ref q_5 :: .int 0 :: .int 0 :: .int 0 :: .ref q_7 :: .ref q_9 :: .ref q_11 :: .null :: .null :: .null :: .null :: .null :: .null :: .null :: .null :: .null :: .null :: .null :: .null :: .null :: [.long 0, .null, .null, .int 0, .int 0, .int 0, .int 0, .int 0, .int 0, .long 0, .long 0, .null, .null, .int 0, .int 0, .int 0, .null, .null, .int 0, .int 0, .int 0, .null, .null, .int 0, .null, .null, .int 0, .int 0, .int 0, .null, .null, .null]))), (eA0 q_1 cA_2 900 (fun _ => 0)), (eA0 q_3 cA_4 118 (ym_w 118)), (eA0 q_5 cA_6 14 (fun _ => 0)), (eA0 q_7 cA_8 8 (fun _ => 0)), (eA0 q_9 cA_10 24 (fun _ => 0)), (eA0 q_11 cA_12 8 (fun _ => 0)), (eA0 q_13 cA_14 8 (fun _ => 0))] hP hD rfl
  refine W.widen (k := 7) (n := 1080) (by omega) (by omega) ?_
  refine va_putF (D := (dC, dI)) (ci := 12) (v := .ref q_13) (ty := tyX12 31) (C := RX12) (T := TX12) (N := 76) hx hb htw inlX12 tyX12 tyX12_ok nmX12 hown hK hP hD hS 0 rfl rfl 31 (by decide) (htw _ (ck_9 _ (List.mem_of_getElem? (i := 11) rfl))) (fun _ h9 => h9) rfl hin rfl (tyX12_ok 31 (by decide)) rfl rfl (Nat.le_of_ble_eq_true rfl) dX12_init_765 (fun H locs hP hD hS => ?_)
  obtain ⟨hP, hD⟩ := zre [(mq, .inr (12, (.ref q_1 :: .int 0 :: .int 0 :: .ref q_3 :: .int 0 :: .int (-1) :: .int 0 :: .int 0 :: .int 0 :: .int 0 :: .int 0 :: .int 0 :: .int 0 :: .int 0 :: .int 0 :: .int 0 :: .int 0 :: .int 0 :: .int 0 :: .int 0 :: .int 0 :: .int 0 :: .int 0 :: .int 0 :: .ref q_5 :: .int 0 :: .int 0 :: .int 0 :: .ref q_7 :: .ref q_9 :: .ref q_11 :: .ref q_13 :: .null :: .null :: .null :: .null :: .null :: .null :: .null :: .null :: .null :: .null :: .null :: .null :: [.long 0, .null, .null, .int 0, .int 0, .int 0, .int 0, .int 0, .int 0, .long 0, .long 0, .null, .null, .int 0, .int 0, .int 0, .null, .null, .int 0, .int 0, .int 0, .null, .null, .int 0, .null, .null, .int 0, .int 0, .int 0, .null, .null, .null]))), (eA0 q_1 cA_2 900 (fun _ => 0)), (eA0 q_3 cA_4 118 (ym_w 118)), (eA0 q_5 cA_6 14 (fun _ => 0)), (eA0 q_7 cA_8 8 (fun _ => 0)), (eA0 q_9 cA_10 24 (fun _ => 0)), (eA0 q_11 cA_12 8 (fun _ => 0)), (eA0 q_13 cA_14 8 (fun _ => 0))] hP hD rfl
  refine lv_aload_n hx hb dX12_init_768 rfl (lv_at hl 0 rfl) ?_
  refine lv_bipush (v := 8) hx hb dX12_init_769 (by decide) ?_
  refine va_newa (ty := .int) (a0 := (8, .inl (fun _ => 0))) hx hb (htw _ (ck_2 _ (List.mem_of_getElem? (i := 7) rfl))) rfl hK hP hD hS hA (fun _ => rfl) (by decide) (by decide) (by decide) (Nat.le_of_ble_eq_true rfl) (Nat.le_of_ble_eq_true rfl) dX12_init_771 (fun q_15 cA_16 H hK hP hD hS => ?_)
  have hK : va_K (dC, dI) vwCl [(cA_2, .int), (cA_4, .int), (cA_6, .int), (cA_8, .int), (cA_10, .int), (cA_12, .int), (cA_14, .int), (cA_16, .int)] s := hK
  obtain ⟨hP, hD⟩ := zre [(mq, .inr (12, (.ref q_1 :: .int 0 :: .int 0 :: .ref q_3 :: .int 0 :: .int (-1) :: .int 0 :: .int 0 :: .int 0 :: .int 0 :: .int 0 :: .int 0 :: .int 0 :: .int 0 :: .int 0 :: .int 0 :: .int 0 :: .int 0 :: .int 0 :: .int 0 :: .int 0 :: .int 0 :: .int 0 :: .int 0 :: .ref q_5 :: .int 0 :: .int 0 :: .int 0 :: .ref q_7 :: .ref q_9 :: .ref q_11 :: .ref q_13 :: .null :: .null :: .null :: .null :: .null :: .null :: .null :: .null :: .null :: .null :: .null :: .null :: [.long 0, .null, .null, .int 0, .int 0, .int 0, .int 0, .int 0, .int 0, .long 0, .long 0, .null, .null, .int 0, .int 0, .int 0, .null, .null, .int 0, .int 0, .int 0, .null, .null, .int 0, .null, .null, .int 0, .int 0, .int 0, .null, .null, .null]))), (eA0 q_1 cA_2 900 (fun _ => 0)), (eA0 q_3 cA_4 118 (ym_w 118)), (eA0 q_5 cA_6 14 (fun _ => 0)), (eA0 q_7 cA_8 8 (fun _ => 0)), (eA0 q_9 cA_10 24 (fun _ => 0)), (eA0 q_11 cA_12 8 (fun _ => 0)), (eA0 q_13 cA_14 8 (fun _ => 0)), (eA0 q_15 cA_16 8 (fun _ => 0))] hP hD rfl
  refine W.widen (k := 8) (n := 1088) (by omega) (by omega) ?_
  refine va_putF (D := (dC, dI)) (ci := 12) (v := .ref q_15) (ty := tyX12 32) (C := RX12) (T := TX12) (N := 76) hx hb htw inlX12 tyX12 tyX12_ok nmX12 hown hK hP hD hS 0 rfl rfl 32 (by decide) (htw _ (ck_9 _ (List.mem_of_getElem? (i := 12) rfl))) (fun _ h9 => h9) rfl hin rfl (tyX12_ok 32 (by decide)) rfl rfl (Nat.le_of_ble_eq_true rfl) dX12_init_773 (fun H locs hP hD hS => ?_)
  obtain ⟨hP, hD⟩ := zre [(mq, .inr (12, (.ref q_1 :: .int 0 :: .int 0 :: .ref q_3 :: .int 0 :: .int (-1) :: .int 0 :: .int 0 :: .int 0 :: .int 0 :: .int 0 :: .int 0 :: .int 0 :: .int 0 :: .int 0 :: .int 0 :: .int 0 :: .int 0 :: .int 0 :: .int 0 :: .int 0 :: .int 0 :: .int 0 :: .int 0 :: .ref q_5 :: .int 0 :: .int 0 :: .int 0 :: .ref q_7 :: .ref q_9 :: .ref q_11 :: .ref q_13 :: .ref q_15 :: .null :: .null :: .null :: .null :: .null :: .null :: .null :: .null :: .null :: .null :: .null :: [.long 0, .null, .null, .int 0, .int 0, .int 0, .int 0, .int 0, .int 0, .long 0, .long 0, .null, .null, .int 0, .int 0, .int 0, .null, .null, .int 0, .int 0, .int 0, .null, .null, .int 0, .null, .null, .int 0, .int 0, .int 0, .null, .null, .null]))), (eA0 q_1 cA_2 900 (fun _ => 0)), (eA0 q_3 cA_4 118 (ym_w 118)), (eA0 q_5 cA_6 14 (fun _ => 0)), (eA0 q_7 cA_8 8 (fun _ => 0)), (eA0 q_9 cA_10 24 (fun _ => 0)), (eA0 q_11 cA_12 8 (fun _ => 0)), (eA0 q_13 cA_14 8 (fun _ => 0)), (eA0 q_15 cA_16 8 (fun _ => 0))] hP hD rfl
  refine lv_aload_n hx hb dX12_init_776 rfl (lv_at hl 0 rfl) ?_
  refine lv_bipush (v := 12) hx hb dX12_init_777 (by decide) ?_
  refine va_newa (ty := .int) (a0 := (12, .inl (fun _ => 0))) hx hb (htw _ (ck_2 _ (List.mem_of_getElem? (i := 7) rfl))) rfl hK hP hD hS hA (fun _ => rfl) (by decide) (by decide) (by decide) (Nat.le_of_ble_eq_true rfl) (Nat.le_of_ble_eq_true rfl) dX12_init_779 (fun q_17 cA_18 H hK hP hD hS => ?_)
  have hK : va_K (dC, dI) vwCl [(cA_2, .int), (cA_4, .int), (cA_6, .int), (cA_8, .int), (cA_10, .int), (cA_12, .int), (cA_14, .int), (cA_16, .int), (cA_18, .int)] s := hK
  obtain ⟨hP, hD⟩ := zre [(mq, .inr (12, (.ref q_1 :: .int 0 :: .int 0 :: .ref q_3 :: .int 0 :: .int (-1) :: .int 0 :: .int 0 :: .int 0 :: .int 0 :: .int 0 :: .int 0 :: .int 0 :: .int 0 :: .int 0 :: .int 0 :: .int 0 :: .int 0 :: .int 0 :: .int 0 :: .int 0 :: .int 0 :: .int 0 :: .int 0 :: .ref q_5 :: .int 0 :: .int 0 :: .int 0 :: .ref q_7 :: .ref q_9 :: .ref q_11 :: .ref q_13 :: .ref q_15 :: .null :: .null :: .null :: .null :: .null :: .null :: .null :: .null :: .null :: .null :: .null :: [.long 0, .null, .null, .int 0, .int 0, .int 0, .int 0, .int 0, .int 0, .long 0, .long 0, .null, .null, .int 0, .int 0, .int 0, .null, .null, .int 0, .int 0, .int 0, .null, .null, .int 0, .null, .null, .int 0, .int 0, .int 0, .null, .null, .null]))), (eA0 q_1 cA_2 900 (fun _ => 0)), (eA0 q_3 cA_4 118 (ym_w 118)), (eA0 q_5 cA_6 14 (fun _ => 0)), (eA0 q_7 cA_8 8 (fun _ => 0)), (eA0 q_9 cA_10 24 (fun _ => 0)), (eA0 q_11 cA_12 8 (fun _ => 0)), (eA0 q_13 cA_14 8 (fun _ => 0)), (eA0 q_15 cA_16 8 (fun _ => 0)), (eA0 q_17 cA_18 12 (fun _ => 0))] hP hD rfl
  refine W.widen (k := 9) (n := 1100) (by omega) (by omega) ?_
  refine va_putF (D := (dC, dI)) (ci := 12) (v := .ref q_17) (ty := tyX12 33) (C := RX12) (T := TX12) (N := 76) hx hb htw inlX12 tyX12 tyX12_ok nmX12 hown hK hP hD hS 0 rfl rfl 33 (by decide) (htw _ (ck_9 _ (List.mem_of_getElem? (i := 13) rfl))) (fun _ h9 => h9) rfl hin rfl (tyX12_ok 33 (by decide)) rfl rfl (Nat.le_of_ble_eq_true rfl) dX12_init_781 (fun H locs hP hD hS => ?_)
  obtain ⟨hP, hD⟩ := zre [(mq, .inr (12, (.ref q_1 :: .int 0 :: .int 0 :: .ref q_3 :: .int 0 :: .int (-1) :: .int 0 :: .int 0 :: .int 0 :: .int 0 :: .int 0 :: .int 0 :: .int 0 :: .int 0 :: .int 0 :: .int 0 :: .int 0 :: .int 0 :: .int 0 :: .int 0 :: .int 0 :: .int 0 :: .int 0 :: .int 0 :: .ref q_5 :: .int 0 :: .int 0 :: .int 0 :: .ref q_7 :: .ref q_9 :: .ref q_11 :: .ref q_13 :: .ref q_15 :: .ref q_17 :: .null :: .null :: .null :: .null :: .null :: .null :: .null :: .null :: .null :: .null :: [.long 0, .null, .null, .int 0, .int 0, .int 0, .int 0, .int 0, .int 0, .long 0, .long 0, .null, .null, .int 0, .int 0, .int 0, .null, .null, .int 0, .int 0, .int 0, .null, .null, .int 0, .null, .null, .int 0, .int 0, .int 0, .null, .null, .null]))), (eA0 q_1 cA_2 900 (fun _ => 0)), (eA0 q_3 cA_4 118 (ym_w 118)), (eA0 q_5 cA_6 14 (fun _ => 0)), (eA0 q_7 cA_8 8 (fun _ => 0)), (eA0 q_9 cA_10 24 (fun _ => 0)), (eA0 q_11 cA_12 8 (fun _ => 0)), (eA0 q_13 cA_14 8 (fun _ => 0)), (eA0 q_15 cA_16 8 (fun _ => 0)), (eA0 q_17 cA_18 12 (fun _ => 0))] hP hD rfl
  refine lv_aload_n hx hb dX12_init_784 rfl (lv_at hl 0 rfl) ?_
  refine lv_bipush (v := 12) hx hb dX12_init_785 (by decide) ?_
  refine va_newa (ty := .long) (a0 := (12, .inr (.inl (fun _ => 0)))) hx hb (htw _ (ck_1 _ (List.mem_of_getElem? (i := 6) rfl))) rfl hK hP hD hS hA (fun _ => rfl) (by decide) (by decide) (by decide) (Nat.le_of_ble_eq_true rfl) (Nat.le_of_ble_eq_true rfl) dX12_init_787 (fun q_19 cA_20 H hK hP hD hS => ?_)
  have hK : va_K (dC, dI) vwCl [(cA_2, .int), (cA_4, .int), (cA_6, .int), (cA_8, .int), (cA_10, .int), (cA_12, .int), (cA_14, .int), (cA_16, .int), (cA_18, .int), (cA_20, .long)] s := hK
  obtain ⟨hP, hD⟩ := zre [(mq, .inr (12, (.ref q_1 :: .int 0 :: .int 0 :: .ref q_3 :: .int 0 :: .int (-1) :: .int 0 :: .int 0 :: .int 0 :: .int 0 :: .int 0 :: .int 0 :: .int 0 :: .int 0 :: .int 0 :: .int 0 :: .int 0 :: .int 0 :: .int 0 :: .int 0 :: .int 0 :: .int 0 :: .int 0 :: .int 0 :: .ref q_5 :: .int 0 :: .int 0 :: .int 0 :: .ref q_7 :: .ref q_9 :: .ref q_11 :: .ref q_13 :: .ref q_15 :: .ref q_17 :: .null :: .null :: .null :: .null :: .null :: .null :: .null :: .null :: .null :: .null :: [.long 0, .null, .null, .int 0, .int 0, .int 0, .int 0, .int 0, .int 0, .long 0, .long 0, .null, .null, .int 0, .int 0, .int 0, .null, .null, .int 0, .int 0, .int 0, .null, .null, .int 0, .null, .null, .int 0, .int 0, .int 0, .null, .null, .null]))), (eA0 q_1 cA_2 900 (fun _ => 0)), (eA0 q_3 cA_4 118 (ym_w 118)), (eA0 q_5 cA_6 14 (fun _ => 0)), (eA0 q_7 cA_8 8 (fun _ => 0)), (eA0 q_9 cA_10 24 (fun _ => 0)), (eA0 q_11 cA_12 8 (fun _ => 0)), (eA0 q_13 cA_14 8 (fun _ => 0)), (eA0 q_15 cA_16 8 (fun _ => 0)), (eA0 q_17 cA_18 12 (fun _ => 0)), (eA1 q_19 cA_20 12 (fun _ => 0))] hP hD rfl
  refine W.widen (k := 10) (n := 1112) (by omega) (by omega) ?_
  refine va_putF (D := (dC, dI)) (ci := 12) (v := .ref q_19) (ty := tyX12 34) (C := RX12) (T := TX12) (N := 76) hx hb htw inlX12 tyX12 tyX12_ok nmX12 hown hK hP hD hS 0 rfl rfl 34 (by decide) (htw _ (ck_9 _ (List.mem_of_getElem? (i := 14) rfl))) (fun _ h9 => h9) rfl hin rfl (tyX12_ok 34 (by decide)) rfl rfl (Nat.le_of_ble_eq_true rfl) dX12_init_789 (fun H locs hP hD hS => ?_)
  obtain ⟨hP, hD⟩ := zre [(mq, .inr (12, (.ref q_1 :: .int 0 :: .int 0 :: .ref q_3 :: .int 0 :: .int (-1) :: .int 0 :: .int 0 :: .int 0 :: .int 0 :: .int 0 :: .int 0 :: .int 0 :: .int 0 :: .int 0 :: .int 0 :: .int 0 :: .int 0 :: .int 0 :: .int 0 :: .int 0 :: .int 0 :: .int 0 :: .int 0 :: .ref q_5 :: .int 0 :: .int 0 :: .int 0 :: .ref q_7 :: .ref q_9 :: .ref q_11 :: .ref q_13 :: .ref q_15 :: .ref q_17 :: .ref q_19 :: .null :: .null :: .null :: .null :: .null :: .null :: .null :: .null :: .null :: [.long 0, .null, .null, .int 0, .int 0, .int 0, .int 0, .int 0, .int 0, .long 0, .long 0, .null, .null, .int 0, .int 0, .int 0, .null, .null, .int 0, .int 0, .int 0, .null, .null, .int 0, .null, .null, .int 0, .int 0, .int 0, .null, .null, .null]))), (eA0 q_1 cA_2 900 (fun _ => 0)), (eA0 q_3 cA_4 118 (ym_w 118)), (eA0 q_5 cA_6 14 (fun _ => 0)), (eA0 q_7 cA_8 8 (fun _ => 0)), (eA0 q_9 cA_10 24 (fun _ => 0)), (eA0 q_11 cA_12 8 (fun _ => 0)), (eA0 q_13 cA_14 8 (fun _ => 0)), (eA0 q_15 cA_16 8 (fun _ => 0)), (eA0 q_17 cA_18 12 (fun _ => 0)), (eA1 q_19 cA_20 12 (fun _ => 0))] hP hD rfl
  refine lv_aload_n hx hb dX12_init_792 rfl (lv_at hl 0 rfl) ?_
  refine lv_bipush (v := 12) hx hb dX12_init_793 (by decide) ?_
  refine va_newa (ty := .long) (a0 := (12, .inr (.inl (fun _ => 0)))) hx hb (htw _ (ck_1 _ (List.mem_of_getElem? (i := 6) rfl))) rfl hK hP hD hS hA (fun _ => rfl) (by decide) (by decide) (by decide) (Nat.le_of_ble_eq_true rfl) (Nat.le_of_ble_eq_true rfl) dX12_init_795 (fun q_21 cA_22 H hK hP hD hS => ?_)
  have hK : va_K (dC, dI) vwCl [(cA_2, .int), (cA_4, .int), (cA_6, .int), (cA_8, .int), (cA_10, .int), (cA_12, .int), (cA_14, .int), (cA_16, .int), (cA_18, .int), (cA_20, .long), (cA_22, .long)] s := hK
  obtain ⟨hP, hD⟩ := zre [(mq, .inr (12, (.ref q_1 :: .int 0 :: .int 0 :: .ref q_3 :: .int 0 :: .int (-1) :: .int 0 :: .int 0 :: .int 0 :: .int 0 :: .int 0 :: .int 0 :: .int 0 :: .int 0 :: .int 0 :: .int 0 :: .int 0 :: .int 0 :: .int 0 :: .int 0 :: .int 0 :: .int 0 :: .int 0 :: .int 0 :: .ref q_5 :: .int 0 :: .int 0 :: .int 0 :: .ref q_7 :: .ref q_9 :: .ref q_11 :: .ref q_13 :: .ref q_15 :: .ref q_17 :: .ref q_19 :: .null :: .null :: .null :: .null :: .null :: .null :: .null :: .null :: .null :: [.long 0, .null, .null, .int 0, .int 0, .int 0, .int 0, .int 0, .int 0, .long 0, .long 0, .null, .null, .int 0, .int 0, .int 0, .null, .null, .int 0, .int 0, .int 0, .null, .null, .int 0, .null, .null, .int 0, .int 0, .int 0, .null, .null, .null]))), (eA0 q_1 cA_2 900 (fun _ => 0)), (eA0 q_3 cA_4 118 (ym_w 118)), (eA0 q_5 cA_6 14 (fun _ => 0)), (eA0 q_7 cA_8 8 (fun _ => 0)), (eA0 q_9 cA_10 24 (fun _ => 0)), (eA0 q_11 cA_12 8 (fun _ => 0)), (eA0 q_13 cA_14 8 (fun _ => 0)), (eA0 q_15 cA_16 8 (fun _ => 0)), (eA0 q_17 cA_18 12 (fun _ => 0)), (eA1 q_19 cA_20 12 (fun _ => 0)), (eA1 q_21 cA_22 12 (fun _ => 0))] hP hD rfl
  refine W.widen (k := 11) (n := 1124) (by omega) (by omega) ?_
  refine va_putF (D := (dC, dI)) (ci := 12) (v := .ref q_21) (ty := tyX12 35) (C := RX12) (T := TX12) (N := 76) hx hb htw inlX12 tyX12 tyX12_ok nmX12 hown hK hP hD hS 0 rfl rfl 35 (by decide) (htw _ (ck_9 _ (List.mem_of_getElem? (i := 15) rfl))) (fun _ h9 => h9) rfl hin rfl (tyX12_ok 35 (by decide)) rfl rfl (Nat.le_of_ble_eq_true rfl) dX12_init_797 (fun H locs hP hD hS => ?_)
  obtain ⟨hP, hD⟩ := zre [(mq, .inr (12, (.ref q_1 :: .int 0 :: .int 0 :: .ref q_3 :: .int 0 :: .int (-1) :: .int 0 :: .int 0 :: .int 0 :: .int 0 :: .int 0 :: .int 0 :: .int 0 :: .int 0 :: .int 0 :: .int 0 :: .int 0 :: .int 0 :: .int 0 :: .int 0 :: .int 0 :: .int 0 :: .int 0 :: .int 0 :: .ref q_5 :: .int 0 :: .int 0 :: .int 0 :: .ref q_7 :: .ref q_9 :: .ref q_11 :: .ref q_13 :: .ref q_15 :: .ref q_17 :: .ref q_19 :: .ref q_21 :: .null :: .null :: .null :: .null :: .null :: .null :: .null :: .null :: [.long 0, .null, .null, .int 0, .int 0, .int 0, .int 0, .int 0, .int 0, .long 0, .long 0, .null, .null, .int 0, .int 0, .int 0, .null, .null, .int 0, .int 0, .int 0, .null, .null, .int 0, .null, .null, .int 0, .int 0, .int 0, .null, .null, .null]))), (eA0 q_1 cA_2 900 (fun _ => 0)), (eA0 q_3 cA_4 118 (ym_w 118)), (eA0 q_5 cA_6 14 (fun _ => 0)), (eA0 q_7 cA_8 8 (fun _ => 0)), (eA0 q_9 cA_10 24 (fun _ => 0)), (eA0 q_11 cA_12 8 (fun _ => 0)), (eA0 q_13 cA_14 8 (fun _ => 0)), (eA0 q_15 cA_16 8 (fun _ => 0)), (eA0 q_17 cA_18 12 (fun _ => 0)), (eA1 q_19 cA_20 12 (fun _ => 0)), (eA1 q_21 cA_22 12 (fun _ => 0))] hP hD rfl
  refine lv_aload_n hx hb dX12_init_800 rfl (lv_at hl 0 rfl) ?_
  refine lv_bipush (v := 8) hx hb dX12_init_801 (by decide) ?_
  refine va_newa (ty := .int) (a0 := (8, .inl (fun _ => 0))) hx hb (htw _ (ck_2 _ (List.mem_of_getElem? (i := 7) rfl))) rfl hK hP hD hS hA (fun _ => rfl) (by decide) (by decide) (by decide) (Nat.le_of_ble_eq_true rfl) (Nat.le_of_ble_eq_true rfl) dX12_init_803 (fun q_23 cA_24 H hK hP hD hS => ?_)
  have hK : va_K (dC, dI) vwCl [(cA_2, .int), (cA_4, .int), (cA_6, .int), (cA_8, .int), (cA_10, .int), (cA_12, .int), (cA_14, .int), (cA_16, .int), (cA_18, .int), (cA_20, .long), (cA_22, .long), (cA_24, .int)] s := hK
  obtain ⟨hP, hD⟩ := zre [(mq, .inr (12, (.ref q_1 :: .int 0 :: .int 0 :: .ref q_3 :: .int 0 :: .int (-1) :: .int 0 :: .int 0 :: .int 0 :: .int 0 :: .int 0 :: .int 0 :: .int 0 :: .int 0 :: .int 0 :: .int 0 :: .int 0 :: .int 0 :: .int 0 :: .int 0 :: .int 0 :: .int 0 :: .int 0 :: .int 0 :: .ref q_5 :: .int 0 :: .int 0 :: .int 0 :: .ref q_7 :: .ref q_9 :: .ref q_11 :: .ref q_13 :: .ref q_15 :: .ref q_17 :: .ref q_19 :: .ref q_21 :: .null :: .null :: .null :: .null :: .null :: .null :: .null :: .null :: [.long 0, .null, .null, .int 0, .int 0, .int 0, .int 0, .int 0, .int 0, .long 0, .long 0, .null, .null, .int 0, .int 0, .int 0, .null, .null, .int 0, .int 0, .int 0, .null, .null, .int 0, .null, .null, .int 0, .int 0, .int 0, .null, .null, .null]))), (eA0 q_1 cA_2 900 (fun _ => 0)), (eA0 q_3 cA_4 118 (ym_w 118)), (eA0 q_5 cA_6 14 (fun _ => 0)), (eA0 q_7 cA_8 8 (fun _ => 0)), (eA0 q_9 cA_10 24 (fun _ => 0)), (eA0 q_11 cA_12 8 (fun _ => 0)), (eA0 q_13 cA_14 8 (fun _ => 0)), (eA0 q_15 cA_16 8 (fun _ => 0)), (eA0 q_17 cA_18 12 (fun _ => 0)), (eA1 q_19 cA_20 12 (fun _ => 0)), (eA1 q_21 cA_22 12 (fun _ => 0)), (eA0 q_23 cA_24 8 (fun _ => 0))] hP hD rfl
  refine W.widen (k := 12) (n := 1132) (by omega) (by omega) ?_
  refine va_putF (D := (dC, dI)) (ci := 12) (v := .ref q_23) (ty := tyX12 36) (C := RX12) (T := TX12) (N := 76) hx hb htw inlX12 tyX12 tyX12_ok nmX12 hown hK hP hD hS 0 rfl rfl 36 (by decide) (htw _ (ck_9 _ (List.mem_of_getElem? (i := 16) rfl))) (fun _ h9 => h9) rfl hin rfl (tyX12_ok 36 (by decide)) rfl rfl (Nat.le_of_ble_eq_true rfl) dX12_init_805 (fun H locs hP hD hS => ?_)
  obtain ⟨hP, hD⟩ := zre [(mq, .inr (12, (.ref q_1 :: .int 0 :: .int 0 :: .ref q_3 :: .int 0 :: .int (-1) :: .int 0 :: .int 0 :: .int 0 :: .int 0 :: .int 0 :: .int 0 :: .int 0 :: .int 0 :: .int 0 :: .int 0 :: .int 0 :: .int 0 :: .int 0 :: .int 0 :: .int 0 :: .int 0 :: .int 0 :: .int 0 :: .ref q_5 :: .int 0 :: .int 0 :: .int 0 :: .ref q_7 :: .ref q_9 :: .ref q_11 :: .ref q_13 :: .ref q_15 :: .ref q_17 :: .ref q_19 :: .ref q_21 :: .ref q_23 :: .null :: .null :: .null :: .null :: .null :: .null :: .null :: [.long 0, .null, .null, .int 0, .int 0, .int 0, .int 0, .int 0, .int 0, .long 0, .long 0, .null, .null, .int 0, .int 0, .int 0, .null, .null, .int 0, .int 0, .int 0, .null, .null, .int 0, .null, .null, .int 0, .int 0, .int 0, .null, .null, .null]))), (eA0 q_1 cA_2 900 (fun _ => 0)), (eA0 q_3 cA_4 118 (ym_w 118)), (eA0 q_5 cA_6 14 (fun _ => 0)), (eA0 q_7 cA_8 8 (fun _ => 0)), (eA0 q_9 cA_10 24 (fun _ => 0)), (eA0 q_11 cA_12 8 (fun _ => 0)), (eA0 q_13 cA_14 8 (fun _ => 0)), (eA0 q_15 cA_16 8 (fun _ => 0)), (eA0 q_17 cA_18 12 (fun _ => 0)), (eA1 q_19 cA_20 12 (fun _ => 0)), (eA1 q_21 cA_22 12 (fun _ => 0)), (eA0 q_23 cA_24 8 (fun _ => 0))] hP hD rfl
  refine lv_aload_n hx hb dX12_init_808 rfl (lv_at hl 0 rfl) ?_
  refine lv_bipush (v := 8) hx hb dX12_init_809 (by decide) ?_
  refine va_newa (ty := .long) (a0 := (8, .inr (.inl (fun _ => 0)))) hx hb (htw _ (ck_1 _ (List.mem_of_getElem? (i := 6) rfl))) rfl hK hP hD hS hA (fun _ => rfl) (by decide) (by decide) (by decide) (Nat.le_of_ble_eq_true rfl) (Nat.le_of_ble_eq_true rfl) dX12_init_811 (fun q_25 cA_26 H hK hP hD hS => ?_)
  have hK : va_K (dC, dI) vwCl [(cA_2, .int), (cA_4, .int), (cA_6, .int), (cA_8, .int), (cA_10, .int), (cA_12, .int), (cA_14, .int), (cA_16, .int), (cA_18, .int), (cA_20, .long), (cA_22, .long), (cA_24, .int), (cA_26, .long)] s := hK
  obtain ⟨hP, hD⟩ := zre [(mq, .inr (12, (.ref q_1 :: .int 0 :: .int 0 :: .ref q_3 :: .int 0 :: .int (-1) :: .int 0 :: .int 0 :: .int 0 :: .int 0 :: .int 0 :: .int 0 :: .int 0 :: .int 0 :: .int 0 :: .int 0 :: .int 0 :: .int 0 :: .int 0 :: .int 0 :: .int 0 :: .int 0 :: .int 0 :: .int 0 :: .ref q_5 :: .int 0 :: .int 0 :: .int 0 :: .ref q_7 :: .ref q_9 :: .ref q_11 :: .ref q_13 :: .ref q_15 :: .ref q_17 :: .ref q_19 :: .ref q_21 :: .ref q_23 :: .null :: .null :: .null :: .null :: .null :: .null :: .null :: [.long 0, .null, .null, .int 0, .int 0, .int 0, .int 0, .int 0, .int 0, .long 0, .long 0, .null, .null, .int 0, .int 0, .int 0, .null, .null, .int 0, .int 0, .int 0, .null, .null, .int 0, .null, .null, .int 0, .int 0, .int 0, .null, .null, .null]))), (eA0 q_1 cA_2 900 (fun _ => 0)), (eA0 q_3 cA_4 118 (ym_w 118)), (eA0 q_5 cA_6 14 (fun _ => 0)), (eA0 q_7 cA_8 8 (fun _ => 0)), (eA0 q_9 cA_10 24 (fun _ => 0)), (eA0 q_11 cA_12 8 (fun _ => 0)), (eA0 q_13 cA_14 8 (fun _ => 0)), (eA0 q_15 cA_16 8 (fun _ => 0)), (eA0 q_17 cA_18 12 (fun _ => 0)), (eA1 q_19 cA_20 12 (fun _ => 0)), (eA1 q_21 cA_22 12 (fun _ => 0)), (eA0 q_23 cA_24 8 (fun _ => 0)), (eA1 q_25 cA_26 8 (fun _ => 0))] hP hD rfl
  refine W.widen (k := 13) (n := 1140) (by omega) (by omega) ?_
  refine va_putF (D := (dC, dI)) (ci := 12) (v := .ref q_25) (ty := tyX12 37) (C := RX12) (T := TX12) (N := 76) hx hb htw inlX12 tyX12 tyX12_ok nmX12 hown hK hP hD hS 0 rfl rfl 37 (by decide) (htw _ (ck_9 _ (List.mem_of_getElem? (i := 17) rfl))) (fun _ h9 => h9) rfl hin rfl (tyX12_ok 37 (by decide)) rfl rfl (Nat.le_of_ble_eq_true rfl) dX12_init_813 (fun H locs hP hD hS => ?_)
  obtain ⟨hP, hD⟩ := zre [(mq, .inr (12, (.ref q_1 :: .int 0 :: .int 0 :: .ref q_3 :: .int 0 :: .int (-1) :: .int 0 :: .int 0 :: .int 0 :: .int 0 :: .int 0 :: .int 0 :: .int 0 :: .int 0 :: .int 0 :: .int 0 :: .int 0 :: .int 0 :: .int 0 :: .int 0 :: .int 0 :: .int 0 :: .int 0 :: .int 0 :: .ref q_5 :: .int 0 :: .int 0 :: .int 0 :: .ref q_7 :: .ref q_9 :: .ref q_11 :: .ref q_13 :: .ref q_15 :: .ref q_17 :: .ref q_19 :: .ref q_21 :: .ref q_23 :: .ref q_25 :: .null :: .null :: .null :: .null :: .null :: .null :: [.long 0, .null, .null, .int 0, .int 0, .int 0, .int 0, .int 0, .int 0, .long 0, .long 0, .null, .null, .int 0, .int 0, .int 0, .null, .null, .int 0, .int 0, .int 0, .null, .null, .int 0, .null, .null, .int 0, .int 0, .int 0, .null, .null, .null]))), (eA0 q_1 cA_2 900 (fun _ => 0)), (eA0 q_3 cA_4 118 (ym_w 118)), (eA0 q_5 cA_6 14 (fun _ => 0)), (eA0 q_7 cA_8 8 (fun _ => 0)), (eA0 q_9 cA_10 24 (fun _ => 0)), (eA0 q_11 cA_12 8 (fun _ => 0)), (eA0 q_13 cA_14 8 (fun _ => 0)), (eA0 q_15 cA_16 8 (fun _ => 0)), (eA0 q_17 cA_18 12 (fun _ => 0)), (eA1 q_19 cA_20 12 (fun _ => 0)), (eA1 q_21 cA_22 12 (fun _ => 0)), (eA0 q_23 cA_24 8 (fun _ => 0)), (eA1 q_25 cA_26 8 (fun _ => 0))] hP hD rfl
  refine lv_aload_n hx hb dX12_init_816 rfl (lv_at hl 0 rfl) ?_
  refine lv_bipush (v := 24) hx hb dX12_init_817 (by decide) ?_
  refine va_newa (ty := .int) (a0 := (24, .inl (fun _ => 0))) hx hb (htw _ (ck_2 _ (List.mem_of_getElem? (i := 7) rfl))) rfl hK hP hD hS hA (fun _ => rfl) (by decide) (by decide) (by decide) (Nat.le_of_ble_eq_true rfl) (Nat.le_of_ble_eq_true rfl) dX12_init_819 (fun q_27 cA_28 H hK hP hD hS => ?_)
  have hK : va_K (dC, dI) vwCl [(cA_2, .int), (cA_4, .int), (cA_6, .int), (cA_8, .int), (cA_10, .int), (cA_12, .int), (cA_14, .int), (cA_16, .int), (cA_18, .int), (cA_20, .long), (cA_22, .long), (cA_24, .int), (cA_26, .long), (cA_28, .int)] s := hK
  obtain ⟨hP, hD⟩ := zre [(mq, .inr (12, (.ref q_1 :: .int 0 :: .int 0 :: .ref q_3 :: .int 0 :: .int (-1) :: .int 0 :: .int 0 :: .int 0 :: .int 0 :: .int 0 :: .int 0 :: .int 0 :: .int 0 :: .int 0 :: .int 0 :: .int 0 :: .int 0 :: .int 0 :: .int 0 :: .int 0 :: .int 0 :: .int 0 :: .int 0 :: .ref q_5 :: .int 0 :: .int 0 :: .int 0 :: .ref q_7 :: .ref q_9 :: .ref q_11 :: .ref q_13 :: .ref q_15 :: .ref q_17 :: .ref q_19 :: .ref q_21 :: .ref q_23 :: .ref q_25 :: .null :: .null :: .null :: .null :: .null :: .null :: [.long 0, .null, .null, .int 0, .int 0, .int 0, .int 0, .int 0, .int 0, .long 0, .long 0, .null, .null, .int 0, .int 0, .int 0, .null, .null, .int 0, .int 0, .int 0, .null, .null, .int 0, .null, .null, .int 0, .int 0, .int 0, .null, .null, .null]))), (eA0 q_1 cA_2 900 (fun _ => 0)), (eA0 q_3 cA_4 118 (ym_w 118)), (eA0 q_5 cA_6 14 (fun _ => 0)), (eA0 q_7 cA_8 8 (fun _ => 0)), (eA0 q_9 cA_10 24 (fun _ => 0)), (eA0 q_11 cA_12 8 (fun _ => 0)), (eA0 q_13 cA_14 8 (fun _ => 0)), (eA0 q_15 cA_16 8 (fun _ => 0)), (eA0 q_17 cA_18 12 (fun _ => 0)), (eA1 q_19 cA_20 12 (fun _ => 0)), (eA1 q_21 cA_22 12 (fun _ => 0)), (eA0 q_23 cA_24 8 (fun _ => 0)), (eA1 q_25 cA_26 8 (fun _ => 0)), (eA0 q_27 cA_28 24 (fun _ => 0))] hP hD rfl
  refine W.widen (k := 14) (n := 1164) (by omega) (by omega) ?_
  refine va_putF (D := (dC, dI)) (ci := 12) (v := .ref q_27) (ty := tyX12 38) (C := RX12) (T := TX12) (N := 76) hx hb htw inlX12 tyX12 tyX12_ok nmX12 hown hK hP hD hS 0 rfl rfl 38 (by decide) (htw _ (ck_9 _ (List.mem_of_getElem? (i := 18) rfl))) (fun _ h9 => h9) rfl hin rfl (tyX12_ok 38 (by decide)) rfl rfl (Nat.le_of_ble_eq_true rfl) dX12_init_821 (fun H locs hP hD hS => ?_)
  obtain ⟨hP, hD⟩ := zre [(mq, .inr (12, (.ref q_1 :: .int 0 :: .int 0 :: .ref q_3 :: .int 0 :: .int (-1) :: .int 0 :: .int 0 :: .int 0 :: .int 0 :: .int 0 :: .int 0 :: .int 0 :: .int 0 :: .int 0 :: .int 0 :: .int 0 :: .int 0 :: .int 0 :: .int 0 :: .int 0 :: .int 0 :: .int 0 :: .int 0 :: .ref q_5 :: .int 0 :: .int 0 :: .int 0 :: .ref q_7 :: .ref q_9 :: .ref q_11 :: .ref q_13 :: .ref q_15 :: .ref q_17 :: .ref q_19 :: .ref q_21 :: .ref q_23 :: .ref q_25 :: .ref q_27 :: .null :: .null :: .null :: .null :: .null :: [.long 0, .null, .null, .int 0, .int 0, .int 0, .int 0, .int 0, .int 0, .long 0, .long 0, .null, .null, .int 0, .int 0, .int 0, .null, .null, .int 0, .int 0, .int 0, .null, .null, .int 0, .null, .null, .int 0, .int 0, .int 0, .null, .null, .null]))), (eA0 q_1 cA_2 900 (fun _ => 0)), (eA0 q_3 cA_4 118 (ym_w 118)), (eA0 q_5 cA_6 14 (fun _ => 0)), (eA0 q_7 cA_8 8 (fun _ => 0)), (eA0 q_9 cA_10 24 (fun _ => 0)), (eA0 q_11 cA_12 8 (fun _ => 0)), (eA0 q_13 cA_14 8 (fun _ => 0)), (eA0 q_15 cA_16 8 (fun _ => 0)), (eA0 q_17 cA_18 12 (fun _ => 0)), (eA1 q_19 cA_20 12 (fun _ => 0)), (eA1 q_21 cA_22 12 (fun _ => 0)), (eA0 q_23 cA_24 8 (fun _ => 0)), (eA1 q_25 cA_26 8 (fun _ => 0)), (eA0 q_27 cA_28 24 (fun _ => 0))] hP hD rfl
  refine lv_aload_n hx hb dX12_init_824 rfl (lv_at hl 0 rfl) ?_
  refine lv_bipush (v := 12) hx hb dX12_init_825 (by decide) ?_
  refine va_newa (ty := .int) (a0 := (12, .inl (fun _ => 0))) hx hb (htw _ (ck_2 _ (List.mem_of_getElem? (i := 7) rfl))) rfl hK hP hD hS hA (fun _ => rfl) (by decide) (by decide) (by decide) (Nat.le_of_ble_eq_true rfl) (Nat.le_of_ble_eq_true rfl) dX12_init_827 (fun q_29 cA_30 H hK hP hD hS => ?_)
  have hK : va_K (dC, dI) vwCl [(cA_2, .int), (cA_4, .int), (cA_6, .int), (cA_8, .int), (cA_10, .int), (cA_12, .int), (cA_14, .int), (cA_16, .int), (cA_18, .int), (cA_20, .long), (cA_22, .long), (cA_24, .int), (cA_26, .long), (cA_28, .int), (cA_30, .int)] s := hK
  obtain ⟨hP, hD⟩ := zre [(mq, .inr (12, (.ref q_1 :: .int 0 :: .int 0 :: .ref q_3 :: .int 0 :: .int (-1) :: .int 0 :: .int 0 :: .int 0 :: .int 0 :: .int 0 :: .int 0 :: .int 0 :: .int 0 :: .int 0 :: .int 0 :: .int 0 :: .int 0 :: .int 0 :: .int 0 :: .int 0 :: .int 0 :: .int 0 :: .int 0 :: .ref q_5 :: .int 0 :: .int 0 :: .int 0 :: .ref q_7 :: .ref q_9 :: .ref q_11 :: .ref q_13 :: .ref q_15 :: .ref q_17 :: .ref q_19 :: .ref q_21 :: .ref q_23 :: .ref q_25 :: .ref q_27 :: .null :: .null :: .null :: .null :: .null :: [.long 0, .null, .null, .int 0, .int 0, .int 0, .int 0, .int 0, .int 0, .long 0, .long 0, .null, .null, .int 0, .int 0, .int 0, .null, .null, .int 0, .int 0, .int 0, .null, .null, .int 0, .null, .null, .int 0, .int 0, .int 0, .null, .null, .null]))), (eA0 q_1 cA_2 900 (fun _ => 0)), (eA0 q_3 cA_4 118 (ym_w 118)), (eA0 q_5 cA_6 14 (fun _ => 0)), (eA0 q_7 cA_8 8 (fun _ => 0)), (eA0 q_9 cA_10 24 (fun _ => 0)), (eA0 q_11 cA_12 8 (fun _ => 0)), (eA0 q_13 cA_14 8 (fun _ => 0)), (eA0 q_15 cA_16 8 (fun _ => 0)), (eA0 q_17 cA_18 12 (fun _ => 0)), (eA1 q_19 cA_20 12 (fun _ => 0)), (eA1 q_21 cA_22 12 (fun _ => 0)), (eA0 q_23 cA_24 8 (fun _ => 0)), (eA1 q_25 cA_26 8 (fun _ => 0)), (eA0 q_27 cA_28 24 (fun _ => 0)), (eA0 q_29 cA_30 12 (fun _ => 0))] hP hD rfl
  refine W.widen (k := 15) (n := 1176) (by omega) (by omega) ?_
  refine va_putF (D := (dC, dI)) (ci := 12) (v := .ref q_29) (ty := tyX12 39) (C := RX12) (T := TX12) (N := 76) hx hb htw inlX12 tyX12 tyX12_ok nmX12 hown hK hP hD hS 0 rfl rfl 39 (by decide) (htw _ (ck_9 _ (List.mem_of_getElem? (i := 19) rfl))) (fun _ h9 => h9) rfl hin rfl (tyX12_ok 39 (by decide)) rfl rfl (Nat.le_of_ble_eq_true rfl) dX12_init_829 (fun H locs hP hD hS => ?_)
  obtain ⟨hP, hD⟩ := zre [(mq, .inr (12, (.ref q_1 :: .int 0 :: .int 0 :: .ref q_3 :: .int 0 :: .int (-1) :: .int 0 :: .int 0 :: .int 0 :: .int 0 :: .int 0 :: .int 0 :: .int 0 :: .int 0 :: .int 0 :: .int 0 :: .int 0 :: .int 0 :: .int 0 :: .int 0 :: .int 0 :: .int 0 :: .int 0 :: .int 0 :: .ref q_5 :: .int 0 :: .int 0 :: .int 0 :: .ref q_7 :: .ref q_9 :: .ref q_11 :: .ref q_13 :: .ref q_15 :: .ref q_17 :: .ref q_19 :: .ref q_21 :: .ref q_23 :: .ref q_25 :: .ref q_27 :: .ref q_29 :: .null :: .null :: .null :: .null :: [.long 0, .null, .null, .int 0, .int 0, .int 0, .int 0, .int 0, .int 0, .long 0, .long 0, .null, .null, .int 0, .int 0, .int 0, .null, .null, .int 0, .int 0, .int 0, .null, .null, .int 0, .null, .null, .int 0, .int 0, .int 0, .null, .null, .null]))), (eA0 q_1 cA_2 900 (fun _ => 0)), (eA0 q_3 cA_4 118 (ym_w 118)), (eA0 q_5 cA_6 14 (fun _ => 0)), (eA0 q_7 cA_8 8 (fun _ => 0)), (eA0 q_9 cA_10 24 (fun _ => 0)), (eA0 q_11 cA_12 8 (fun _ => 0)), (eA0 q_13 cA_14 8 (fun _ => 0)), (eA0 q_15 cA_16 8 (fun _ => 0)), (eA0 q_17 cA_18 12 (fun _ => 0)), (eA1 q_19 cA_20 12 (fun _ => 0)), (eA1 q_21 cA_22 12 (fun _ => 0)), (eA0 q_23 cA_24 8 (fun _ => 0)), (eA1 q_25 cA_26 8 (fun _ => 0)), (eA0 q_27 cA_28 24 (fun _ => 0)), (eA0 q_29 cA_30 12 (fun _ => 0))] hP hD rfl
  refine lv_aload_n hx hb dX12_init_832 rfl (lv_at hl 0 rfl) ?_
  refine lv_sipush (v := 264) hx hb dX12_init_833 (by decide) ?_
  refine va_newa (ty := .int) (a0 := (264, .inl (fun _ => 0))) hx hb (htw _ (ck_2 _ (List.mem_of_getElem? (i := 7) rfl))) rfl hK hP hD hS hA (fun _ => rfl) (by decide) (by decide) (by decide) (Nat.le_of_ble_eq_true rfl) (Nat.le_of_ble_eq_true rfl) dX12_init_836 (fun q_31 cA_32 H hK hP hD hS => ?_)
  have hK : va_K (dC, dI) vwCl [(cA_2, .int), (cA_4, .int), (cA_6, .int), (cA_8, .int), (cA_10, .int), (cA_12, .int), (cA_14, .int), (cA_16, .int), (cA_18, .int), (cA_20, .long), (cA_22, .long), (cA_24, .int), (cA_26, .long), (cA_28, .int), (cA_30, .int), (cA_32, .int)] s := hK
  obtain ⟨hP, hD⟩ := zre [(mq, .inr (12, (.ref q_1 :: .int 0 :: .int 0 :: .ref q_3 :: .int 0 :: .int (-1) :: .int 0 :: .int 0 :: .int 0 :: .int 0 :: .int 0 :: .int 0 :: .int 0 :: .int 0 :: .int 0 :: .int 0 :: .int 0 :: .int 0 :: .int 0 :: .int 0 :: .int 0 :: .int 0 :: .int 0 :: .int 0 :: .ref q_5 :: .int 0 :: .int 0 :: .int 0 :: .ref q_7 :: .ref q_9 :: .ref q_11 :: .ref q_13 :: .ref q_15 :: .ref q_17 :: .ref q_19 :: .ref q_21 :: .ref q_23 :: .ref q_25 :: .ref q_27 :: .ref q_29 :: .null :: .null :: .null :: .null :: [.long 0, .null, .null, .int 0, .int 0, .int 0, .int 0, .int 0, .int 0, .long 0, .long 0, .null, .null, .int 0, .int 0, .int 0, .null, .null, .int 0, .int 0, .int 0, .null, .null, .int 0, .null, .null, .int 0, .int 0, .int 0, .null, .null, .null]))), (eA0 q_1 cA_2 900 (fun _ => 0)), (eA0 q_3 cA_4 118 (ym_w 118)), (eA0 q_5 cA_6 14 (fun _ => 0)), (eA0 q_7 cA_8 8 (fun _ => 0)), (eA0 q_9 cA_10 24 (fun _ => 0)), (eA0 q_11 cA_12 8 (fun _ => 0)), (eA0 q_13 cA_14 8 (fun _ => 0)), (eA0 q_15 cA_16 8 (fun _ => 0)), (eA0 q_17 cA_18 12 (fun _ => 0)), (eA1 q_19 cA_20 12 (fun _ => 0)), (eA1 q_21 cA_22 12 (fun _ => 0)), (eA0 q_23 cA_24 8 (fun _ => 0)), (eA1 q_25 cA_26 8 (fun _ => 0)), (eA0 q_27 cA_28 24 (fun _ => 0)), (eA0 q_29 cA_30 12 (fun _ => 0)), (eA0 q_31 cA_32 264 (fun _ => 0))] hP hD rfl
  refine W.widen (k := 16) (n := 1440) (by omega) (by omega) ?_
  refine va_putF (D := (dC, dI)) (ci := 12) (v := .ref q_31) (ty := tyX12 40) (C := RX12) (T := TX12) (N := 76) hx hb htw inlX12 tyX12 tyX12_ok nmX12 hown hK hP hD hS 0 rfl rfl 40 (by decide) (htw _ (ck_9 _ (List.mem_of_getElem? (i := 20) rfl))) (fun _ h9 => h9) rfl hin rfl (tyX12_ok 40 (by decide)) rfl rfl (Nat.le_of_ble_eq_true rfl) dX12_init_838 (fun H locs hP hD hS => ?_)
  obtain ⟨hP, hD⟩ := zre [(mq, .inr (12, (.ref q_1 :: .int 0 :: .int 0 :: .ref q_3 :: .int 0 :: .int (-1) :: .int 0 :: .int 0 :: .int 0 :: .int 0 :: .int 0 :: .int 0 :: .int 0 :: .int 0 :: .int 0 :: .int 0 :: .int 0 :: .int 0 :: .int 0 :: .int 0 :: .int 0 :: .int 0 :: .int 0 :: .int 0 :: .ref q_5 :: .int 0 :: .int 0 :: .int 0 :: .ref q_7 :: .ref q_9 :: .ref q_11 :: .ref q_13 :: .ref q_15 :: .ref q_17 :: .ref q_19 :: .ref q_21 :: .ref q_23 :: .ref q_25 :: .ref q_27 :: .ref q_29 :: .ref q_31 :: .null :: .null :: .null :: [.long 0, .null, .null, .int 0, .int 0, .int 0, .int 0, .int 0, .int 0, .long 0, .long 0, .null, .null, .int 0, .int 0, .int 0, .null, .null, .int 0, .int 0, .int 0, .null, .null, .int 0, .null, .null, .int 0, .int 0, .int 0, .null, .null, .null]))), (eA0 q_1 cA_2 900 (fun _ => 0)), (eA0 q_3 cA_4 118 (ym_w 118)), (eA0 q_5 cA_6 14 (fun _ => 0)), (eA0 q_7 cA_8 8 (fun _ => 0)), (eA0 q_9 cA_10 24 (fun _ => 0)), (eA0 q_11 cA_12 8 (fun _ => 0)), (eA0 q_13 cA_14 8 (fun _ => 0)), (eA0 q_15 cA_16 8 (fun _ => 0)), (eA0 q_17 cA_18 12 (fun _ => 0)), (eA1 q_19 cA_20 12 (fun _ => 0)), (eA1 q_21 cA_22 12 (fun _ => 0)), (eA0 q_23 cA_24 8 (fun _ => 0)), (eA1 q_25 cA_26 8 (fun _ => 0)), (eA0 q_27 cA_28 24 (fun _ => 0)), (eA0 q_29 cA_30 12 (fun _ => 0)), (eA0 q_31 cA_32 264 (fun _ => 0))] hP hD rfl
  refine lv_aload_n hx hb dX12_init_841 rfl (lv_at hl 0 rfl) ?_
  refine lv_sipush (v := 128) hx hb dX12_init_842 (by decide) ?_
  refine va_newa (ty := .int) (a0 := (128, .inl (fun _ => 0))) hx hb (htw _ (ck_2 _ (List.mem_of_getElem? (i := 7) rfl))) rfl hK hP hD hS hA (fun _ => rfl) (by decide) (by decide) (by decide) (Nat.le_of_ble_eq_true rfl) (Nat.le_of_ble_eq_true rfl) dX12_init_845 (fun q_33 cA_34 H hK hP hD hS => ?_)
  have hK : va_K (dC, dI) vwCl [(cA_2, .int), (cA_4, .int), (cA_6, .int), (cA_8, .int), (cA_10, .int), (cA_12, .int), (cA_14, .int), (cA_16, .int), (cA_18, .int), (cA_20, .long), (cA_22, .long), (cA_24, .int), (cA_26, .long), (cA_28, .int), (cA_30, .int), (cA_32, .int), (cA_34, .int)] s := hK
  obtain ⟨hP, hD⟩ := zre [(mq, .inr (12, (.ref q_1 :: .int 0 :: .int 0 :: .ref q_3 :: .int 0 :: .int (-1) :: .int 0 :: .int 0 :: .int 0 :: .int 0 :: .int 0 :: .int 0 :: .int 0 :: .int 0 :: .int 0 :: .int 0 :: .int 0 :: .int 0 :: .int 0 :: .int 0 :: .int 0 :: .int 0 :: .int 0 :: .int 0 :: .ref q_5 :: .int 0 :: .int 0 :: .int 0 :: .ref q_7 :: .ref q_9 :: .ref q_11 :: .ref q_13 :: .ref q_15 :: .ref q_17 :: .ref q_19 :: .ref q_21 :: .ref q_23 :: .ref q_25 :: .ref q_27 :: .ref q_29 :: .ref q_31 :: .null :: .null :: .null :: [.long 0, .null, .null, .int 0, .int 0, .int 0, .int 0, .int 0, .int 0, .long 0, .long 0, .null, .null, .int 0, .int 0, .int 0, .null, .null, .int 0, .int 0, .int 0, .null, .null, .int 0, .null, .null, .int 0, .int 0, .int 0, .null, .null, .null]))), (eA0 q_1 cA_2 900 (fun _ => 0)), (eA0 q_3 cA_4 118 (ym_w 118)), (eA0 q_5 cA_6 14 (fun _ => 0)), (eA0 q_7 cA_8 8 (fun _ => 0)), (eA0 q_9 cA_10 24 (fun _ => 0)), (eA0 q_11 cA_12 8 (fun _ => 0)), (eA0 q_13 cA_14 8 (fun _ => 0)), (eA0 q_15 cA_16 8 (fun _ => 0)), (eA0 q_17 cA_18 12 (fun _ => 0)), (eA1 q_19 cA_20 12 (fun _ => 0)), (eA1 q_21 cA_22 12 (fun _ => 0)), (eA0 q_23 cA_24 8 (fun _ => 0)), (eA1 q_25 cA_26 8 (fun _ => 0)), (eA0 q_27 cA_28 24 (fun _ => 0)), (eA0 q_29 cA_30 12 (fun _ => 0)), (eA0 q_31 cA_32 264 (fun _ => 0)), (eA0 q_33 cA_34 128 (fun _ => 0))] hP hD rfl
  refine W.widen (k := 17) (n := 1568) (by omega) (by omega) ?_
  refine va_putF (D := (dC, dI)) (ci := 12) (v := .ref q_33) (ty := tyX12 41) (C := RX12) (T := TX12) (N := 76) hx hb htw inlX12 tyX12 tyX12_ok nmX12 hown hK hP hD hS 0 rfl rfl 41 (by decide) (htw _ (ck_9 _ (List.mem_of_getElem? (i := 21) rfl))) (fun _ h9 => h9) rfl hin rfl (tyX12_ok 41 (by decide)) rfl rfl (Nat.le_of_ble_eq_true rfl) dX12_init_847 (fun H locs hP hD hS => ?_)
  obtain ⟨hP, hD⟩ := zre [(mq, .inr (12, (.ref q_1 :: .int 0 :: .int 0 :: .ref q_3 :: .int 0 :: .int (-1) :: .int 0 :: .int 0 :: .int 0 :: .int 0 :: .int 0 :: .int 0 :: .int 0 :: .int 0 :: .int 0 :: .int 0 :: .int 0 :: .int 0 :: .int 0 :: .int 0 :: .int 0 :: .int 0 :: .int 0 :: .int 0 :: .ref q_5 :: .int 0 :: .int 0 :: .int 0 :: .ref q_7 :: .ref q_9 :: .ref q_11 :: .ref q_13 :: .ref q_15 :: .ref q_17 :: .ref q_19 :: .ref q_21 :: .ref q_23 :: .ref q_25 :: .ref q_27 :: .ref q_29 :: .ref q_31 :: .ref q_33 :: .null :: .null :: [.long 0, .null, .null, .int 0, .int 0, .int 0, .int 0, .int 0, .int 0, .long 0, .long 0, .null, .null, .int 0, .int 0, .int 0, .null, .null, .int 0, .int 0, .int 0, .null, .null, .int 0, .null, .null, .int 0, .int 0, .int 0, .null, .null, .null]))), (eA0 q_1 cA_2 900 (fun _ => 0)), (eA0 q_3 cA_4 118 (ym_w 118)), (eA0 q_5 cA_6 14 (fun _ => 0)), (eA0 q_7 cA_8 8 (fun _ => 0)), (eA0 q_9 cA_10 24 (fun _ => 0)), (eA0 q_11 cA_12 8 (fun _ => 0)), (eA0 q_13 cA_14 8 (fun _ => 0)), (eA0 q_15 cA_16 8 (fun _ => 0)), (eA0 q_17 cA_18 12 (fun _ => 0)), (eA1 q_19 cA_20 12 (fun _ => 0)), (eA1 q_21 cA_22 12 (fun _ => 0)), (eA0 q_23 cA_24 8 (fun _ => 0)), (eA1 q_25 cA_26 8 (fun _ => 0)), (eA0 q_27 cA_28 24 (fun _ => 0)), (eA0 q_29 cA_30 12 (fun _ => 0)), (eA0 q_31 cA_32 264 (fun _ => 0)), (eA0 q_33 cA_34 128 (fun _ => 0))] hP hD rfl
  refine lv_aload_n hx hb dX12_init_850 rfl (lv_at hl 0 rfl) ?_
  refine lv_sipush (v := 128) hx hb dX12_init_851 (by decide) ?_
  refine va_newa (ty := .int) (a0 := (128, .inl (fun _ => 0))) hx hb (htw _ (ck_2 _ (List.mem_of_getElem? (i := 7) rfl))) rfl hK hP hD hS hA (fun _ => rfl) (by decide) (by decide) (by decide) (Nat.le_of_ble_eq_true rfl) (Nat.le_of_ble_eq_true rfl) dX12_init_854 (fun q_35 cA_36 H hK hP hD hS => ?_)
  have hK : va_K (dC, dI) vwCl [(cA_2, .int), (cA_4, .int), (cA_6, .int), (cA_8, .int), (cA_10, .int), (cA_12, .int), (cA_14, .int), (cA_16, .int), (cA_18, .int), (cA_20, .long), (cA_22, .long), (cA_24, .int), (cA_26, .long), (cA_28, .int), (cA_30, .int), (cA_32, .int), (cA_34, .int), (cA_36, .int)] s := hK
  obtain ⟨hP, hD⟩ := zre [(mq, .inr (12, (.ref q_1 :: .int 0 :: .int 0 :: .ref q_3 :: .int 0 :: .int (-1) :: .int 0 :: .int 0 :: .int 0 :: .int 0 :: .int 0 :: .int 0 :: .int 0 :: .int 0 :: .int 0 :: .int 0 :: .int 0 :: .int 0 :: .int 0 :: .int 0 :: .int 0 :: .int 0 :: .int 0 :: .int 0 :: .ref q_5 :: .int 0 :: .int 0 :: .int 0 :: .ref q_7 :: .ref q_9 :: .ref q_11 :: .ref q_13 :: .ref q_15 :: .ref q_17 :: .ref q_19 :: .ref q_21 :: .ref q_23 :: .ref q_25 :: .ref q_27 :: .ref q_29 :: .ref q_31 :: .ref q_33 :: .null :: .null :: [.long 0, .null, .null, .int 0, .int 0, .int 0, .int 0, .int 0, .int 0, .long 0, .long 0, .null, .null, .int 0, .int 0, .int 0, .null, .null, .int 0, .int 0, .int 0, .null, .null, .int 0, .null, .null, .int 0, .int 0, .int 0, .null, .null, .null]))), (eA0 q_1 cA_2 900 (fun _ => 0)), (eA0 q_3 cA_4 118 (ym_w 118)), (eA0 q_5 cA_6 14 (fun _ => 0)), (eA0 q_7 cA_8 8 (fun _ => 0)), (eA0 q_9 cA_10 24 (fun _ => 0)), (eA0 q_11 cA_12 8 (fun _ => 0)), (eA0 q_13 cA_14 8 (fun _ => 0)), (eA0 q_15 cA_16 8 (fun _ => 0)), (eA0 q_17 cA_18 12 (fun _ => 0)), (eA1 q_19 cA_20 12 (fun _ => 0)), (eA1 q_21 cA_22 12 (fun _ => 0)), (eA0 q_23 cA_24 8 (fun _ => 0)), (eA1 q_25 cA_26 8 (fun _ => 0)), (eA0 q_27 cA_28 24 (fun _ => 0)), (eA0 q_29 cA_30 12 (fun _ => 0)), (eA0 q_31 cA_32 264 (fun _ => 0)), (eA0 q_33 cA_34 128 (fun _ => 0)), (eA0 q_35 cA_36 128 (fun _ => 0))] hP hD rfl
  refine W.widen (k := 18) (n := 1696) (by omega) (by omega) ?_
  refine va_putF (D := (dC, dI)) (ci := 12) (v := .ref q_35) (ty := tyX12 42) (C := RX12) (T := TX12) (N := 76) hx hb htw inlX12 tyX12 tyX12_ok nmX12 hown hK hP hD hS 0 rfl rfl 42 (by decide) (htw _ (ck_9 _ (List.mem_of_getElem? (i := 22) rfl))) (fun _ h9 => h9) rfl hin rfl (tyX12_ok 42 (by decide)) rfl rfl (Nat.le_of_ble_eq_true rfl) dX12_init_856 (fun H locs hP hD hS => ?_)
  obtain ⟨hP, hD⟩ := zre [(mq, .inr (12, (.ref q_1 :: .int 0 :: .int 0 :: .ref q_3 :: .int 0 :: .int (-1) :: .int 0 :: .int 0 :: .int 0 :: .int 0 :: .int 0 :: .int 0 :: .int 0 :: .int 0 :: .int 0 :: .int 0 :: .int 0 :: .int 0 :: .int 0 :: .int 0 :: .int 0 :: .int 0 :: .int 0 :: .int 0 :: .ref q_5 :: .int 0 :: .int 0 :: .int 0 :: .ref q_7 :: .ref q_9 :: .ref q_11 :: .ref q_13 :: .ref q_15 :: .ref q_17 :: .ref q_19 :: .ref q_21 :: .ref q_23 :: .ref q_25 :: .ref q_27 :: .ref q_29 :: .ref q_31 :: .ref q_33 :: .ref q_35 :: .null :: [.long 0, .null, .null, .int 0, .int 0, .int 0, .int 0, .int 0, .int 0, .long 0, .long 0, .null, .null, .int 0, .int 0, .int 0, .null, .null, .int 0, .int 0, .int 0, .null, .null, .int 0, .null, .null, .int 0, .int 0, .int 0, .null, .null, .null]))), (eA0 q_1 cA_2 900 (fun _ => 0)), (eA0 q_3 cA_4 118 (ym_w 118)), (eA0 q_5 cA_6 14 (fun _ => 0)), (eA0 q_7 cA_8 8 (fun _ => 0)), (eA0 q_9 cA_10 24 (fun _ => 0)), (eA0 q_11 cA_12 8 (fun _ => 0)), (eA0 q_13 cA_14 8 (fun _ => 0)), (eA0 q_15 cA_16 8 (fun _ => 0)), (eA0 q_17 cA_18 12 (fun _ => 0)), (eA1 q_19 cA_20 12 (fun _ => 0)), (eA1 q_21 cA_22 12 (fun _ => 0)), (eA0 q_23 cA_24 8 (fun _ => 0)), (eA1 q_25 cA_26 8 (fun _ => 0)), (eA0 q_27 cA_28 24 (fun _ => 0)), (eA0 q_29 cA_30 12 (fun _ => 0)), (eA0 q_31 cA_32 264 (fun _ => 0)), (eA0 q_33 cA_34 128 (fun _ => 0)), (eA0 q_35 cA_36 128 (fun _ => 0))] hP hD rfl
  refine lv_aload_n hx hb dX12_init_859 rfl (lv_at hl 0 rfl) ?_
  refine lv_sipush (v := 128) hx hb dX12_init_860 (by decide) ?_
  refine va_newa (ty := .int) (a0 := (128, .inl (fun _ => 0))) hx hb (htw _ (ck_2 _ (List.mem_of_getElem? (i := 7) rfl))) rfl hK hP hD hS hA (fun _ => rfl) (by decide) (by decide) (by decide) (Nat.le_of_ble_eq_true rfl) (Nat.le_of_ble_eq_true rfl) dX12_init_863 (fun q_37 cA_38 H hK hP hD hS => ?_)
  have hK : va_K (dC, dI) vwCl [(cA_2, .int), (cA_4, .int), (cA_6, .int), (cA_8, .int), (cA_10, .int), (cA_12, .int), (cA_14, .int), (cA_16, .int), (cA_18, .int), (cA_20, .long), (cA_22, .long), (cA_24, .int), (cA_26, .long), (cA_28, .int), (cA_30, .int), (cA_32, .int), (cA_34, .int), (cA_36, .int), (cA_38, .int)] s := hK
  obtain ⟨hP, hD⟩ := zre [(mq, .inr (12, (.ref q_1 :: .int 0 :: .int 0 :: .ref q_3 :: .int 0 :: .int (-1) :: .int 0 :: .int 0 :: .int 0 :: .int 0 :: .int 0 :: .int 0 :: .int 0 :: .int 0 :: .int 0 :: .int 0 :: .int 0 :: .int 0 :: .int 0 :: .int 0 :: .int 0 :: .int 0 :: .int 0 :: .int 0 :: .ref q_5 :: .int 0 :: .int 0 :: .int 0 :: .ref q_7 :: .ref q_9 :: .ref q_11 :: .ref q_13 :: .ref q_15 :: .ref q_17 :: .ref q_19 :: .ref q_21 :: .ref q_23 :: .ref q_25 :: .ref q_27 :: .ref q_29 :: .ref q_31 :: .ref q_33 :: .ref q_35 :: .null :: [.long 0, .null, .null, .int 0, .int 0, .int 0, .int 0, .int 0, .int 0, .long 0, .long 0, .null, .null, .int 0, .int 0, .int 0, .null, .null, .int 0, .int 0, .int 0, .null, .null, .int 0, .null, .null, .int 0, .int 0, .int 0, .null, .null, .null]))), (eA0 q_1 cA_2 900 (fun _ => 0)), (eA0 q_3 cA_4 118 (ym_w 118)), (eA0 q_5 cA_6 14 (fun _ => 0)), (eA0 q_7 cA_8 8 (fun _ => 0)), (eA0 q_9 cA_10 24 (fun _ => 0)), (eA0 q_11 cA_12 8 (fun _ => 0)), (eA0 q_13 cA_14 8 (fun _ => 0)), (eA0 q_15 cA_16 8 (fun _ => 0)), (eA0 q_17 cA_18 12 (fun _ => 0)), (eA1 q_19 cA_20 12 (fun _ => 0)), (eA1 q_21 cA_22 12 (fun _ => 0)), (eA0 q_23 cA_24 8 (fun _ => 0)), (eA1 q_25 cA_26 8 (fun _ => 0)), (eA0 q_27 cA_28 24 (fun _ => 0)), (eA0 q_29 cA_30 12 (fun _ => 0)), (eA0 q_31 cA_32 264 (fun _ => 0)), (eA0 q_33 cA_34 128 (fun _ => 0)), (eA0 q_35 cA_36 128 (fun _ => 0)), (eA0 q_37 cA_38 128 (fun _ => 0))] hP hD rfl
  refine W.widen (k := 19) (n := 1824) (by omega) (by omega) ?_
  refine va_putF (D := (dC, dI)) (ci := 12) (v := .ref q_37) (ty := tyX12 43) (C := RX12) (T := TX12) (N := 76) hx hb htw inlX12 tyX12 tyX12_ok nmX12 hown hK hP hD hS 0 rfl rfl 43 (by decide) (htw _ (ck_9 _ (List.mem_of_getElem? (i := 23) rfl))) (fun _ h9 => h9) rfl hin rfl (tyX12_ok 43 (by decide)) rfl rfl (Nat.le_of_ble_eq_true rfl) dX12_init_865 (fun H locs hP hD hS => ?_)
  obtain ⟨hP, hD⟩ := zre [(mq, .inr (12, (.ref q_1 :: .int 0 :: .int 0 :: .ref q_3 :: .int 0 :: .int (-1) :: .int 0 :: .int 0 :: .int 0 :: .int 0 :: .int 0 :: .int 0 :: .int 0 :: .int 0 :: .int 0 :: .int 0 :: .int 0 :: .int 0 :: .int 0 :: .int 0 :: .int 0 :: .int 0 :: .int 0 :: .int 0 :: .ref q_5 :: .int 0 :: .int 0 :: .int 0 :: .ref q_7 :: .ref q_9 :: .ref q_11 :: .ref q_13 :: .ref q_15 :: .ref q_17 :: .ref q_19 :: .ref q_21 :: .ref q_23 :: .ref q_25 :: .ref q_27 :: .ref q_29 :: .ref q_31 :: .ref q_33 :: .ref q_35 :: .ref q_37 :: [.long 0, .null, .null, .int 0, .int 0, .int 0, .int 0, .int 0, .int 0, .long 0, .long 0, .null, .null, .int 0, .int 0, .int 0, .null, .null, .int 0, .int 0, .int 0, .null, .null, .int 0, .null, .null, .int 0, .int 0, .int 0, .null, .null, .null]))), (eA0 q_1 cA_2 900 (fun _ => 0)), (eA0 q_3 cA_4 118 (ym_w 118)), (eA0 q_5 cA_6 14 (fun _ => 0)), (eA0 q_7 cA_8 8 (fun _ => 0)), (eA0 q_9 cA_10 24 (fun _ => 0)), (eA0 q_11 cA_12 8 (fun _ => 0)), (eA0 q_13 cA_14 8 (fun _ => 0)), (eA0 q_15 cA_16 8 (fun _ => 0)), (eA0 q_17 cA_18 12 (fun _ => 0)), (eA1 q_19 cA_20 12 (fun _ => 0)), (eA1 q_21 cA_22 12 (fun _ => 0)), (eA0 q_23 cA_24 8 (fun _ => 0)), (eA1 q_25 cA_26 8 (fun _ => 0)), (eA0 q_27 cA_28 24 (fun _ => 0)), (eA0 q_29 cA_30 12 (fun _ => 0)), (eA0 q_31 cA_32 264 (fun _ => 0)), (eA0 q_33 cA_34 128 (fun _ => 0)), (eA0 q_35 cA_36 128 (fun _ => 0)), (eA0 q_37 cA_38 128 (fun _ => 0))] hP hD rfl
  refine lv_aload_n hx hb dX12_init_868 rfl (lv_at hl 0 rfl) ?_
  refine lv_bipush (v := 96) hx hb dX12_init_869 (by decide) ?_
  refine va_newa (ty := .int) (a0 := (96, .inl (fun _ => 0))) hx hb (htw _ (ck_2 _ (List.mem_of_getElem? (i := 7) rfl))) rfl hK hP hD hS hA (fun _ => rfl) (by decide) (by decide) (by decide) (Nat.le_of_ble_eq_true rfl) (Nat.le_of_ble_eq_true rfl) dX12_init_871 (fun q_39 cA_40 H hK hP hD hS => ?_)
  have hK : va_K (dC, dI) vwCl [(cA_2, .int), (cA_4, .int), (cA_6, .int), (cA_8, .int), (cA_10, .int), (cA_12, .int), (cA_14, .int), (cA_16, .int), (cA_18, .int), (cA_20, .long), (cA_22, .long), (cA_24, .int), (cA_26, .long), (cA_28, .int), (cA_30, .int), (cA_32, .int), (cA_34, .int), (cA_36, .int), (cA_38, .int), (cA_40, .int)] s := hK
  obtain ⟨hP, hD⟩ := zre [(mq, .inr (12, (.ref q_1 :: .int 0 :: .int 0 :: .ref q_3 :: .int 0 :: .int (-1) :: .int 0 :: .int 0 :: .int 0 :: .int 0 :: .int 0 :: .int 0 :: .int 0 :: .int 0 :: .int 0 :: .int 0 :: .int 0 :: .int 0 :: .int 0 :: .int 0 :: .int 0 :: .int 0 :: .int 0 :: .int 0 :: .ref q_5 :: .int 0 :: .int 0 :: .int 0 :: .ref q_7 :: .ref q_9 :: .ref q_11 :: .ref q_13 :: .ref q_15 :: .ref q_17 :: .ref q_19 :: .ref q_21 :: .ref q_23 :: .ref q_25 :: .ref q_27 :: .ref q_29 :: .ref q_31 :: .ref q_33 :: .ref q_35 :: .ref q_37 :: [.long 0, .null, .null, .int 0, .int 0, .int 0, .int 0, .int 0, .int 0, .long 0, .long 0, .null, .null, .int 0, .int 0, .int 0, .null, .null, .int 0, .int 0, .int 0, .null, .null, .int 0, .null, .null, .int 0, .int 0, .int 0, .null, .null, .null]))), (eA0 q_1 cA_2 900 (fun _ => 0)), (eA0 q_3 cA_4 118 (ym_w 118)), (eA0 q_5 cA_6 14 (fun _ => 0)), (eA0 q_7 cA_8 8 (fun _ => 0)), (eA0 q_9 cA_10 24 (fun _ => 0)), (eA0 q_11 cA_12 8 (fun _ => 0)), (eA0 q_13 cA_14 8 (fun _ => 0)), (eA0 q_15 cA_16 8 (fun _ => 0)), (eA0 q_17 cA_18 12 (fun _ => 0)), (eA1 q_19 cA_20 12 (fun _ => 0)), (eA1 q_21 cA_22 12 (fun _ => 0)), (eA0 q_23 cA_24 8 (fun _ => 0)), (eA1 q_25 cA_26 8 (fun _ => 0)), (eA0 q_27 cA_28 24 (fun _ => 0)), (eA0 q_29 cA_30 12 (fun _ => 0)), (eA0 q_31 cA_32 264 (fun _ => 0)), (eA0 q_33 cA_34 128 (fun _ => 0)), (eA0 q_35 cA_36 128 (fun _ => 0)), (eA0 q_37 cA_38 128 (fun _ => 0)), (eA0 q_39 cA_40 96 (fun _ => 0))] hP hD rfl
  refine W.widen (k := 20) (n := 1920) (by omega) (by omega) ?_
  refine va_putF (D := (dC, dI)) (ci := 12) (v := .ref q_39) (ty := tyX12 45) (C := RX12) (T := TX12) (N := 76) hx hb htw inlX12 tyX12 tyX12_ok nmX12 hown hK hP hD hS 0 rfl rfl 45 (by decide) (htw _ (ck_10 _ (List.mem_of_getElem? (i := 0) rfl))) (fun _ h9 => h9) rfl hin rfl (tyX12_ok 45 (by decide)) rfl rfl (Nat.le_of_ble_eq_true rfl) dX12_init_873 (fun H locs hP hD hS => ?_)
  obtain ⟨hP, hD⟩ := zre [(mq, .inr (12, (.ref q_1 :: .int 0 :: .int 0 :: .ref q_3 :: .int 0 :: .int (-1) :: .int 0 :: .int 0 :: .int 0 :: .int 0 :: .int 0 :: .int 0 :: .int 0 :: .int 0 :: .int 0 :: .int 0 :: .int 0 :: .int 0 :: .int 0 :: .int 0 :: .int 0 :: .int 0 :: .int 0 :: .int 0 :: .ref q_5 :: .int 0 :: .int 0 :: .int 0 :: .ref q_7 :: .ref q_9 :: .ref q_11 :: .ref q_13 :: .ref q_15 :: .ref q_17 :: .ref q_19 :: .ref q_21 :: .ref q_23 :: .ref q_25 :: .ref q_27 :: .ref q_29 :: .ref q_31 :: .ref q_33 :: .ref q_35 :: .ref q_37 :: [.long 0, .ref q_39, .null, .int 0, .int 0, .int 0, .int 0, .int 0, .int 0, .long 0, .long 0, .null, .null, .int 0, .int 0, .int 0, .null, .null, .int 0, .int 0, .int 0, .null, .null, .int 0, .null, .null, .int 0, .int 0, .int 0, .null, .null, .null]))), (eA0 q_1 cA_2 900 (fun _ => 0)), (eA0 q_3 cA_4 118 (ym_w 118)), (eA0 q_5 cA_6 14 (fun _ => 0)), (eA0 q_7 cA_8 8 (fun _ => 0)), (eA0 q_9 cA_10 24 (fun _ => 0)), (eA0 q_11 cA_12 8 (fun _ => 0)), (eA0 q_13 cA_14 8 (fun _ => 0)), (eA0 q_15 cA_16 8 (fun _ => 0)), (eA0 q_17 cA_18 12 (fun _ => 0)), (eA1 q_19 cA_20 12 (fun _ => 0)), (eA1 q_21 cA_22 12 (fun _ => 0)), (eA0 q_23 cA_24 8 (fun _ => 0)), (eA1 q_25 cA_26 8 (fun _ => 0)), (eA0 q_27 cA_28 24 (fun _ => 0)), (eA0 q_29 cA_30 12 (fun _ => 0)), (eA0 q_31 cA_32 264 (fun _ => 0)), (eA0 q_33 cA_34 128 (fun _ => 0)), (eA0 q_35 cA_36 128 (fun _ => 0)), (eA0 q_37 cA_38 128 (fun _ => 0)), (eA0 q_39 cA_40 96 (fun _ => 0))] hP hD rfl
  refine lv_aload_n hx hb dX12_init_876 rfl (lv_at hl 0 rfl) ?_
  refine lv_bipush (v := 96) hx hb dX12_init_877 (by decide) ?_
  refine va_newa (ty := .int) (a0 := (96, .inl (fun _ => 0))) hx hb (htw _ (ck_2 _ (List.mem_of_getElem? (i := 7) rfl))) rfl hK hP hD hS hA (fun _ => rfl) (by decide) (by decide) (by decide) (Nat.le_of_ble_eq_true rfl) (Nat.le_of_ble_eq_true rfl) dX12_init_879 (fun q_41 cA_42 H hK hP hD hS => ?_)
  have hK : va_K (dC, dI) vwCl [(cA_2, .int), (cA_4, .int), (cA_6, .int), (cA_8, .int), (cA_10, .int), (cA_12, .int), (cA_14, .int), (cA_16, .int), (cA_18, .int), (cA_20, .long), (cA_22, .long), (cA_24, .int), (cA_26, .long), (cA_28, .int), (cA_30, .int), (cA_32, .int), (cA_34, .int), (cA_36, .int), (cA_38, .int), (cA_40, .int), (cA_42, .int)] s := hK
  obtain ⟨hP, hD⟩ := zre [(mq, .inr (12, (.ref q_1 :: .int 0 :: .int 0 :: .ref q_3 :: .int 0 :: .int (-1) :: .int 0 :: .int 0 :: .int 0 :: .int 0 :: .int 0 :: .int 0 :: .int 0 :: .int 0 :: .int 0 :: .int 0 :: .int 0 :: .int 0 :: .int 0 :: .int 0 :: .int 0 :: .int 0 :: .int 0 :: .int 0 :: .ref q_5 :: .int 0 :: .int 0 :: .int 0 :: .ref q_7 :: .ref q_9 :: .ref q_11 :: .ref q_13 :: .ref q_15 :: .ref q_17 :: .ref q_19 :: .ref q_21 :: .ref q_23 :: .ref q_25 :: .ref q_27 :: .ref q_29 :: .ref q_31 :: .ref q_33 :: .ref q_35 :: .ref q_37 :: [.long 0, .ref q_39, .null, .int 0, .int 0, .int 0, .int 0, .int 0, .int 0, .long 0, .long 0, .null, .null, .int 0, .int 0, .int 0, .null, .null, .int 0, .int 0, .int 0, .null, .null, .int 0, .null, .null, .int 0, .int 0, .int 0, .null, .null, .null]))), (eA0 q_1 cA_2 900 (fun _ => 0)), (eA0 q_3 cA_4 118 (ym_w 118)), (eA0 q_5 cA_6 14 (fun _ => 0)), (eA0 q_7 cA_8 8 (fun _ => 0)), (eA0 q_9 cA_10 24 (fun _ => 0)), (eA0 q_11 cA_12 8 (fun _ => 0)), (eA0 q_13 cA_14 8 (fun _ => 0)), (eA0 q_15 cA_16 8 (fun _ => 0)), (eA0 q_17 cA_18 12 (fun _ => 0)), (eA1 q_19 cA_20 12 (fun _ => 0)), (eA1 q_21 cA_22 12 (fun _ => 0)), (eA0 q_23 cA_24 8 (fun _ => 0)), (eA1 q_25 cA_26 8 (fun _ => 0)), (eA0 q_27 cA_28 24 (fun _ => 0)), (eA0 q_29 cA_30 12 (fun _ => 0)), (eA0 q_31 cA_32 264 (fun _ => 0)), (eA0 q_33 cA_34 128 (fun _ => 0)), (eA0 q_35 cA_36 128 (fun _ => 0)), (eA0 q_37 cA_38 128 (fun _ => 0)), (eA0 q_39 cA_40 96 (fun _ => 0)), (eA0 q_41 cA_42 96 (fun _ => 0))] hP hD rfl
  refine W.widen (k := 21) (n := 2016) (by omega) (by omega) ?_
  refine va_putF (D := (dC, dI)) (ci := 12) (v := .ref q_41) (ty := tyX12 46) (C := RX12) (T := TX12) (N := 76) hx hb htw inlX12 tyX12 tyX12_ok nmX12 hown hK hP hD hS 0 rfl rfl 46 (by decide) (htw _ (ck_10 _ (List.mem_of_getElem? (i := 1) rfl))) (fun _ h9 => h9) rfl hin rfl (tyX12_ok 46 (by decide)) rfl rfl (Nat.le_of_ble_eq_true rfl) dX12_init_881 (fun H locs hP hD hS => ?_)
  obtain ⟨hP, hD⟩ := zre [(mq, .inr (12, (.ref q_1 :: .int 0 :: .int 0 :: .ref q_3 :: .int 0 :: .int (-1) :: .int 0 :: .int 0 :: .int 0 :: .int 0 :: .int 0 :: .int 0 :: .int 0 :: .int 0 :: .int 0 :: .int 0 :: .int 0 :: .int 0 :: .int 0 :: .int 0 :: .int 0 :: .int 0 :: .int 0 :: .int 0 :: .ref q_5 :: .int 0 :: .int 0 :: .int 0 :: .ref q_7 :: .ref q_9 :: .ref q_11 :: .ref q_13 :: .ref q_15 :: .ref q_17 :: .ref q_19 :: .ref q_21 :: .ref q_23 :: .ref q_25 :: .ref q_27 :: .ref q_29 :: .ref q_31 :: .ref q_33 :: .ref q_35 :: .ref q_37 :: [.long 0, .ref q_39, .ref q_41, .int 0, .int 0, .int 0, .int 0, .int 0, .int 0, .long 0, .long 0, .null, .null, .int 0, .int 0, .int 0, .null, .null, .int 0, .int 0, .int 0, .null, .null, .int 0, .null, .null, .int 0, .int 0, .int 0, .null, .null, .null]))), (eA0 q_1 cA_2 900 (fun _ => 0)), (eA0 q_3 cA_4 118 (ym_w 118)), (eA0 q_5 cA_6 14 (fun _ => 0)), (eA0 q_7 cA_8 8 (fun _ => 0)), (eA0 q_9 cA_10 24 (fun _ => 0)), (eA0 q_11 cA_12 8 (fun _ => 0)), (eA0 q_13 cA_14 8 (fun _ => 0)), (eA0 q_15 cA_16 8 (fun _ => 0)), (eA0 q_17 cA_18 12 (fun _ => 0)), (eA1 q_19 cA_20 12 (fun _ => 0)), (eA1 q_21 cA_22 12 (fun _ => 0)), (eA0 q_23 cA_24 8 (fun _ => 0)), (eA1 q_25 cA_26 8 (fun _ => 0)), (eA0 q_27 cA_28 24 (fun _ => 0)), (eA0 q_29 cA_30 12 (fun _ => 0)), (eA0 q_31 cA_32 264 (fun _ => 0)), (eA0 q_33 cA_34 128 (fun _ => 0)), (eA0 q_35 cA_36 128 (fun _ => 0)), (eA0 q_37 cA_38 128 (fun _ => 0)), (eA0 q_39 cA_40 96 (fun _ => 0)), (eA0 q_41 cA_42 96 (fun _ => 0))] hP hD rfl
  refine lv_aload_n hx hb dX12_init_884 rfl (lv_at hl 0 rfl) ?_
  refine lv_bipush (v := 6) hx hb dX12_init_885 (by decide) ?_
  refine va_newa (ty := .long) (a0 := (6, .inr (.inl (fun _ => 0)))) hx hb (htw _ (ck_1 _ (List.mem_of_getElem? (i := 6) rfl))) rfl hK hP hD hS hA (fun _ => rfl) (by decide) (by decide) (by decide) (Nat.le_of_ble_eq_true rfl) (Nat.le_of_ble_eq_true rfl) dX12_init_887 (fun q_43 cA_44 H hK hP hD hS => ?_)
  have hK : va_K (dC, dI) vwCl [(cA_2, .int), (cA_4, .int), (cA_6, .int), (cA_8, .int), (cA_10, .int), (cA_12, .int), (cA_14, .int), (cA_16, .int), (cA_18, .int), (cA_20, .long), (cA_22, .long), (cA_24, .int), (cA_26, .long), (cA_28, .int), (cA_30, .int), (cA_32, .int), (cA_34, .int), (cA_36, .int), (cA_38, .int), (cA_40, .int), (cA_42, .int), (cA_44, .long)] s := hK
  obtain ⟨hP, hD⟩ := zre [(mq, .inr (12, (.ref q_1 :: .int 0 :: .int 0 :: .ref q_3 :: .int 0 :: .int (-1) :: .int 0 :: .int 0 :: .int 0 :: .int 0 :: .int 0 :: .int 0 :: .int 0 :: .int 0 :: .int 0 :: .int 0 :: .int 0 :: .int 0 :: .int 0 :: .int 0 :: .int 0 :: .int 0 :: .int 0 :: .int 0 :: .ref q_5 :: .int 0 :: .int 0 :: .int 0 :: .ref q_7 :: .ref q_9 :: .ref q_11 :: .ref q_13 :: .ref q_15 :: .ref q_17 :: .ref q_19 :: .ref q_21 :: .ref q_23 :: .ref q_25 :: .ref q_27 :: .ref q_29 :: .ref q_31 :: .ref q_33 :: .ref q_35 :: .ref q_37 :: [.long 0, .ref q_39, .ref q_41, .int 0, .int 0, .int 0, .int 0, .int 0, .int 0, .long 0, .long 0, .null, .null, .int 0, .int 0, .int 0, .null, .null, .int 0, .int 0, .int 0, .null, .null, .int 0, .null, .null, .int 0, .int 0, .int 0, .null, .null, .null]))), (eA0 q_1 cA_2 900 (fun _ => 0)), (eA0 q_3 cA_4 118 (ym_w 118)), (eA0 q_5 cA_6 14 (fun _ => 0)), (eA0 q_7 cA_8 8 (fun _ => 0)), (eA0 q_9 cA_10 24 (fun _ => 0)), (eA0 q_11 cA_12 8 (fun _ => 0)), (eA0 q_13 cA_14 8 (fun _ => 0)), (eA0 q_15 cA_16 8 (fun _ => 0)), (eA0 q_17 cA_18 12 (fun _ => 0)), (eA1 q_19 cA_20 12 (fun _ => 0)), (eA1 q_21 cA_22 12 (fun _ => 0)), (eA0 q_23 cA_24 8 (fun _ => 0)), (eA1 q_25 cA_26 8 (fun _ => 0)), (eA0 q_27 cA_28 24 (fun _ => 0)), (eA0 q_29 cA_30 12 (fun _ => 0)), (eA0 q_31 cA_32 264 (fun _ => 0)), (eA0 q_33 cA_34 128 (fun _ => 0)), (eA0 q_35 cA_36 128 (fun _ => 0)), (eA0 q_37 cA_38 128 (fun _ => 0)), (eA0 q_39 cA_40 96 (fun _ => 0)), (eA0 q_41 cA_42 96 (fun _ => 0)), (eA1 q_43 cA_44 6 (fun _ => 0))] hP hD rfl
  refine W.widen (k := 22) (n := 2022) (by omega) (by omega) ?_
  refine va_putF (D := (dC, dI)) (ci := 12) (v := .ref q_43) (ty := tyX12 55) (C := RX12) (T := TX12) (N := 76) hx hb htw inlX12 tyX12 tyX12_ok nmX12 hown hK hP hD hS 0 rfl rfl 55 (by decide) (htw _ (ck_10 _ (List.mem_of_getElem? (i := 2) rfl))) (fun _ h9 => h9) rfl hin rfl (tyX12_ok 55 (by decide)) rfl rfl (Nat.le_of_ble_eq_true rfl) dX12_init_889 (fun H locs hP hD hS => ?_)
  obtain ⟨hP, hD⟩ := zre [(mq, .inr (12, (.ref q_1 :: .int 0 :: .int 0 :: .ref q_3 :: .int 0 :: .int (-1) :: .int 0 :: .int 0 :: .int 0 :: .int 0 :: .int 0 :: .int 0 :: .int 0 :: .int 0 :: .int 0 :: .int 0 :: .int 0 :: .int 0 :: .int 0 :: .int 0 :: .int 0 :: .int 0 :: .int 0 :: .int 0 :: .ref q_5 :: .int 0 :: .int 0 :: .int 0 :: .ref q_7 :: .ref q_9 :: .ref q_11 :: .ref q_13 :: .ref q_15 :: .ref q_17 :: .ref q_19 :: .ref q_21 :: .ref q_23 :: .ref q_25 :: .ref q_27 :: .ref q_29 :: .ref q_31 :: .ref q_33 :: .ref q_35 :: .ref q_37 :: [.long 0, .ref q_39, .ref q_41, .int 0, .int 0, .int 0, .int 0, .int 0, .int 0, .long 0, .long 0, .ref q_43, .null, .int 0, .int 0, .int 0, .null, .null, .int 0, .int 0, .int 0, .null, .null, .int 0, .null, .null, .int 0, .int 0, .int 0, .null, .null, .null]))), (eA0 q_1 cA_2 900 (fun _ => 0)), (eA0 q_3 cA_4 118 (ym_w 118)), (eA0 q_5 cA_6 14 (fun _ => 0)), (eA0 q_7 cA_8 8 (fun _ => 0)), (eA0 q_9 cA_10 24 (fun _ => 0)), (eA0 q_11 cA_12 8 (fun _ => 0)), (eA0 q_13 cA_14 8 (fun _ => 0)), (eA0 q_15 cA_16 8 (fun _ => 0)), (eA0 q_17 cA_18 12 (fun _ => 0)), (eA1 q_19 cA_20 12 (fun _ => 0)), (eA1 q_21 cA_22 12 (fun _ => 0)), (eA0 q_23 cA_24 8 (fun _ => 0)), (eA1 q_25 cA_26 8 (fun _ => 0)), (eA0 q_27 cA_28 24 (fun _ => 0)), (eA0 q_29 cA_30 12 (fun _ => 0)), (eA0 q_31 cA_32 264 (fun _ => 0)), (eA0 q_33 cA_34 128 (fun _ => 0)), (eA0 q_35 cA_36 128 (fun _ => 0)), (eA0 q_37 cA_38 128 (fun _ => 0)), (eA0 q_39 cA_40 96 (fun _ => 0)), (eA0 q_41 cA_42 96 (fun _ => 0)), (eA1 q_43 cA_44 6 (fun _ => 0))] hP hD rfl
  refine lv_aload_n hx hb dX12_init_892 rfl (lv_at hl 0 rfl) ?_
  refine lv_bipush (v := 64) hx hb dX12_init_893 (by decide) ?_
  refine va_newa (ty := .long) (a0 := (64, .inr (.inl (fun _ => 0)))) hx hb (htw _ (ck_1 _ (List.mem_of_getElem? (i := 6) rfl))) rfl hK hP hD hS hA (fun _ => rfl) (by decide) (by decide) (by decide) (Nat.le_of_ble_eq_true rfl) (Nat.le_of_ble_eq_true rfl) dX12_init_895 (fun q_45 cA_46 H hK hP hD hS => ?_)
  have hK : va_K (dC, dI) vwCl [(cA_2, .int), (cA_4, .int), (cA_6, .int), (cA_8, .int), (cA_10, .int), (cA_12, .int), (cA_14, .int), (cA_16, .int), (cA_18, .int), (cA_20, .long), (cA_22, .long), (cA_24, .int), (cA_26, .long), (cA_28, .int), (cA_30, .int), (cA_32, .int), (cA_34, .int), (cA_36, .int), (cA_38, .int), (cA_40, .int), (cA_42, .int), (cA_44, .long), (cA_46, .long)] s := hK
  obtain ⟨hP, hD⟩ := zre [(mq, .inr (12, (.ref q_1 :: .int 0 :: .int 0 :: .ref q_3 :: .int 0 :: .int (-1) :: .int 0 :: .int 0 :: .int 0 :: .int 0 :: .int 0 :: .int 0 :: .int 0 :: .int 0 :: .int 0 :: .int 0 :: .int 0 :: .int 0 :: .int 0 :: .int 0 :: .int 0 :: .int 0 :: .int 0 :: .int 0 :: .ref q_5 :: .int 0 :: .int 0 :: .int 0 :: .ref q_7 :: .ref q_9 :: .ref q_11 :: .ref q_13 :: .ref q_15 :: .ref q_17 :: .ref q_19 :: .ref q_21 :: .ref q_23 :: .ref q_25 :: .ref q_27 :: .ref q_29 :: .ref q_31 :: .ref q_33 :: .ref q_35 :: .ref q_37 :: [.long 0, .ref q_39, .ref q_41, .int 0, .int 0, .int 0, .int 0, .int 0, .int 0, .long 0, .long 0, .ref q_43, .null, .int 0, .int 0, .int 0, .null, .null, .int 0, .int 0, .int 0, .null, .null, .int 0, .null, .null, .int 0, .int 0, .int 0, .null, .null, .null]))), (eA0 q_1 cA_2 900 (fun _ => 0)), (eA0 q_3 cA_4 118 (ym_w 118)), (eA0 q_5 cA_6 14 (fun _ => 0)), (eA0 q_7 cA_8 8 (fun _ => 0)), (eA0 q_9 cA_10 24 (fun _ => 0)), (eA0 q_11 cA_12 8 (fun _ => 0)), (eA0 q_13 cA_14 8 (fun _ => 0)), (eA0 q_15 cA_16 8 (fun _ => 0)), (eA0 q_17 cA_18 12 (fun _ => 0)), (eA1 q_19 cA_20 12 (fun _ => 0)), (eA1 q_21 cA_22 12 (fun _ => 0)), (eA0 q_23 cA_24 8 (fun _ => 0)), (eA1 q_25 cA_26 8 (fun _ => 0)), (eA0 q_27 cA_28 24 (fun _ => 0)), (eA0 q_29 cA_30 12 (fun _ => 0)), (eA0 q_31 cA_32 264 (fun _ => 0)), (eA0 q_33 cA_34 128 (fun _ => 0)), (eA0 q_35 cA_36 128 (fun _ => 0)), (eA0 q_37 cA_38 128 (fun _ => 0)), (eA0 q_39 cA_40 96 (fun _ => 0)), (eA0 q_41 cA_42 96 (fun _ => 0)), (eA1 q_43 cA_44 6 (fun _ => 0)), (eA1 q_45 cA_46 64 (fun _ => 0))] hP hD rfl
  refine W.widen (k := 23) (n := 2086) (by omega) (by omega) ?_
  refine va_putF (D := (dC, dI)) (ci := 12) (v := .ref q_45) (ty := tyX12 56) (C := RX12) (T := TX12) (N := 76) hx hb htw inlX12 tyX12 tyX12_ok nmX12 hown hK hP hD hS 0 rfl rfl 56 (by decide) (htw _ (ck_10 _ (List.mem_of_getElem? (i := 3) rfl))) (fun _ h9 => h9) rfl hin rfl (tyX12_ok 56 (by decide)) rfl rfl (Nat.le_of_ble_eq_true rfl) dX12_init_897 (fun H locs hP hD hS => ?_)
  obtain ⟨hP, hD⟩ := zre [(mq, .inr (12, (.ref q_1 :: .int 0 :: .int 0 :: .ref q_3 :: .int 0 :: .int (-1) :: .int 0 :: .int 0 :: .int 0 :: .int 0 :: .int 0 :: .int 0 :: .int 0 :: .int 0 :: .int 0 :: .int 0 :: .int 0 :: .int 0 :: .int 0 :: .int 0 :: .int 0 :: .int 0 :: .int 0 :: .int 0 :: .ref q_5 :: .int 0 :: .int 0 :: .int 0 :: .ref q_7 :: .ref q_9 :: .ref q_11 :: .ref q_13 :: .ref q_15 :: .ref q_17 :: .ref q_19 :: .ref q_21 :: .ref q_23 :: .ref q_25 :: .ref q_27 :: .ref q_29 :: .ref q_31 :: .ref q_33 :: .ref q_35 :: .ref q_37 :: [.long 0, .ref q_39, .ref q_41, .int 0, .int 0, .int 0, .int 0, .int 0, .int 0, .long 0, .long 0, .ref q_43, .ref q_45, .int 0, .int 0, .int 0, .null, .null, .int 0, .int 0, .int 0, .null, .null, .int 0, .null, .null, .int 0, .int 0, .int 0, .null, .null, .null]))), (eA0 q_1 cA_2 900 (fun _ => 0)), (eA0 q_3 cA_4 118 (ym_w 118)), (eA0 q_5 cA_6 14 (fun _ => 0)), (eA0 q_7 cA_8 8 (fun _ => 0)), (eA0 q_9 cA_10 24 (fun _ => 0)), (eA0 q_11 cA_12 8 (fun _ => 0)), (eA0 q_13 cA_14 8 (fun _ => 0)), (eA0 q_15 cA_16 8 (fun _ => 0)), (eA0 q_17 cA_18 12 (fun _ => 0)), (eA1 q_19 cA_20 12 (fun _ => 0)), (eA1 q_21 cA_22 12 (fun _ => 0)), (eA0 q_23 cA_24 8 (fun _ => 0)), (eA1 q_25 cA_26 8 (fun _ => 0)), (eA0 q_27 cA_28 24 (fun _ => 0)), (eA0 q_29 cA_30 12 (fun _ => 0)), (eA0 q_31 cA_32 264 (fun _ => 0)), (eA0 q_33 cA_34 128 (fun _ => 0)), (eA0 q_35 cA_36 128 (fun _ => 0)), (eA0 q_37 cA_38 128 (fun _ => 0)), (eA0 q_39 cA_40 96 (fun _ => 0)), (eA0 q_41 cA_42 96 (fun _ => 0)), (eA1 q_43 cA_44 6 (fun _ => 0)), (eA1 q_45 cA_46 64 (fun _ => 0))] hP hD rfl
  refine lv_aload_n hx hb dX12_init_900 rfl (lv_at hl 0 rfl) ?_
  refine lv_sipush (v := 128) hx hb dX12_init_901 (by decide) ?_
  refine va_newa (ty := .int) (a0 := (128, .inl (fun _ => 0))) hx hb (htw _ (ck_2 _ (List.mem_of_getElem? (i := 7) rfl))) rfl hK hP hD hS hA (fun _ => rfl) (by decide) (by decide) (by decide) (Nat.le_of_ble_eq_true rfl) (Nat.le_of_ble_eq_true rfl) dX12_init_904 (fun q_47 cA_48 H hK hP hD hS => ?_)
  have hK : va_K (dC, dI) vwCl [(cA_2, .int), (cA_4, .int), (cA_6, .int), (cA_8, .int), (cA_10, .int), (cA_12, .int), (cA_14, .int), (cA_16, .int), (cA_18, .int), (cA_20, .long), (cA_22, .long), (cA_24, .int), (cA_26, .long), (cA_28, .int), (cA_30, .int), (cA_32, .int), (cA_34, .int), (cA_36, .int), (cA_38, .int), (cA_40, .int), (cA_42, .int), (cA_44, .long), (cA_46, .long), (cA_48, .int)] s := hK
  obtain ⟨hP, hD⟩ := zre [(mq, .inr (12, (.ref q_1 :: .int 0 :: .int 0 :: .ref q_3 :: .int 0 :: .int (-1) :: .int 0 :: .int 0 :: .int 0 :: .int 0 :: .int 0 :: .int 0 :: .int 0 :: .int 0 :: .int 0 :: .int 0 :: .int 0 :: .int 0 :: .int 0 :: .int 0 :: .int 0 :: .int 0 :: .int 0 :: .int 0 :: .ref q_5 :: .int 0 :: .int 0 :: .int 0 :: .ref q_7 :: .ref q_9 :: .ref q_11 :: .ref q_13 :: .ref q_15 :: .ref q_17 :: .ref q_19 :: .ref q_21 :: .ref q_23 :: .ref q_25 :: .ref q_27 :: .ref q_29 :: .ref q_31 :: .ref q_33 :: .ref q_35 :: .ref q_37 :: [.long 0, .ref q_39, .ref q_41, .int 0, .int 0, .int 0, .int 0, .int 0, .int 0, .long 0, .long 0, .ref q_43, .ref q_45, .int 0, .int 0, .int 0, .null, .null, .int 0, .int 0, .int 0, .null, .null, .int 0, .null, .null, .int 0, .int 0, .int 0, .null, .null, .null]))), (eA0 q_1 cA_2 900 (fun _ => 0)), (eA0 q_3 cA_4 118 (ym_w 118)), (eA0 q_5 cA_6 14 (fun _ => 0)), (eA0 q_7 cA_8 8 (fun _ => 0)), (eA0 q_9 cA_10 24 (fun _ => 0)), (eA0 q_11 cA_12 8 (fun _ => 0)), (eA0 q_13 cA_14 8 (fun _ => 0)), (eA0 q_15 cA_16 8 (fun _ => 0)), (eA0 q_17 cA_18 12 (fun _ => 0)), (eA1 q_19 cA_20 12 (fun _ => 0)), (eA1 q_21 cA_22 12 (fun _ => 0)), (eA0 q_23 cA_24 8 (fun _ => 0)), (eA1 q_25 cA_26 8 (fun _ => 0)), (eA0 q_27 cA_28 24 (fun _ => 0)), (eA0 q_29 cA_30 12 (fun _ => 0)), (eA0 q_31 cA_32 264 (fun _ => 0)), (eA0 q_33 cA_34 128 (fun _ => 0)), (eA0 q_35 cA_36 128 (fun _ => 0)), (eA0 q_37 cA_38 128 (fun _ => 0)), (eA0 q_39 cA_40 96 (fun _ => 0)), (eA0 q_41 cA_42 96 (fun _ => 0)), (eA1 q_43 cA_44 6 (fun _ => 0)), (eA1 q_45 cA_46 64 (fun _ => 0)), (eA0 q_47 cA_48 128 (fun _ => 0))] hP hD rfl
  refine W.widen (k := 24) (n := 2214) (by omega) (by omega) ?_
  refine va_putF (D := (dC, dI)) (ci := 12) (v := .ref q_47) (ty := tyX12 60) (C := RX12) (T := TX12) (N := 76) hx hb htw inlX12 tyX12 tyX12_ok nmX12 hown hK hP hD hS 0 rfl rfl 60 (by decide) (htw _ (ck_10 _ (List.mem_of_getElem? (i := 4) rfl))) (fun _ h9 => h9) rfl hin rfl (tyX12_ok 60 (by decide)) rfl rfl (Nat.le_of_ble_eq_true rfl) dX12_init_906 (fun H locs hP hD hS => ?_)
  obtain ⟨hP, hD⟩ := zre [(mq, .inr (12, (.ref q_1 :: .int 0 :: .int 0 :: .ref q_3 :: .int 0 :: .int (-1) :: .int 0 :: .int 0 :: .int 0 :: .int 0 :: .int 0 :: .int 0 :: .int 0 :: .int 0 :: .int 0 :: .int 0 :: .int 0 :: .int 0 :: .int 0 :: .int 0 :: .int 0 :: .int 0 :: .int 0 :: .int 0 :: .ref q_5 :: .int 0 :: .int 0 :: .int 0 :: .ref q_7 :: .ref q_9 :: .ref q_11 :: .ref q_13 :: .ref q_15 :: .ref q_17 :: .ref q_19 :: .ref q_21 :: .ref q_23 :: .ref q_25 :: .ref q_27 :: .ref q_29 :: .ref q_31 :: .ref q_33 :: .ref q_35 :: .ref q_37 :: [.long 0, .ref q_39, .ref q_41, .int 0, .int 0, .int 0, .int 0, .int 0, .int 0, .long 0, .long 0, .ref q_43, .ref q_45, .int 0, .int 0, .int 0, .ref q_47, .null, .int 0, .int 0, .int 0, .null, .null, .int 0, .null, .null, .int 0, .int 0, .int 0, .null, .null, .null]))), (eA0 q_1 cA_2 900 (fun _ => 0)), (eA0 q_3 cA_4 118 (ym_w 118)), (eA0 q_5 cA_6 14 (fun _ => 0)), (eA0 q_7 cA_8 8 (fun _ => 0)), (eA0 q_9 cA_10 24 (fun _ => 0)), (eA0 q_11 cA_12 8 (fun _ => 0)), (eA0 q_13 cA_14 8 (fun _ => 0)), (eA0 q_15 cA_16 8 (fun _ => 0)), (eA0 q_17 cA_18 12 (fun _ => 0)), (eA1 q_19 cA_20 12 (fun _ => 0)), (eA1 q_21 cA_22 12 (fun _ => 0)), (eA0 q_23 cA_24 8 (fun _ => 0)), (eA1 q_25 cA_26 8 (fun _ => 0)), (eA0 q_27 cA_28 24 (fun _ => 0)), (eA0 q_29 cA_30 12 (fun _ => 0)), (eA0 q_31 cA_32 264 (fun _ => 0)), (eA0 q_33 cA_34 128 (fun _ => 0)), (eA0 q_35 cA_36 128 (fun _ => 0)), (eA0 q_37 cA_38 128 (fun _ => 0)), (eA0 q_39 cA_40 96 (fun _ => 0)), (eA0 q_41 cA_42 96 (fun _ => 0)), (eA1 q_43 cA_44 6 (fun _ => 0)), (eA1 q_45 cA_46 64 (fun _ => 0)), (eA0 q_47 cA_48 128 (fun _ => 0))] hP hD rfl
  refine lv_aload_n hx hb dX12_init_909 rfl (lv_at hl 0 rfl) ?_
  refine lv_ldc (v := 240000) hx hb hown (htw _ (ck_10 _ (List.mem_of_getElem? (i := 5) rfl))) dX12_init_910 ?_
  refine va_newa (ty := .boolean) (a0 := (240000, .inl (fun _ => 0))) hx hb (htw _ (ck_10 _ (List.mem_of_getElem? (i := 6) rfl))) rfl hK hP hD hS hA (fun _ => rfl) (by decide) (by decide) (by decide) (Nat.le_of_ble_eq_true rfl) (Nat.le_of_ble_eq_true rfl) dX12_init_912 (fun q_49 cA_50 H hK hP hD hS => ?_)
  have hK : va_K (dC, dI) vwCl [(cA_2, .int), (cA_4, .int), (cA_6, .int), (cA_8, .int), (cA_10, .int), (cA_12, .int), (cA_14, .int), (cA_16, .int), (cA_18, .int), (cA_20, .long), (cA_22, .long), (cA_24, .int), (cA_26, .long), (cA_28, .int), (cA_30, .int), (cA_32, .int), (cA_34, .int), (cA_36, .int), (cA_38, .int), (cA_40, .int), (cA_42, .int), (cA_44, .long), (cA_46, .long), (cA_48, .int), (cA_50, .boolean)] s := hK
  obtain ⟨hP, hD⟩ := zre [(mq, .inr (12, (.ref q_1 :: .int 0 :: .int 0 :: .ref q_3 :: .int 0 :: .int (-1) :: .int 0 :: .int 0 :: .int 0 :: .int 0 :: .int 0 :: .int 0 :: .int 0 :: .int 0 :: .int 0 :: .int 0 :: .int 0 :: .int 0 :: .int 0 :: .int 0 :: .int 0 :: .int 0 :: .int 0 :: .int 0 :: .ref q_5 :: .int 0 :: .int 0 :: .int 0 :: .ref q_7 :: .ref q_9 :: .ref q_11 :: .ref q_13 :: .ref q_15 :: .ref q_17 :: .ref q_19 :: .ref q_21 :: .ref q_23 :: .ref q_25 :: .ref q_27 :: .ref q_29 :: .ref q_31 :: .ref q_33 :: .ref q_35 :: .ref q_37 :: [.long 0, .ref q_39, .ref q_41, .int 0, .int 0, .int 0, .int 0, .int 0, .int 0, .long 0, .long 0, .ref q_43, .ref q_45, .int 0, .int 0, .int 0, .ref q_47, .null, .int 0, .int 0, .int 0, .null, .null, .int 0, .null, .null, .int 0, .int 0, .int 0, .null, .null, .null]))), (eA0 q_1 cA_2 900 (fun _ => 0)), (eA0 q_3 cA_4 118 (ym_w 118)), (eA0 q_5 cA_6 14 (fun _ => 0)), (eA0 q_7 cA_8 8 (fun _ => 0)), (eA0 q_9 cA_10 24 (fun _ => 0)), (eA0 q_11 cA_12 8 (fun _ => 0)), (eA0 q_13 cA_14 8 (fun _ => 0)), (eA0 q_15 cA_16 8 (fun _ => 0)), (eA0 q_17 cA_18 12 (fun _ => 0)), (eA1 q_19 cA_20 12 (fun _ => 0)), (eA1 q_21 cA_22 12 (fun _ => 0)), (eA0 q_23 cA_24 8 (fun _ => 0)), (eA1 q_25 cA_26 8 (fun _ => 0)), (eA0 q_27 cA_28 24 (fun _ => 0)), (eA0 q_29 cA_30 12 (fun _ => 0)), (eA0 q_31 cA_32 264 (fun _ => 0)), (eA0 q_33 cA_34 128 (fun _ => 0)), (eA0 q_35 cA_36 128 (fun _ => 0)), (eA0 q_37 cA_38 128 (fun _ => 0)), (eA0 q_39 cA_40 96 (fun _ => 0)), (eA0 q_41 cA_42 96 (fun _ => 0)), (eA1 q_43 cA_44 6 (fun _ => 0)), (eA1 q_45 cA_46 64 (fun _ => 0)), (eA0 q_47 cA_48 128 (fun _ => 0)), (eA0 q_49 cA_50 240000 (fun _ => 0))] hP hD rfl
  refine W.widen (k := 25) (n := 242214) (by omega) (by omega) ?_
  refine va_putF (D := (dC, dI)) (ci := 12) (v := .ref q_49) (ty := tyX12 61) (C := RX12) (T := TX12) (N := 76) hx hb htw inlX12 tyX12 tyX12_ok nmX12 hown hK hP hD hS 0 rfl rfl 61 (by decide) (htw _ (ck_10 _ (List.mem_of_getElem? (i := 7) rfl))) (fun _ h9 => h9) rfl hin rfl (tyX12_ok 61 (by decide)) rfl rfl (Nat.le_of_ble_eq_true rfl) dX12_init_914 (fun H locs hP hD hS => ?_)
  obtain ⟨hP, hD⟩ := zre [(mq, .inr (12, (.ref q_1 :: .int 0 :: .int 0 :: .ref q_3 :: .int 0 :: .int (-1) :: .int 0 :: .int 0 :: .int 0 :: .int 0 :: .int 0 :: .int 0 :: .int 0 :: .int 0 :: .int 0 :: .int 0 :: .int 0 :: .int 0 :: .int 0 :: .int 0 :: .int 0 :: .int 0 :: .int 0 :: .int 0 :: .ref q_5 :: .int 0 :: .int 0 :: .int 0 :: .ref q_7 :: .ref q_9 :: .ref q_11 :: .ref q_13 :: .ref q_15 :: .ref q_17 :: .ref q_19 :: .ref q_21 :: .ref q_23 :: .ref q_25 :: .ref q_27 :: .ref q_29 :: .ref q_31 :: .ref q_33 :: .ref q_35 :: .ref q_37 :: [.long 0, .ref q_39, .ref q_41, .int 0, .int 0, .int 0, .int 0, .int 0, .int 0, .long 0, .long 0, .ref q_43, .ref q_45, .int 0, .int 0, .int 0, .ref q_47, .ref q_49, .int 0, .int 0, .int 0, .null, .null, .int 0, .null, .null, .int 0, .int 0, .int 0, .null, .null, .null]))), (eA0 q_1 cA_2 900 (fun _ => 0)), (eA0 q_3 cA_4 118 (ym_w 118)), (eA0 q_5 cA_6 14 (fun _ => 0)), (eA0 q_7 cA_8 8 (fun _ => 0)), (eA0 q_9 cA_10 24 (fun _ => 0)), (eA0 q_11 cA_12 8 (fun _ => 0)), (eA0 q_13 cA_14 8 (fun _ => 0)), (eA0 q_15 cA_16 8 (fun _ => 0)), (eA0 q_17 cA_18 12 (fun _ => 0)), (eA1 q_19 cA_20 12 (fun _ => 0)), (eA1 q_21 cA_22 12 (fun _ => 0)), (eA0 q_23 cA_24 8 (fun _ => 0)), (eA1 q_25 cA_26 8 (fun _ => 0)), (eA0 q_27 cA_28 24 (fun _ => 0)), (eA0 q_29 cA_30 12 (fun _ => 0)), (eA0 q_31 cA_32 264 (fun _ => 0)), (eA0 q_33 cA_34 128 (fun _ => 0)), (eA0 q_35 cA_36 128 (fun _ => 0)), (eA0 q_37 cA_38 128 (fun _ => 0)), (eA0 q_39 cA_40 96 (fun _ => 0)), (eA0 q_41 cA_42 96 (fun _ => 0)), (eA1 q_43 cA_44 6 (fun _ => 0)), (eA1 q_45 cA_46 64 (fun _ => 0)), (eA0 q_47 cA_48 128 (fun _ => 0)), (eA0 q_49 cA_50 240000 (fun _ => 0))] hP hD rfl
  refine lv_aload_n hx hb dX12_init_917 rfl (lv_at hl 0 rfl) ?_
  refine lv_bipush (v := 12) hx hb dX12_init_918 (by decide) ?_
  refine va_newa (ty := .int) (a0 := (12, .inl (fun _ => 0))) hx hb (htw _ (ck_2 _ (List.mem_of_getElem? (i := 7) rfl))) rfl hK hP hD hS hA (fun _ => rfl) (by decide) (by decide) (by decide) (Nat.le_of_ble_eq_true rfl) (Nat.le_of_ble_eq_true rfl) dX12_init_920 (fun q_51 cA_52 H hK hP hD hS => ?_)
  have hK : va_K (dC, dI) vwCl [(cA_2, .int), (cA_4, .int), (cA_6, .int), (cA_8, .int), (cA_10, .int), (cA_12, .int), (cA_14, .int), (cA_16, .int), (cA_18, .int), (cA_20, .long), (cA_22, .long), (cA_24, .int), (cA_26, .long), (cA_28, .int), (cA_30, .int), (cA_32, .int), (cA_34, .int), (cA_36, .int), (cA_38, .int), (cA_40, .int), (cA_42, .int), (cA_44, .long), (cA_46, .long), (cA_48, .int), (cA_50, .boolean), (cA_52, .int)] s := hK
  obtain ⟨hP, hD⟩ := zre [(mq, .inr (12, (.ref q_1 :: .int 0 :: .int 0 :: .ref q_3 :: .int 0 :: .int (-1) :: .int 0 :: .int 0 :: .int 0 :: .int 0 :: .int 0 :: .int 0 :: .int 0 :: .int 0 :: .int 0 :: .int 0 :: .int 0 :: .int 0 :: .int 0 :: .int 0 :: .int 0 :: .int 0 :: .int 0 :: .int 0 :: .ref q_5 :: .int 0 :: .int 0 :: .int 0 :: .ref q_7 :: .ref q_9 :: .ref q_11 :: .ref q_13 :: .ref q_15 :: .ref q_17 :: .ref q_19 :: .ref q_21 :: .ref q_23 :: .ref q_25 :: .ref q_27 :: .ref q_29 :: .ref q_31 :: .ref q_33 :: .ref q_35 :: .ref q_37 :: [.long 0, .ref q_39, .ref q_41, .int 0, .int 0, .int 0, .int 0, .int 0, .int 0, .long 0, .long 0, .ref q_43, .ref q_45, .int 0, .int 0, .int 0, .ref q_47, .ref q_49, .int 0, .int 0, .int 0, .null, .null, .int 0, .null, .null, .int 0, .int 0, .int 0, .null, .null, .null]))), (eA0 q_1 cA_2 900 (fun _ => 0)), (eA0 q_3 cA_4 118 (ym_w 118)), (eA0 q_5 cA_6 14 (fun _ => 0)), (eA0 q_7 cA_8 8 (fun _ => 0)), (eA0 q_9 cA_10 24 (fun _ => 0)), (eA0 q_11 cA_12 8 (fun _ => 0)), (eA0 q_13 cA_14 8 (fun _ => 0)), (eA0 q_15 cA_16 8 (fun _ => 0)), (eA0 q_17 cA_18 12 (fun _ => 0)), (eA1 q_19 cA_20 12 (fun _ => 0)), (eA1 q_21 cA_22 12 (fun _ => 0)), (eA0 q_23 cA_24 8 (fun _ => 0)), (eA1 q_25 cA_26 8 (fun _ => 0)), (eA0 q_27 cA_28 24 (fun _ => 0)), (eA0 q_29 cA_30 12 (fun _ => 0)), (eA0 q_31 cA_32 264 (fun _ => 0)), (eA0 q_33 cA_34 128 (fun _ => 0)), (eA0 q_35 cA_36 128 (fun _ => 0)), (eA0 q_37 cA_38 128 (fun _ => 0)), (eA0 q_39 cA_40 96 (fun _ => 0)), (eA0 q_41 cA_42 96 (fun _ => 0)), (eA1 q_43 cA_44 6 (fun _ => 0)), (eA1 q_45 cA_46 64 (fun _ => 0)), (eA0 q_47 cA_48 128 (fun _ => 0)), (eA0 q_49 cA_50 240000 (fun _ => 0)), (eA0 q_51 cA_52 12 (fun _ => 0))] hP hD rfl
  refine W.widen (k := 26) (n := 242226) (by omega) (by omega) ?_
  refine va_putF (D := (dC, dI)) (ci := 12) (v := .ref q_51) (ty := tyX12 65) (C := RX12) (T := TX12) (N := 76) hx hb htw inlX12 tyX12 tyX12_ok nmX12 hown hK hP hD hS 0 rfl rfl 65 (by decide) (htw _ (ck_10 _ (List.mem_of_getElem? (i := 8) rfl))) (fun _ h9 => h9) rfl hin rfl (tyX12_ok 65 (by decide)) rfl rfl (Nat.le_of_ble_eq_true rfl) dX12_init_922 (fun H locs hP hD hS => ?_)
  obtain ⟨hP, hD⟩ := zre [(mq, .inr (12, (.ref q_1 :: .int 0 :: .int 0 :: .ref q_3 :: .int 0 :: .int (-1) :: .int 0 :: .int 0 :: .int 0 :: .int 0 :: .int 0 :: .int 0 :: .int 0 :: .int 0 :: .int 0 :: .int 0 :: .int 0 :: .int 0 :: .int 0 :: .int 0 :: .int 0 :: .int 0 :: .int 0 :: .int 0 :: .ref q_5 :: .int 0 :: .int 0 :: .int 0 :: .ref q_7 :: .ref q_9 :: .ref q_11 :: .ref q_13 :: .ref q_15 :: .ref q_17 :: .ref q_19 :: .ref q_21 :: .ref q_23 :: .ref q_25 :: .ref q_27 :: .ref q_29 :: .ref q_31 :: .ref q_33 :: .ref q_35 :: .ref q_37 :: [.long 0, .ref q_39, .ref q_41, .int 0, .int 0, .int 0, .int 0, .int 0, .int 0, .long 0, .long 0, .ref q_43, .ref q_45, .int 0, .int 0, .int 0, .ref q_47, .ref q_49, .int 0, .int 0, .int 0, .ref q_51, .null, .int 0, .null, .null, .int 0, .int 0, .int 0, .null, .null, .null]))), (eA0 q_1 cA_2 900 (fun _ => 0)), (eA0 q_3 cA_4 118 (ym_w 118)), (eA0 q_5 cA_6 14 (fun _ => 0)), (eA0 q_7 cA_8 8 (fun _ => 0)), (eA0 q_9 cA_10 24 (fun _ => 0)), (eA0 q_11 cA_12 8 (fun _ => 0)), (eA0 q_13 cA_14 8 (fun _ => 0)), (eA0 q_15 cA_16 8 (fun _ => 0)), (eA0 q_17 cA_18 12 (fun _ => 0)), (eA1 q_19 cA_20 12 (fun _ => 0)), (eA1 q_21 cA_22 12 (fun _ => 0)), (eA0 q_23 cA_24 8 (fun _ => 0)), (eA1 q_25 cA_26 8 (fun _ => 0)), (eA0 q_27 cA_28 24 (fun _ => 0)), (eA0 q_29 cA_30 12 (fun _ => 0)), (eA0 q_31 cA_32 264 (fun _ => 0)), (eA0 q_33 cA_34 128 (fun _ => 0)), (eA0 q_35 cA_36 128 (fun _ => 0)), (eA0 q_37 cA_38 128 (fun _ => 0)), (eA0 q_39 cA_40 96 (fun _ => 0)), (eA0 q_41 cA_42 96 (fun _ => 0)), (eA1 q_43 cA_44 6 (fun _ => 0)), (eA1 q_45 cA_46 64 (fun _ => 0)), (eA0 q_47 cA_48 128 (fun _ => 0)), (eA0 q_49 cA_50 240000 (fun _ => 0)), (eA0 q_51 cA_52 12 (fun _ => 0))] hP hD rfl
  refine lv_aload_n hx hb dX12_init_925 rfl (lv_at hl 0 rfl) ?_
  refine lv_bipush (v := 12) hx hb dX12_init_926 (by decide) ?_
  refine va_newa (ty := .int) (a0 := (12, .inl (fun _ => 0))) hx hb (htw _ (ck_2 _ (List.mem_of_getElem? (i := 7) rfl))) rfl hK hP hD hS hA (fun _ => rfl) (by decide) (by decide) (by decide) (Nat.le_of_ble_eq_true rfl) (Nat.le_of_ble_eq_true rfl) dX12_init_928 (fun q_53 cA_54 H hK hP hD hS => ?_)
  have hK : va_K (dC, dI) vwCl [(cA_2, .int), (cA_4, .int), (cA_6, .int), (cA_8, .int), (cA_10, .int), (cA_12, .int), (cA_14, .int), (cA_16, .int), (cA_18, .int), (cA_20, .long), (cA_22, .long), (cA_24, .int), (cA_26, .long), (cA_28, .int), (cA_30, .int), (cA_32, .int), (cA_34, .int), (cA_36, .int), (cA_38, .int), (cA_40, .int), (cA_42, .int), (cA_44, .long), (cA_46, .long), (cA_48, .int), (cA_50, .boolean), (cA_52, .int), (cA_54, .int)] s := hK
  obtain ⟨hP, hD⟩ := zre [(mq, .inr (12, (.ref q_1 :: .int 0 :: .int 0 :: .ref q_3 :: .int 0 :: .int (-1) :: .int 0 :: .int 0 :: .int 0 :: .int 0 :: .int 0 :: .int 0 :: .int 0 :: .int 0 :: .int 0 :: .int 0 :: .int 0 :: .int 0 :: .int 0 :: .int 0 :: .int 0 :: .int 0 :: .int 0 :: .int 0 :: .ref q_5 :: .int 0 :: .int 0 :: .int 0 :: .ref q_7 :: .ref q_9 :: .ref q_11 :: .ref q_13 :: .ref q_15 :: .ref q_17 :: .ref q_19 :: .ref q_21 :: .ref q_23 :: .ref q_25 :: .ref q_27 :: .ref q_29 :: .ref q_31 :: .ref q_33 :: .ref q_35 :: .ref q_37 :: [.long 0, .ref q_39, .ref q_41, .int 0, .int 0, .int 0, .int 0, .int 0, .int 0, .long 0, .long 0, .ref q_43, .ref q_45, .int 0, .int 0, .int 0, .ref q_47, .ref q_49, .int 0, .int 0, .int 0, .ref q_51, .null, .int 0, .null, .null, .int 0, .int 0, .int 0, .null, .null, .null]))), (eA0 q_1 cA_2 900 (fun _ => 0)), (eA0 q_3 cA_4 118 (ym_w 118)), (eA0 q_5 cA_6 14 (fun _ => 0)), (eA0 q_7 cA_8 8 (fun _ => 0)), (eA0 q_9 cA_10 24 (fun _ => 0)), (eA0 q_11 cA_12 8 (fun _ => 0)), (eA0 q_13 cA_14 8 (fun _ => 0)), (eA0 q_15 cA_16 8 (fun _ => 0)), (eA0 q_17 cA_18 12 (fun _ => 0)), (eA1 q_19 cA_20 12 (fun _ => 0)), (eA1 q_21 cA_22 12 (fun _ => 0)), (eA0 q_23 cA_24 8 (fun _ => 0)), (eA1 q_25 cA_26 8 (fun _ => 0)), (eA0 q_27 cA_28 24 (fun _ => 0)), (eA0 q_29 cA_30 12 (fun _ => 0)), (eA0 q_31 cA_32 264 (fun _ => 0)), (eA0 q_33 cA_34 128 (fun _ => 0)), (eA0 q_35 cA_36 128 (fun _ => 0)), (eA0 q_37 cA_38 128 (fun _ => 0)), (eA0 q_39 cA_40 96 (fun _ => 0)), (eA0 q_41 cA_42 96 (fun _ => 0)), (eA1 q_43 cA_44 6 (fun _ => 0)), (eA1 q_45 cA_46 64 (fun _ => 0)), (eA0 q_47 cA_48 128 (fun _ => 0)), (eA0 q_49 cA_50 240000 (fun _ => 0)), (eA0 q_51 cA_52 12 (fun _ => 0)), (eA0 q_53 cA_54 12 (fun _ => 0))] hP hD rfl
  refine W.widen (k := 27) (n := 242238) (by omega) (by omega) ?_
  refine va_putF (D := (dC, dI)) (ci := 12) (v := .ref q_53) (ty := tyX12 66) (C := RX12) (T := TX12) (N := 76) hx hb htw inlX12 tyX12 tyX12_ok nmX12 hown hK hP hD hS 0 rfl rfl 66 (by decide) (htw _ (ck_10 _ (List.mem_of_getElem? (i := 9) rfl))) (fun _ h9 => h9) rfl hin rfl (tyX12_ok 66 (by decide)) rfl rfl (Nat.le_of_ble_eq_true rfl) dX12_init_930 (fun H locs hP hD hS => ?_)
  obtain ⟨hP, hD⟩ := zre [(mq, .inr (12, (.ref q_1 :: .int 0 :: .int 0 :: .ref q_3 :: .int 0 :: .int (-1) :: .int 0 :: .int 0 :: .int 0 :: .int 0 :: .int 0 :: .int 0 :: .int 0 :: .int 0 :: .int 0 :: .int 0 :: .int 0 :: .int 0 :: .int 0 :: .int 0 :: .int 0 :: .int 0 :: .int 0 :: .int 0 :: .ref q_5 :: .int 0 :: .int 0 :: .int 0 :: .ref q_7 :: .ref q_9 :: .ref q_11 :: .ref q_13 :: .ref q_15 :: .ref q_17 :: .ref q_19 :: .ref q_21 :: .ref q_23 :: .ref q_25 :: .ref q_27 :: .ref q_29 :: .ref q_31 :: .ref q_33 :: .ref q_35 :: .ref q_37 :: [.long 0, .ref q_39, .ref q_41, .int 0, .int 0, .int 0, .int 0, .int 0, .int 0, .long 0, .long 0, .ref q_43, .ref q_45, .int 0, .int 0, .int 0, .ref q_47, .ref q_49, .int 0, .int 0, .int 0, .ref q_51, .ref q_53, .int 0, .null, .null, .int 0, .int 0, .int 0, .null, .null, .null]))), (eA0 q_1 cA_2 900 (fun _ => 0)), (eA0 q_3 cA_4 118 (ym_w 118)), (eA0 q_5 cA_6 14 (fun _ => 0)), (eA0 q_7 cA_8 8 (fun _ => 0)), (eA0 q_9 cA_10 24 (fun _ => 0)), (eA0 q_11 cA_12 8 (fun _ => 0)), (eA0 q_13 cA_14 8 (fun _ => 0)), (eA0 q_15 cA_16 8 (fun _ => 0)), (eA0 q_17 cA_18 12 (fun _ => 0)), (eA1 q_19 cA_20 12 (fun _ => 0)), (eA1 q_21 cA_22 12 (fun _ => 0)), (eA0 q_23 cA_24 8 (fun _ => 0)), (eA1 q_25 cA_26 8 (fun _ => 0)), (eA0 q_27 cA_28 24 (fun _ => 0)), (eA0 q_29 cA_30 12 (fun _ => 0)), (eA0 q_31 cA_32 264 (fun _ => 0)), (eA0 q_33 cA_34 128 (fun _ => 0)), (eA0 q_35 cA_36 128 (fun _ => 0)), (eA0 q_37 cA_38 128 (fun _ => 0)), (eA0 q_39 cA_40 96 (fun _ => 0)), (eA0 q_41 cA_42 96 (fun _ => 0)), (eA1 q_43 cA_44 6 (fun _ => 0)), (eA1 q_45 cA_46 64 (fun _ => 0)), (eA0 q_47 cA_48 128 (fun _ => 0)), (eA0 q_49 cA_50 240000 (fun _ => 0)), (eA0 q_51 cA_52 12 (fun _ => 0)), (eA0 q_53 cA_54 12 (fun _ => 0))] hP hD rfl
  refine lv_aload_n hx hb dX12_init_933 rfl (lv_at hl 0 rfl) ?_
  refine lv_bipush (v := 20) hx hb dX12_init_934 (by decide) ?_
  refine va_newa (ty := .int) (a0 := (20, .inl (fun _ => 0))) hx hb (htw _ (ck_2 _ (List.mem_of_getElem? (i := 7) rfl))) rfl hK hP hD hS hA (fun _ => rfl) (by decide) (by decide) (by decide) (Nat.le_of_ble_eq_true rfl) (Nat.le_of_ble_eq_true rfl) dX12_init_936 (fun q_55 cA_56 H hK hP hD hS => ?_)
  have hK : va_K (dC, dI) vwCl [(cA_2, .int), (cA_4, .int), (cA_6, .int), (cA_8, .int), (cA_10, .int), (cA_12, .int), (cA_14, .int), (cA_16, .int), (cA_18, .int), (cA_20, .long), (cA_22, .long), (cA_24, .int), (cA_26, .long), (cA_28, .int), (cA_30, .int), (cA_32, .int), (cA_34, .int), (cA_36, .int), (cA_38, .int), (cA_40, .int), (cA_42, .int), (cA_44, .long), (cA_46, .long), (cA_48, .int), (cA_50, .boolean), (cA_52, .int), (cA_54, .int), (cA_56, .int)] s := hK
  obtain ⟨hP, hD⟩ := zre [(mq, .inr (12, (.ref q_1 :: .int 0 :: .int 0 :: .ref q_3 :: .int 0 :: .int (-1) :: .int 0 :: .int 0 :: .int 0 :: .int 0 :: .int 0 :: .int 0 :: .int 0 :: .int 0 :: .int 0 :: .int 0 :: .int 0 :: .int 0 :: .int 0 :: .int 0 :: .int 0 :: .int 0 :: .int 0 :: .int 0 :: .ref q_5 :: .int 0 :: .int 0 :: .int 0 :: .ref q_7 :: .ref q_9 :: .ref q_11 :: .ref q_13 :: .ref q_15 :: .ref q_17 :: .ref q_19 :: .ref q_21 :: .ref q_23 :: .ref q_25 :: .ref q_27 :: .ref q_29 :: .ref q_31 :: .ref q_33 :: .ref q_35 :: .ref q_37 :: [.long 0, .ref q_39, .ref q_41, .int 0, .int 0, .int 0, .int 0, .int 0, .int 0, .long 0, .long 0, .ref q_43, .ref q_45, .int 0, .int 0, .int 0, .ref q_47, .ref q_49, .int 0, .int 0, .int 0, .ref q_51, .ref q_53, .int 0, .null, .null, .int 0, .int 0, .int 0, .null, .null, .null]))), (eA0 q_1 cA_2 900 (fun _ => 0)), (eA0 q_3 cA_4 118 (ym_w 118)), (eA0 q_5 cA_6 14 (fun _ => 0)), (eA0 q_7 cA_8 8 (fun _ => 0)), (eA0 q_9 cA_10 24 (fun _ => 0)), (eA0 q_11 cA_12 8 (fun _ => 0)), (eA0 q_13 cA_14 8 (fun _ => 0)), (eA0 q_15 cA_16 8 (fun _ => 0)), (eA0 q_17 cA_18 12 (fun _ => 0)), (eA1 q_19 cA_20 12 (fun _ => 0)), (eA1 q_21 cA_22 12 (fun _ => 0)), (eA0 q_23 cA_24 8 (fun _ => 0)), (eA1 q_25 cA_26 8 (fun _ => 0)), (eA0 q_27 cA_28 24 (fun _ => 0)), (eA0 q_29 cA_30 12 (fun _ => 0)), (eA0 q_31 cA_32 264 (fun _ => 0)), (eA0 q_33 cA_34 128 (fun _ => 0)), (eA0 q_35 cA_36 128 (fun _ => 0)), (eA0 q_37 cA_38 128 (fun _ => 0)), (eA0 q_39 cA_40 96 (fun _ => 0)), (eA0 q_41 cA_42 96 (fun _ => 0)), (eA1 q_43 cA_44 6 (fun _ => 0)), (eA1 q_45 cA_46 64 (fun _ => 0)), (eA0 q_47 cA_48 128 (fun _ => 0)), (eA0 q_49 cA_50 240000 (fun _ => 0)), (eA0 q_51 cA_52 12 (fun _ => 0)), (eA0 q_53 cA_54 12 (fun _ => 0)), (eA0 q_55 cA_56 20 (fun _ => 0))] hP hD rfl
  refine W.widen (k := 28) (n := 242258) (by omega) (by omega) ?_
  refine va_putF (D := (dC, dI)) (ci := 12) (v := .ref q_55) (ty := tyX12 68) (C := RX12) (T := TX12) (N := 76) hx hb htw inlX12 tyX12 tyX12_ok nmX12 hown hK hP hD hS 0 rfl rfl 68 (by decide) (htw _ (ck_10 _ (List.mem_of_getElem? (i := 10) rfl))) (fun _ h9 => h9) rfl hin rfl (tyX12_ok 68 (by decide)) rfl rfl (Nat.le_of_ble_eq_true rfl) dX12_init_938 (fun H locs hP hD hS => ?_)
  obtain ⟨hP, hD⟩ := zre [(mq, .inr (12, (.ref q_1 :: .int 0 :: .int 0 :: .ref q_3 :: .int 0 :: .int (-1) :: .int 0 :: .int 0 :: .int 0 :: .int 0 :: .int 0 :: .int 0 :: .int 0 :: .int 0 :: .int 0 :: .int 0 :: .int 0 :: .int 0 :: .int 0 :: .int 0 :: .int 0 :: .int 0 :: .int 0 :: .int 0 :: .ref q_5 :: .int 0 :: .int 0 :: .int 0 :: .ref q_7 :: .ref q_9 :: .ref q_11 :: .ref q_13 :: .ref q_15 :: .ref q_17 :: .ref q_19 :: .ref q_21 :: .ref q_23 :: .ref q_25 :: .ref q_27 :: .ref q_29 :: .ref q_31 :: .ref q_33 :: .ref q_35 :: .ref q_37 :: [.long 0, .ref q_39, .ref q_41, .int 0, .int 0, .int 0, .int 0, .int 0, .int 0, .long 0, .long 0, .ref q_43, .ref q_45, .int 0, .int 0, .int 0, .ref q_47, .ref q_49, .int 0, .int 0, .int 0, .ref q_51, .ref q_53, .int 0, .ref q_55, .null, .int 0, .int 0, .int 0, .null, .null, .null]))), (eA0 q_1 cA_2 900 (fun _ => 0)), (eA0 q_3 cA_4 118 (ym_w 118)), (eA0 q_5 cA_6 14 (fun _ => 0)), (eA0 q_7 cA_8 8 (fun _ => 0)), (eA0 q_9 cA_10 24 (fun _ => 0)), (eA0 q_11 cA_12 8 (fun _ => 0)), (eA0 q_13 cA_14 8 (fun _ => 0)), (eA0 q_15 cA_16 8 (fun _ => 0)), (eA0 q_17 cA_18 12 (fun _ => 0)), (eA1 q_19 cA_20 12 (fun _ => 0)), (eA1 q_21 cA_22 12 (fun _ => 0)), (eA0 q_23 cA_24 8 (fun _ => 0)), (eA1 q_25 cA_26 8 (fun _ => 0)), (eA0 q_27 cA_28 24 (fun _ => 0)), (eA0 q_29 cA_30 12 (fun _ => 0)), (eA0 q_31 cA_32 264 (fun _ => 0)), (eA0 q_33 cA_34 128 (fun _ => 0)), (eA0 q_35 cA_36 128 (fun _ => 0)), (eA0 q_37 cA_38 128 (fun _ => 0)), (eA0 q_39 cA_40 96 (fun _ => 0)), (eA0 q_41 cA_42 96 (fun _ => 0)), (eA1 q_43 cA_44 6 (fun _ => 0)), (eA1 q_45 cA_46 64 (fun _ => 0)), (eA0 q_47 cA_48 128 (fun _ => 0)), (eA0 q_49 cA_50 240000 (fun _ => 0)), (eA0 q_51 cA_52 12 (fun _ => 0)), (eA0 q_53 cA_54 12 (fun _ => 0)), (eA0 q_55 cA_56 20 (fun _ => 0))] hP hD rfl
  refine lv_aload_n hx hb dX12_init_941 rfl (lv_at hl 0 rfl) ?_
  refine lv_bipush (v := 20) hx hb dX12_init_942 (by decide) ?_
  refine va_newa (ty := .int) (a0 := (20, .inl (fun _ => 0))) hx hb (htw _ (ck_2 _ (List.mem_of_getElem? (i := 7) rfl))) rfl hK hP hD hS hA (fun _ => rfl) (by decide) (by decide) (by decide) (Nat.le_of_ble_eq_true rfl) (Nat.le_of_ble_eq_true rfl) dX12_init_944 (fun q_57 cA_58 H hK hP hD hS => ?_)
  have hK : va_K (dC, dI) vwCl [(cA_2, .int), (cA_4, .int), (cA_6, .int), (cA_8, .int), (cA_10, .int), (cA_12, .int), (cA_14, .int), (cA_16, .int), (cA_18, .int), (cA_20, .long), (cA_22, .long), (cA_24, .int), (cA_26, .long), (cA_28, .int), (cA_30, .int), (cA_32, .int), (cA_34, .int), (cA_36, .int), (cA_38, .int), (cA_40, .int), (cA_42, .int), (cA_44, .long), (cA_46, .long), (cA_48, .int), (cA_50, .boolean), (cA_52, .int), (cA_54, .int), (cA_56, .int), (cA_58, .int)] s := hK
  obtain ⟨hP, hD⟩ := zre [(mq, .inr (12, (.ref q_1 :: .int 0 :: .int 0 :: .ref q_3 :: .int 0 :: .int (-1) :: .int 0 :: .int 0 :: .int 0 :: .int 0 :: .int 0 :: .int 0 :: .int 0 :: .int 0 :: .int 0 :: .int 0 :: .int 0 :: .int 0 :: .int 0 :: .int 0 :: .int 0 :: .int 0 :: .int 0 :: .int 0 :: .ref q_5 :: .int 0 :: .int 0 :: .int 0 :: .ref q_7 :: .ref q_9 :: .ref q_11 :: .ref q_13 :: .ref q_15 :: .ref q_17 :: .ref q_19 :: .ref q_21 :: .ref q_23 :: .ref q_25 :: .ref q_27 :: .ref q_29 :: .ref q_31 :: .ref q_33 :: .ref q_35 :: .ref q_37 :: [.long 0, .ref q_39, .ref q_41, .int 0, .int 0, .int 0, .int 0, .int 0, .int 0, .long 0, .long 0, .ref q_43, .ref q_45, .int 0, .int 0, .int 0, .ref q_47, .ref q_49, .int 0, .int 0, .int 0, .ref q_51, .ref q_53, .int 0, .ref q_55, .null, .int 0, .int 0, .int 0, .null, .null, .null]))), (eA0 q_1 cA_2 900 (fun _ => 0)), (eA0 q_3 cA_4 118 (ym_w 118)), (eA0 q_5 cA_6 14 (fun _ => 0)), (eA0 q_7 cA_8 8 (fun _ => 0)), (eA0 q_9 cA_10 24 (fun _ => 0)), (eA0 q_11 cA_12 8 (fun _ => 0)), (eA0 q_13 cA_14 8 (fun _ => 0)), (eA0 q_15 cA_16 8 (fun _ => 0)), (eA0 q_17 cA_18 12 (fun _ => 0)), (eA1 q_19 cA_20 12 (fun _ => 0)), (eA1 q_21 cA_22 12 (fun _ => 0)), (eA0 q_23 cA_24 8 (fun _ => 0)), (eA1 q_25 cA_26 8 (fun _ => 0)), (eA0 q_27 cA_28 24 (fun _ => 0)), (eA0 q_29 cA_30 12 (fun _ => 0)), (eA0 q_31 cA_32 264 (fun _ => 0)), (eA0 q_33 cA_34 128 (fun _ => 0)), (eA0 q_35 cA_36 128 (fun _ => 0)), (eA0 q_37 cA_38 128 (fun _ => 0)), (eA0 q_39 cA_40 96 (fun _ => 0)), (eA0 q_41 cA_42 96 (fun _ => 0)), (eA1 q_43 cA_44 6 (fun _ => 0)), (eA1 q_45 cA_46 64 (fun _ => 0)), (eA0 q_47 cA_48 128 (fun _ => 0)), (eA0 q_49 cA_50 240000 (fun _ => 0)), (eA0 q_51 cA_52 12 (fun _ => 0)), (eA0 q_53 cA_54 12 (fun _ => 0)), (eA0 q_55 cA_56 20 (fun _ => 0)), (eA0 q_57 cA_58 20 (fun _ => 0))] hP hD rfl
  refine W.widen (k := 29) (n := 242278) (by omega) (by omega) ?_
  refine va_putF (D := (dC, dI)) (ci := 12) (v := .ref q_57) (ty := tyX12 69) (C := RX12) (T := TX12) (N := 76) hx hb htw inlX12 tyX12 tyX12_ok nmX12 hown hK hP hD hS 0 rfl rfl 69 (by decide) (htw _ (ck_10 _ (List.mem_of_getElem? (i := 11) rfl))) (fun _ h9 => h9) rfl hin rfl (tyX12_ok 69 (by decide)) rfl rfl (Nat.le_of_ble_eq_true rfl) dX12_init_946 (fun H locs hP hD hS => ?_)
  obtain ⟨hP, hD⟩ := zre [(mq, .inr (12, (.ref q_1 :: .int 0 :: .int 0 :: .ref q_3 :: .int 0 :: .int (-1) :: .int 0 :: .int 0 :: .int 0 :: .int 0 :: .int 0 :: .int 0 :: .int 0 :: .int 0 :: .int 0 :: .int 0 :: .int 0 :: .int 0 :: .int 0 :: .int 0 :: .int 0 :: .int 0 :: .int 0 :: .int 0 :: .ref q_5 :: .int 0 :: .int 0 :: .int 0 :: .ref q_7 :: .ref q_9 :: .ref q_11 :: .ref q_13 :: .ref q_15 :: .ref q_17 :: .ref q_19 :: .ref q_21 :: .ref q_23 :: .ref q_25 :: .ref q_27 :: .ref q_29 :: .ref q_31 :: .ref q_33 :: .ref q_35 :: .ref q_37 :: [.long 0, .ref q_39, .ref q_41, .int 0, .int 0, .int 0, .int 0, .int 0, .int 0, .long 0, .long 0, .ref q_43, .ref q_45, .int 0, .int 0, .int 0, .ref q_47, .ref q_49, .int 0, .int 0, .int 0, .ref q_51, .ref q_53, .int 0, .ref q_55, .ref q_57, .int 0, .int 0, .int 0, .null, .null, .null]))), (eA0 q_1 cA_2 900 (fun _ => 0)), (eA0 q_3 cA_4 118 (ym_w 118)), (eA0 q_5 cA_6 14 (fun _ => 0)), (eA0 q_7 cA_8 8 (fun _ => 0)), (eA0 q_9 cA_10 24 (fun _ => 0)), (eA0 q_11 cA_12 8 (fun _ => 0)), (eA0 q_13 cA_14 8 (fun _ => 0)), (eA0 q_15 cA_16 8 (fun _ => 0)), (eA0 q_17 cA_18 12 (fun _ => 0)), (eA1 q_19 cA_20 12 (fun _ => 0)), (eA1 q_21 cA_22 12 (fun _ => 0)), (eA0 q_23 cA_24 8 (fun _ => 0)), (eA1 q_25 cA_26 8 (fun _ => 0)), (eA0 q_27 cA_28 24 (fun _ => 0)), (eA0 q_29 cA_30 12 (fun _ => 0)), (eA0 q_31 cA_32 264 (fun _ => 0)), (eA0 q_33 cA_34 128 (fun _ => 0)), (eA0 q_35 cA_36 128 (fun _ => 0)), (eA0 q_37 cA_38 128 (fun _ => 0)), (eA0 q_39 cA_40 96 (fun _ => 0)), (eA0 q_41 cA_42 96 (fun _ => 0)), (eA1 q_43 cA_44 6 (fun _ => 0)), (eA1 q_45 cA_46 64 (fun _ => 0)), (eA0 q_47 cA_48 128 (fun _ => 0)), (eA0 q_49 cA_50 240000 (fun _ => 0)), (eA0 q_51 cA_52 12 (fun _ => 0)), (eA0 q_53 cA_54 12 (fun _ => 0)), (eA0 q_55 cA_56 20 (fun _ => 0)), (eA0 q_57 cA_58 20 (fun _ => 0))] hP hD rfl
  refine lv_aload_n hx hb dX12_init_949 rfl (lv_at hl 0 rfl) ?_
  refine lv_sipush (v := 132) hx hb dX12_init_950 (by decide) ?_
  refine va_newa (ty := .int) (a0 := (132, .inl (fun _ => 0))) hx hb (htw _ (ck_2 _ (List.mem_of_getElem? (i := 7) rfl))) rfl hK hP hD hS hA (fun _ => rfl) (by decide) (by decide) (by decide) (Nat.le_of_ble_eq_true rfl) (Nat.le_of_ble_eq_true rfl) dX12_init_953 (fun q_59 cA_60 H hK hP hD hS => ?_)
  have hK : va_K (dC, dI) vwCl [(cA_2, .int), (cA_4, .int), (cA_6, .int), (cA_8, .int), (cA_10, .int), (cA_12, .int), (cA_14, .int), (cA_16, .int), (cA_18, .int), (cA_20, .long), (cA_22, .long), (cA_24, .int), (cA_26, .long), (cA_28, .int), (cA_30, .int), (cA_32, .int), (cA_34, .int), (cA_36, .int), (cA_38, .int), (cA_40, .int), (cA_42, .int), (cA_44, .long), (cA_46, .long), (cA_48, .int), (cA_50, .boolean), (cA_52, .int), (cA_54, .int), (cA_56, .int), (cA_58, .int), (cA_60, .int)] s := hK
  obtain ⟨hP, hD⟩ := zre [(mq, .inr (12, (.ref q_1 :: .int 0 :: .int 0 :: .ref q_3 :: .int 0 :: .int (-1) :: .int 0 :: .int 0 :: .int 0 :: .int 0 :: .int 0 :: .int 0 :: .int 0 :: .int 0 :: .int 0 :: .int 0 :: .int 0 :: .int 0 :: .int 0 :: .int 0 :: .int 0 :: .int 0 :: .int 0 :: .int 0 :: .ref q_5 :: .int 0 :: .int 0 :: .int 0 :: .ref q_7 :: .ref q_9 :: .ref q_11 :: .ref q_13 :: .ref q_15 :: .ref q_17 :: .ref q_19 :: .ref q_21 :: .ref q_23 :: .ref q_25 :: .ref q_27 :: .ref q_29 :: .ref q_31 :: .ref q_33 :: .ref q_35 :: .ref q_37 :: [.long 0, .ref q_39, .ref q_41, .int 0, .int 0, .int 0, .int 0, .int 0, .int 0, .long 0, .long 0, .ref q_43, .ref q_45, .int 0, .int 0, .int 0, .ref q_47, .ref q_49, .int 0, .int 0, .int 0, .ref q_51, .ref q_53, .int 0, .ref q_55, .ref q_57, .int 0, .int 0, .int 0, .null, .null, .null]))), (eA0 q_1 cA_2 900 (fun _ => 0)), (eA0 q_3 cA_4 118 (ym_w 118)), (eA0 q_5 cA_6 14 (fun _ => 0)), (eA0 q_7 cA_8 8 (fun _ => 0)), (eA0 q_9 cA_10 24 (fun _ => 0)), (eA0 q_11 cA_12 8 (fun _ => 0)), (eA0 q_13 cA_14 8 (fun _ => 0)), (eA0 q_15 cA_16 8 (fun _ => 0)), (eA0 q_17 cA_18 12 (fun _ => 0)), (eA1 q_19 cA_20 12 (fun _ => 0)), (eA1 q_21 cA_22 12 (fun _ => 0)), (eA0 q_23 cA_24 8 (fun _ => 0)), (eA1 q_25 cA_26 8 (fun _ => 0)), (eA0 q_27 cA_28 24 (fun _ => 0)), (eA0 q_29 cA_30 12 (fun _ => 0)), (eA0 q_31 cA_32 264 (fun _ => 0)), (eA0 q_33 cA_34 128 (fun _ => 0)), (eA0 q_35 cA_36 128 (fun _ => 0)), (eA0 q_37 cA_38 128 (fun _ => 0)), (eA0 q_39 cA_40 96 (fun _ => 0)), (eA0 q_41 cA_42 96 (fun _ => 0)), (eA1 q_43 cA_44 6 (fun _ => 0)), (eA1 q_45 cA_46 64 (fun _ => 0)), (eA0 q_47 cA_48 128 (fun _ => 0)), (eA0 q_49 cA_50 240000 (fun _ => 0)), (eA0 q_51 cA_52 12 (fun _ => 0)), (eA0 q_53 cA_54 12 (fun _ => 0)), (eA0 q_55 cA_56 20 (fun _ => 0)), (eA0 q_57 cA_58 20 (fun _ => 0)), (eA0 q_59 cA_60 132 (fun _ => 0))] hP hD rfl
  refine W.widen (k := 30) (n := 242410) (by omega) (by omega) ?_
  refine va_putF (D := (dC, dI)) (ci := 12) (v := .ref q_59) (ty := tyX12 73) (C := RX12) (T := TX12) (N := 76) hx hb htw inlX12 tyX12 tyX12_ok nmX12 hown hK hP hD hS 0 rfl rfl 73 (by decide) (htw _ (ck_10 _ (List.mem_of_getElem? (i := 12) rfl))) (fun _ h9 => h9) rfl hin rfl (tyX12_ok 73 (by decide)) rfl rfl (Nat.le_of_ble_eq_true rfl) dX12_init_955 (fun H locs hP hD hS => ?_)
  obtain ⟨hP, hD⟩ := zre [(mq, .inr (12, (.ref q_1 :: .int 0 :: .int 0 :: .ref q_3 :: .int 0 :: .int (-1) :: .int 0 :: .int 0 :: .int 0 :: .int 0 :: .int 0 :: .int 0 :: .int 0 :: .int 0 :: .int 0 :: .int 0 :: .int 0 :: .int 0 :: .int 0 :: .int 0 :: .int 0 :: .int 0 :: .int 0 :: .int 0 :: .ref q_5 :: .int 0 :: .int 0 :: .int 0 :: .ref q_7 :: .ref q_9 :: .ref q_11 :: .ref q_13 :: .ref q_15 :: .ref q_17 :: .ref q_19 :: .ref q_21 :: .ref q_23 :: .ref q_25 :: .ref q_27 :: .ref q_29 :: .ref q_31 :: .ref q_33 :: .ref q_35 :: .ref q_37 :: [.long 0, .ref q_39, .ref q_41, .int 0, .int 0, .int 0, .int 0, .int 0, .int 0, .long 0, .long 0, .ref q_43, .ref q_45, .int 0, .int 0, .int 0, .ref q_47, .ref q_49, .int 0, .int 0, .int 0, .ref q_51, .ref q_53, .int 0, .ref q_55, .ref q_57, .int 0, .int 0, .int 0, .ref q_59, .null, .null]))), (eA0 q_1 cA_2 900 (fun _ => 0)), (eA0 q_3 cA_4 118 (ym_w 118)), (eA0 q_5 cA_6 14 (fun _ => 0)), (eA0 q_7 cA_8 8 (fun _ => 0)), (eA0 q_9 cA_10 24 (fun _ => 0)), (eA0 q_11 cA_12 8 (fun _ => 0)), (eA0 q_13 cA_14 8 (fun _ => 0)), (eA0 q_15 cA_16 8 (fun _ => 0)), (eA0 q_17 cA_18 12 (fun _ => 0)), (eA1 q_19 cA_20 12 (fun _ => 0)), (eA1 q_21 cA_22 12 (fun _ => 0)), (eA0 q_23 cA_24 8 (fun _ => 0)), (eA1 q_25 cA_26 8 (fun _ => 0)), (eA0 q_27 cA_28 24 (fun _ => 0)), (eA0 q_29 cA_30 12 (fun _ => 0)), (eA0 q_31 cA_32 264 (fun _ => 0)), (eA0 q_33 cA_34 128 (fun _ => 0)), (eA0 q_35 cA_36 128 (fun _ => 0)), (eA0 q_37 cA_38 128 (fun _ => 0)), (eA0 q_39 cA_40 96 (fun _ => 0)), (eA0 q_41 cA_42 96 (fun _ => 0)), (eA1 q_43 cA_44 6 (fun _ => 0)), (eA1 q_45 cA_46 64 (fun _ => 0)), (eA0 q_47 cA_48 128 (fun _ => 0)), (eA0 q_49 cA_50 240000 (fun _ => 0)), (eA0 q_51 cA_52 12 (fun _ => 0)), (eA0 q_53 cA_54 12 (fun _ => 0)), (eA0 q_55 cA_56 20 (fun _ => 0)), (eA0 q_57 cA_58 20 (fun _ => 0)), (eA0 q_59 cA_60 132 (fun _ => 0))] hP hD rfl
  refine lv_aload_n hx hb dX12_init_958 rfl (lv_at hl 0 rfl) ?_
  refine lv_bipush (v := 20) hx hb dX12_init_959 (by decide) ?_
  refine va_newa (ty := .int) (a0 := (20, .inl (fun _ => 0))) hx hb (htw _ (ck_2 _ (List.mem_of_getElem? (i := 7) rfl))) rfl hK hP hD hS hA (fun _ => rfl) (by decide) (by decide) (by decide) (Nat.le_of_ble_eq_true rfl) (Nat.le_of_ble_eq_true rfl) dX12_init_961 (fun q_61 cA_62 H hK hP hD hS => ?_)
  have hK : va_K (dC, dI) vwCl [(cA_2, .int), (cA_4, .int), (cA_6, .int), (cA_8, .int), (cA_10, .int), (cA_12, .int), (cA_14, .int), (cA_16, .int), (cA_18, .int), (cA_20, .long), (cA_22, .long), (cA_24, .int), (cA_26, .long), (cA_28, .int), (cA_30, .int), (cA_32, .int), (cA_34, .int), (cA_36, .int), (cA_38, .int), (cA_40, .int), (cA_42, .int), (cA_44, .long), (cA_46, .long), (cA_48, .int), (cA_50, .boolean), (cA_52, .int), (cA_54, .int), (cA_56, .int), (cA_58, .int), (cA_60, .int), (cA_62, .int)] s := hK
  obtain ⟨hP, hD⟩ := zre [(mq, .inr (12, (.ref q_1 :: .int 0 :: .int 0 :: .ref q_3 :: .int 0 :: .int (-1) :: .int 0 :: .int 0 :: .int 0 :: .int 0 :: .int 0 :: .int 0 :: .int 0 :: .int 0 :: .int 0 :: .int 0 :: .int 0 :: .int 0 :: .int 0 :: .int 0 :: .int 0 :: .int 0 :: .int 0 :: .int 0 :: .ref q_5 :: .int 0 :: .int 0 :: .int 0 :: .ref q_7 :: .ref q_9 :: .ref q_11 :: .ref q_13 :: .ref q_15 :: .ref q_17 :: .ref q_19 :: .ref q_21 :: .ref q_23 :: .ref q_25 :: .ref q_27 :: .ref q_29 :: .ref q_31 :: .ref q_33 :: .ref q_35 :: .ref q_37 :: [.long 0, .ref q_39, .ref q_41, .int 0, .int 0, .int 0, .int 0, .int 0, .int 0, .long 0, .long 0, .ref q_43, .ref q_45, .int 0, .int 0, .int 0, .ref q_47, .ref q_49, .int 0, .int 0, .int 0, .ref q_51, .ref q_53, .int 0, .ref q_55, .ref q_57, .int 0, .int 0, .int 0, .ref q_59, .null, .null]))), (eA0 q_1 cA_2 900 (fun _ => 0)), (eA0 q_3 cA_4 118 (ym_w 118)), (eA0 q_5 cA_6 14 (fun _ => 0)), (eA0 q_7 cA_8 8 (fun _ => 0)), (eA0 q_9 cA_10 24 (fun _ => 0)), (eA0 q_11 cA_12 8 (fun _ => 0)), (eA0 q_13 cA_14 8 (fun _ => 0)), (eA0 q_15 cA_16 8 (fun _ => 0)), (eA0 q_17 cA_18 12 (fun _ => 0)), (eA1 q_19 cA_20 12 (fun _ => 0)), (eA1 q_21 cA_22 12 (fun _ => 0)), (eA0 q_23 cA_24 8 (fun _ => 0)), (eA1 q_25 cA_26 8 (fun _ => 0)), (eA0 q_27 cA_28 24 (fun _ => 0)), (eA0 q_29 cA_30 12 (fun _ => 0)), (eA0 q_31 cA_32 264 (fun _ => 0)), (eA0 q_33 cA_34 128 (fun _ => 0)), (eA0 q_35 cA_36 128 (fun _ => 0)), (eA0 q_37 cA_38 128 (fun _ => 0)), (eA0 q_39 cA_40 96 (fun _ => 0)), (eA0 q_41 cA_42 96 (fun _ => 0)), (eA1 q_43 cA_44 6 (fun _ => 0)), (eA1 q_45 cA_46 64 (fun _ => 0)), (eA0 q_47 cA_48 128 (fun _ => 0)), (eA0 q_49 cA_50 240000 (fun _ => 0)), (eA0 q_51 cA_52 12 (fun _ => 0)), (eA0 q_53 cA_54 12 (fun _ => 0)), (eA0 q_55 cA_56 20 (fun _ => 0)), (eA0 q_57 cA_58 20 (fun _ => 0)), (eA0 q_59 cA_60 132 (fun _ => 0)), (eA0 q_61 cA_62 20 (fun _ => 0))] hP hD rfl
  refine W.widen (k := 31) (n := 242430) (by omega) (by omega) ?_
  refine va_putF (D := (dC, dI)) (ci := 12) (v := .ref q_61) (ty := tyX12 74) (C := RX12) (T := TX12) (N := 76) hx hb htw inlX12 tyX12 tyX12_ok nmX12 hown hK hP hD hS 0 rfl rfl 74 (by decide) (htw _ (ck_10 _ (List.mem_of_getElem? (i := 13) rfl))) (fun _ h9 => h9) rfl hin rfl (tyX12_ok 74 (by decide)) rfl rfl (Nat.le_of_ble_eq_true rfl) dX12_init_963 (fun H locs hP hD hS => ?_)
  obtain ⟨hP, hD⟩ := zre [(mq, .inr (12, (.ref q_1 :: .int 0 :: .int 0 :: .ref q_3 :: .int 0 :: .int (-1) :: .int 0 :: .int 0 :: .int 0 :: .int 0 :: .int 0 :: .int 0 :: .int 0 :: .int 0 :: .int 0 :: .int 0 :: .int 0 :: .int 0 :: .int 0 :: .int 0 :: .int 0 :: .int 0 :: .int 0 :: .int 0 :: .ref q_5 :: .int 0 :: .int 0 :: .int 0 :: .ref q_7 :: .ref q_9 :: .ref q_11 :: .ref q_13 :: .ref q_15 :: .ref q_17 :: .ref q_19 :: .ref q_21 :: .ref q_23 :: .ref q_25 :: .ref q_27 :: .ref q_29 :: .ref q_31 :: .ref q_33 :: .ref q_35 :: .ref q_37 :: [.long 0, .ref q_39, .ref q_41, .int 0, .int 0, .int 0, .int 0, .int 0, .int 0, .long 0, .long 0, .ref q_43, .ref q_45, .int 0, .int 0, .int 0, .ref q_47, .ref q_49, .int 0, .int 0, .int 0, .ref q_51, .ref q_53, .int 0, .ref q_55, .ref q_57, .int 0, .int 0, .int 0, .ref q_59, .ref q_61, .null]))), (eA0 q_1 cA_2 900 (fun _ => 0)), (eA0 q_3 cA_4 118 (ym_w 118)), (eA0 q_5 cA_6 14 (fun _ => 0)), (eA0 q_7 cA_8 8 (fun _ => 0)), (eA0 q_9 cA_10 24 (fun _ => 0)), (eA0 q_11 cA_12 8 (fun _ => 0)), (eA0 q_13 cA_14 8 (fun _ => 0)), (eA0 q_15 cA_16 8 (fun _ => 0)), (eA0 q_17 cA_18 12 (fun _ => 0)), (eA1 q_19 cA_20 12 (fun _ => 0)), (eA1 q_21 cA_22 12 (fun _ => 0)), (eA0 q_23 cA_24 8 (fun _ => 0)), (eA1 q_25 cA_26 8 (fun _ => 0)), (eA0 q_27 cA_28 24 (fun _ => 0)), (eA0 q_29 cA_30 12 (fun _ => 0)), (eA0 q_31 cA_32 264 (fun _ => 0)), (eA0 q_33 cA_34 128 (fun _ => 0)), (eA0 q_35 cA_36 128 (fun _ => 0)), (eA0 q_37 cA_38 128 (fun _ => 0)), (eA0 q_39 cA_40 96 (fun _ => 0)), (eA0 q_41 cA_42 96 (fun _ => 0)), (eA1 q_43 cA_44 6 (fun _ => 0)), (eA1 q_45 cA_46 64 (fun _ => 0)), (eA0 q_47 cA_48 128 (fun _ => 0)), (eA0 q_49 cA_50 240000 (fun _ => 0)), (eA0 q_51 cA_52 12 (fun _ => 0)), (eA0 q_53 cA_54 12 (fun _ => 0)), (eA0 q_55 cA_56 20 (fun _ => 0)), (eA0 q_57 cA_58 20 (fun _ => 0)), (eA0 q_59 cA_60 132 (fun _ => 0)), (eA0 q_61 cA_62 20 (fun _ => 0))] hP hD rfl
  refine lv_aload_n hx hb dX12_init_966 rfl (lv_at hl 0 rfl) ?_
  refine lv_bipush (v := 20) hx hb dX12_init_967 (by decide) ?_
  refine va_newa (ty := .int) (a0 := (20, .inl (fun _ => 0))) hx hb (htw _ (ck_2 _ (List.mem_of_getElem? (i := 7) rfl))) rfl hK hP hD hS hA (fun _ => rfl) (by decide) (by decide) (by decide) (Nat.le_of_ble_eq_true rfl) (Nat.le_of_ble_eq_true rfl) dX12_init_969 (fun q_63 cA_64 H hK hP hD hS => ?_)
  have hK : va_K (dC, dI) vwCl [(cA_2, .int), (cA_4, .int), (cA_6, .int), (cA_8, .int), (cA_10, .int), (cA_12, .int), (cA_14, .int), (cA_16, .int), (cA_18, .int), (cA_20, .long), (cA_22, .long), (cA_24, .int), (cA_26, .long), (cA_28, .int), (cA_30, .int), (cA_32, .int), (cA_34, .int), (cA_36, .int), (cA_38, .int), (cA_40, .int), (cA_42, .int), (cA_44, .long), (cA_46, .long), (cA_48, .int), (cA_50, .boolean), (cA_52, .int), (cA_54, .int), (cA_56, .int), (cA_58, .int), (cA_60, .int), (cA_62, .int), (cA_64, .int)] s := hK
  have hP : va_P (dC, dI) vwCl ((mq, .inr (12, [.ref q_1, .int 0, .int 0, .ref q_3, .int 0, .int (-1), .int 0, .int 0, .int 0, .int 0, .int 0, .int 0, .int 0, .int 0, .int 0, .int 0, .int 0, .int 0, .int 0, .int 0, .int 0, .int 0, .int 0, .int 0, .ref q_5, .int 0, .int 0, .int 0, .ref q_7, .ref q_9, .ref q_11, .ref q_13, .ref q_15, .ref q_17, .ref q_19, .ref q_21, .ref q_23, .ref q_25, .ref q_27, .ref q_29, .ref q_31, .ref q_33, .ref q_35, .ref q_37, .long 0, .ref q_39, .ref q_41, .int 0, .int 0, .int 0, .int 0, .int 0, .int 0, .long 0, .long 0, .ref q_43, .ref q_45, .int 0, .int 0, .int 0, .ref q_47, .ref q_49, .int 0, .int 0, .int 0, .ref q_51, .ref q_53, .int 0, .ref q_55, .ref q_57, .int 0, .int 0, .int 0, .ref q_59, .ref q_61, .null])) :: [(eA0 q_1 cA_2 900 (fun _ => 0)), (eA0 q_3 cA_4 118 (ym_w 118)), (eA0 q_5 cA_6 14 (fun _ => 0)), (eA0 q_7 cA_8 8 (fun _ => 0)), (eA0 q_9 cA_10 24 (fun _ => 0)), (eA0 q_11 cA_12 8 (fun _ => 0)), (eA0 q_13 cA_14 8 (fun _ => 0)), (eA0 q_15 cA_16 8 (fun _ => 0)), (eA0 q_17 cA_18 12 (fun _ => 0)), (eA1 q_19 cA_20 12 (fun _ => 0)), (eA1 q_21 cA_22 12 (fun _ => 0)), (eA0 q_23 cA_24 8 (fun _ => 0)), (eA1 q_25 cA_26 8 (fun _ => 0)), (eA0 q_27 cA_28 24 (fun _ => 0)), (eA0 q_29 cA_30 12 (fun _ => 0)), (eA0 q_31 cA_32 264 (fun _ => 0)), (eA0 q_33 cA_34 128 (fun _ => 0)), (eA0 q_35 cA_36 128 (fun _ => 0)), (eA0 q_37 cA_38 128 (fun _ => 0)), (eA0 q_39 cA_40 96 (fun _ => 0)), (eA0 q_41 cA_42 96 (fun _ => 0)), (eA1 q_43 cA_44 6 (fun _ => 0)), (eA1 q_45 cA_46 64 (fun _ => 0)), (eA0 q_47 cA_48 128 (fun _ => 0)), (eA0 q_49 cA_50 240000 (fun _ => 0)), (eA0 q_51 cA_52 12 (fun _ => 0)), (eA0 q_53 cA_54 12 (fun _ => 0)), (eA0 q_55 cA_56 20 (fun _ => 0)), (eA0 q_57 cA_58 20 (fun _ => 0)), (eA0 q_59 cA_60 132 (fun _ => 0)), (eA0 q_61 cA_62 20 (fun _ => 0)), (eA0 q_63 cA_64 20 (fun _ => 0))]) H := hP
  have hD : va_D A ((mq, .inr (12, [.ref q_1, .int 0, .int 0, .ref q_3, .int 0, .int (-1), .int 0, .int 0, .int 0, .int 0, .int 0, .int 0, .int 0, .int 0, .int 0, .int 0, .int 0, .int 0, .int 0, .int 0, .int 0, .int 0, .int 0, .int 0, .ref q_5, .int 0, .int 0, .int 0, .ref q_7, .ref q_9, .ref q_11, .ref q_13, .ref q_15, .ref q_17, .ref q_19, .ref q_21, .ref q_23, .ref q_25, .ref q_27, .ref q_29, .ref q_31, .ref q_33, .ref q_35, .ref q_37, .long 0, .ref q_39, .ref q_41, .int 0, .int 0, .int 0, .int 0, .int 0, .int 0, .long 0, .long 0, .ref q_43, .ref q_45, .int 0, .int 0, .int 0, .ref q_47, .ref q_49, .int 0, .int 0, .int 0, .ref q_51, .ref q_53, .int 0, .ref q_55, .ref q_57, .int 0, .int 0, .int 0, .ref q_59, .ref q_61, .null])) :: [(eA0 q_1 cA_2 900 (fun _ => 0)), (eA0 q_3 cA_4 118 (ym_w 118)), (eA0 q_5 cA_6 14 (fun _ => 0)), (eA0 q_7 cA_8 8 (fun _ => 0)), (eA0 q_9 cA_10 24 (fun _ => 0)), (eA0 q_11 cA_12 8 (fun _ => 0)), (eA0 q_13 cA_14 8 (fun _ => 0)), (eA0 q_15 cA_16 8 (fun _ => 0)), (eA0 q_17 cA_18 12 (fun _ => 0)), (eA1 q_19 cA_20 12 (fun _ => 0)), (eA1 q_21 cA_22 12 (fun _ => 0)), (eA0 q_23 cA_24 8 (fun _ => 0)), (eA1 q_25 cA_26 8 (fun _ => 0)), (eA0 q_27 cA_28 24 (fun _ => 0)), (eA0 q_29 cA_30 12 (fun _ => 0)), (eA0 q_31 cA_32 264 (fun _ => 0)), (eA0 q_33 cA_34 128 (fun _ => 0)), (eA0 q_35 cA_36 128 (fun _ => 0)), (eA0 q_37 cA_38 128 (fun _ => 0)), (eA0 q_39 cA_40 96 (fun _ => 0)), (eA0 q_41 cA_42 96 (fun _ => 0)), (eA1 q_43 cA_44 6 (fun _ => 0)), (eA1 q_45 cA_46 64 (fun _ => 0)), (eA0 q_47 cA_48 128 (fun _ => 0)), (eA0 q_49 cA_50 240000 (fun _ => 0)), (eA0 q_51 cA_52 12 (fun _ => 0)), (eA0 q_53 cA_54 12 (fun _ => 0)), (eA0 q_55 cA_56 20 (fun _ => 0)), (eA0 q_57 cA_58 20 (fun _ => 0)), (eA0 q_59 cA_60 132 (fun _ => 0)), (eA0 q_61 cA_62 20 (fun _ => 0)), (eA0 q_63 cA_64 20 (fun _ => 0))]) := hD
  refine W.widen (k := 32) (n := 242450) (by omega) (by omega) ?_
  refine va_putF (D := (dC, dI)) (ci := 12) (v := .ref q_63) (ty := tyX12 75) (C := RX12) (T := TX12) (N := 76) hx hb htw inlX12 tyX12 tyX12_ok nmX12 hown hK hP hD hS 0 rfl rfl 75 (by decide) (htw _ (ck_10 _ (List.mem_of_getElem? (i := 14) rfl))) (fun _ h9 => h9) rfl hin rfl (tyX12_ok 75 (by decide)) rfl rfl (Nat.le_of_ble_eq_true rfl) dX12_init_971 (fun H locs hP hD hS => ?_)
  have hP : va_P (dC, dI) vwCl ((mq, .inr (12, [.ref q_1, .int 0, .int 0, .ref q_3, .int 0, .int (-1), .int 0, .int 0, .int 0, .int 0, .int 0, .int 0, .int 0, .int 0, .int 0, .int 0, .int 0, .int 0, .int 0, .int 0, .int 0, .int 0, .int 0, .int 0, .ref q_5, .int 0, .int 0, .int 0, .ref q_7, .ref q_9, .ref q_11, .ref q_13, .ref q_15, .ref q_17, .ref q_19, .ref q_21, .ref q_23, .ref q_25, .ref q_27, .ref q_29, .ref q_31, .ref q_33, .ref q_35, .ref q_37, .long 0, .ref q_39, .ref q_41, .int 0, .int 0, .int 0, .int 0, .int 0, .int 0, .long 0, .long 0, .ref q_43, .ref q_45, .int 0, .int 0, .int 0, .ref q_47, .ref q_49, .int 0, .int 0, .int 0, .ref q_51, .ref q_53, .int 0, .ref q_55, .ref q_57, .int 0, .int 0, .int 0, .ref q_59, .ref q_61, .ref q_63])) :: [(eA0 q_1 cA_2 900 (fun _ => 0)), (eA0 q_3 cA_4 118 (ym_w 118)), (eA0 q_5 cA_6 14 (fun _ => 0)), (eA0 q_7 cA_8 8 (fun _ => 0)), (eA0 q_9 cA_10 24 (fun _ => 0)), (eA0 q_11 cA_12 8 (fun _ => 0)), (eA0 q_13 cA_14 8 (fun _ => 0)), (eA0 q_15 cA_16 8 (fun _ => 0)), (eA0 q_17 cA_18 12 (fun _ => 0)), (eA1 q_19 cA_20 12 (fun _ => 0)), (eA1 q_21 cA_22 12 (fun _ => 0)), (eA0 q_23 cA_24 8 (fun _ => 0)), (eA1 q_25 cA_26 8 (fun _ => 0)), (eA0 q_27 cA_28 24 (fun _ => 0)), (eA0 q_29 cA_30 12 (fun _ => 0)), (eA0 q_31 cA_32 264 (fun _ => 0)), (eA0 q_33 cA_34 128 (fun _ => 0)), (eA0 q_35 cA_36 128 (fun _ => 0)), (eA0 q_37 cA_38 128 (fun _ => 0)), (eA0 q_39 cA_40 96 (fun _ => 0)), (eA0 q_41 cA_42 96 (fun _ => 0)), (eA1 q_43 cA_44 6 (fun _ => 0)), (eA1 q_45 cA_46 64 (fun _ => 0)), (eA0 q_47 cA_48 128 (fun _ => 0)), (eA0 q_49 cA_50 240000 (fun _ => 0)), (eA0 q_51 cA_52 12 (fun _ => 0)), (eA0 q_53 cA_54 12 (fun _ => 0)), (eA0 q_55 cA_56 20 (fun _ => 0)), (eA0 q_57 cA_58 20 (fun _ => 0)), (eA0 q_59 cA_60 132 (fun _ => 0)), (eA0 q_61 cA_62 20 (fun _ => 0)), (eA0 q_63 cA_64 20 (fun _ => 0))]) H := hP
  have hD : va_D A ((mq, .inr (12, [.ref q_1, .int 0, .int 0, .ref q_3, .int 0, .int (-1), .int 0, .int 0, .int 0, .int 0, .int 0, .int 0, .int 0, .int 0, .int 0, .int 0, .int 0, .int 0, .int 0, .int 0, .int 0, .int 0, .int 0, .int 0, .ref q_5, .int 0, .int 0, .int 0, .ref q_7, .ref q_9, .ref q_11, .ref q_13, .ref q_15, .ref q_17, .ref q_19, .ref q_21, .ref q_23, .ref q_25, .ref q_27, .ref q_29, .ref q_31, .ref q_33, .ref q_35, .ref q_37, .long 0, .ref q_39, .ref q_41, .int 0, .int 0, .int 0, .int 0, .int 0, .int 0, .long 0, .long 0, .ref q_43, .ref q_45, .int 0, .int 0, .int 0, .ref q_47, .ref q_49, .int 0, .int 0, .int 0, .ref q_51, .ref q_53, .int 0, .ref q_55, .ref q_57, .int 0, .int 0, .int 0, .ref q_59, .ref q_61, .ref q_63])) :: [(eA0 q_1 cA_2 900 (fun _ => 0)), (eA0 q_3 cA_4 118 (ym_w 118)), (eA0 q_5 cA_6 14 (fun _ => 0)), (eA0 q_7 cA_8 8 (fun _ => 0)), (eA0 q_9 cA_10 24 (fun _ => 0)), (eA0 q_11 cA_12 8 (fun _ => 0)), (eA0 q_13 cA_14 8 (fun _ => 0)), (eA0 q_15 cA_16 8 (fun _ => 0)), (eA0 q_17 cA_18 12 (fun _ => 0)), (eA1 q_19 cA_20 12 (fun _ => 0)), (eA1 q_21 cA_22 12 (fun _ => 0)), (eA0 q_23 cA_24 8 (fun _ => 0)), (eA1 q_25 cA_26 8 (fun _ => 0)), (eA0 q_27 cA_28 24 (fun _ => 0)), (eA0 q_29 cA_30 12 (fun _ => 0)), (eA0 q_31 cA_32 264 (fun _ => 0)), (eA0 q_33 cA_34 128 (fun _ => 0)), (eA0 q_35 cA_36 128 (fun _ => 0)), (eA0 q_37 cA_38 128 (fun _ => 0)), (eA0 q_39 cA_40 96 (fun _ => 0)), (eA0 q_41 cA_42 96 (fun _ => 0)), (eA1 q_43 cA_44 6 (fun _ => 0)), (eA1 q_45 cA_46 64 (fun _ => 0)), (eA0 q_47 cA_48 128 (fun _ => 0)), (eA0 q_49 cA_50 240000 (fun _ => 0)), (eA0 q_51 cA_52 12 (fun _ => 0)), (eA0 q_53 cA_54 12 (fun _ => 0)), (eA0 q_55 cA_56 20 (fun _ => 0)), (eA0 q_57 cA_58 20 (fun _ => 0)), (eA0 q_59 cA_60 132 (fun _ => 0)), (eA0 q_61 cA_62 20 (fun _ => 0)), (eA0 q_63 cA_64 20 (fun _ => 0))]) := hD
  have hP := hP.sub (ws' := ((mq, .inr (12, [.ref q_1, .int 0, .int 0, .ref q_3, .int 0, .int (-1), .int 0, .int 0, .int 0, .int 0, .int 0, .int 0, .int 0, .int 0, .int 0, .int 0, .int 0, .int 0, .int 0, .int 0, .int 0, .int 0, .int 0, .int 0, .ref q_5, .int 0, .int 0, .int 0, .ref q_7, .ref q_9, .ref q_11, .ref q_13, .ref q_15, .ref q_17, .ref q_19, .ref q_21, .ref q_23, .ref q_25, .ref q_27, .ref q_29, .ref q_31, .ref q_33, .ref q_35, .ref q_37, .long 0, .ref q_39, .ref q_41, .int 0, .int 0, .int 0, .int 0, .int 0, .int 0, .long 0, .long 0, .ref q_43, .ref q_45, .int 0, .int 0, .int 0, .ref q_47, .ref q_49, .int 0, .int 0, .int 0, .ref q_51, .ref q_53, .int 0, .ref q_55, .ref q_57, .int 0, .int 0, .int 0, .ref q_59, .ref q_61, .ref q_63])) :: [(eA0 q_1 cA_2 900 (fun _ => 0)), (eA0 q_3 cA_4 118 (ym_w 118)), (eA0 q_5 cA_6 14 (fun _ => 0)), (eA0 q_7 cA_8 8 (fun _ => 0)), (eA0 q_9 cA_10 24 (fun _ => 0)), (eA0 q_11 cA_12 8 (fun _ => 0)), (eA0 q_13 cA_14 8 (fun _ => 0)), (eA0 q_15 cA_16 8 (fun _ => 0)), (eA0 q_17 cA_18 12 (fun _ => 0)), (eA1 q_19 cA_20 12 (fun _ => 0)), (eA1 q_21 cA_22 12 (fun _ => 0)), (eA0 q_23 cA_24 8 (fun _ => 0)), (eA1 q_25 cA_26 8 (fun _ => 0)), (eA0 q_27 cA_28 24 (fun _ => 0)), (eA0 q_29 cA_30 12 (fun _ => 0)), (eA0 q_31 cA_32 264 (fun _ => 0)), (eA0 q_33 cA_34 128 (fun _ => 0)), (eA0 q_35 cA_36 128 (fun _ => 0)), (eA0 q_37 cA_38 128 (fun _ => 0)), (eA0 q_39 cA_40 96 (fun _ => 0)), (eA0 q_41 cA_42 96 (fun _ => 0)), (eA1 q_43 cA_44 6 (fun _ => 0)), (eA1 q_45 cA_46 64 (fun _ => 0)), (eA0 q_47 cA_48 128 (fun _ => 0)), (eA0 q_49 cA_50 240000 (fun _ => 0)), (eA0 q_51 cA_52 12 (fun _ => 0)), (eA0 q_53 cA_54 12 (fun _ => 0)), (eA0 q_55 cA_56 20 (fun _ => 0)), (eA0 q_57 cA_58 20 (fun _ => 0)), (eA0 q_59 cA_60 132 (fun _ => 0)), (eA0 q_61 cA_62 20 (fun _ => 0)), (eA0 q_63 cA_64 20 (fun _ => 0))])) (0 :: [1, 2, 3, 4, 5, 6, 7, 8, 9, 10, 11, 12, 13, 14, 15, 16, 17, 18, 19, 20, 21, 22, 23, 24, 25, 26, 27, 28, 29, 30, 31, 32]) rfl
  have hD := hD.sub (ws' := ((mq, .inr (12, [.ref q_1, .int 0, .int 0, .ref q_3, .int 0, .int (-1), .int 0, .int 0, .int 0, .int 0, .int 0, .int 0, .int 0, .int 0, .int 0, .int 0, .int 0, .int 0, .int 0, .int 0, .int 0, .int 0, .int 0, .int 0, .ref q_5, .int 0, .int 0, .int 0, .ref q_7, .ref q_9, .ref q_11, .ref q_13, .ref q_15, .ref q_17, .ref q_19, .ref q_21, .ref q_23, .ref q_25, .ref q_27, .ref q_29, .ref q_31, .ref q_33, .ref q_35, .ref q_37, .long 0, .ref q_39, .ref q_41, .int 0, .int 0, .int 0, .int 0, .int 0, .int 0, .long 0, .long 0, .ref q_43, .ref q_45, .int 0, .int 0, .int 0, .ref q_47, .ref q_49, .int 0, .int 0, .int 0, .ref q_51, .ref q_53, .int 0, .ref q_55, .ref q_57, .int 0, .int 0, .int 0, .ref q_59, .ref q_61, .ref q_63])) :: [(eA0 q_1 cA_2 900 (fun _ => 0)), (eA0 q_3 cA_4 118 (ym_w 118)), (eA0 q_5 cA_6 14 (fun _ => 0)), (eA0 q_7 cA_8 8 (fun _ => 0)), (eA0 q_9 cA_10 24 (fun _ => 0)), (eA0 q_11 cA_12 8 (fun _ => 0)), (eA0 q_13 cA_14 8 (fun _ => 0)), (eA0 q_15 cA_16 8 (fun _ => 0)), (eA0 q_17 cA_18 12 (fun _ => 0)), (eA1 q_19 cA_20 12 (fun _ => 0)), (eA1 q_21 cA_22 12 (fun _ => 0)), (eA0 q_23 cA_24 8 (fun _ => 0)), (eA1 q_25 cA_26 8 (fun _ => 0)), (eA0 q_27 cA_28 24 (fun _ => 0)), (eA0 q_29 cA_30 12 (fun _ => 0)), (eA0 q_31 cA_32 264 (fun _ => 0)), (eA0 q_33 cA_34 128 (fun _ => 0)), (eA0 q_35 cA_36 128 (fun _ => 0)), (eA0 q_37 cA_38 128 (fun _ => 0)), (eA0 q_39 cA_40 96 (fun _ => 0)), (eA0 q_41 cA_42 96 (fun _ => 0)), (eA1 q_43 cA_44 6 (fun _ => 0)), (eA1 q_45 cA_46 64 (fun _ => 0)), (eA0 q_47 cA_48 128 (fun _ => 0)), (eA0 q_49 cA_50 240000 (fun _ => 0)), (eA0 q_51 cA_52 12 (fun _ => 0)), (eA0 q_53 cA_54 12 (fun _ => 0)), (eA0 q_55 cA_56 20 (fun _ => 0)), (eA0 q_57 cA_58 20 (fun _ => 0)), (eA0 q_59 cA_60 132 (fun _ => 0)), (eA0 q_61 cA_62 20 (fun _ => 0)), (eA0 q_63 cA_64 20 (fun _ => 0))])) (0 :: [1, 2, 3, 4, 5, 6, 7, 8, 9, 10, 11, 12, 13, 14, 15, 16, 17, 18, 19, 20, 21, 22, 23, 24, 25, 26, 27, 28, 29, 30, 31, 32]) (by decide) rfl
  have hK := hK.sub (tys' := [(cA_2, .int), (cA_4, .int), (cA_6, .int), (cA_8, .int), (cA_10, .int), (cA_12, .int), (cA_14, .int), (cA_16, .int), (cA_18, .int), (cA_20, .long), (cA_22, .long), (cA_24, .int), (cA_26, .long), (cA_28, .int), (cA_30, .int), (cA_32, .int), (cA_34, .int), (cA_36, .int), (cA_38, .int), (cA_40, .int), (cA_42, .int), (cA_44, .long), (cA_46, .long), (cA_48, .int), (cA_50, .boolean), (cA_52, .int), (cA_54, .int), (cA_56, .int), (cA_58, .int), (cA_60, .int), (cA_62, .int), (cA_64, .int)]) [0, 1, 2, 3, 4, 5, 6, 7, 8, 9, 10, 11, 12, 13, 14, 15, 16, 17, 18, 19, 20, 21, 22, 23, 24, 25, 26, 27, 28, 29, 30, 31] rfl
  have hP : va_P (dC, dI) vwCl ((mq, .inr (12, mF ym_g ym_l (ym_rf q_1 q_3 q_5 q_7 q_9 q_11 q_13 q_15 q_17 q_19 q_21 q_23 q_25 q_27 q_29 q_31 q_33 q_35 q_37 q_39 q_41 q_43 q_45 q_47 q_49 q_51 q_53 q_55 q_57 q_59 q_61 q_63))) :: [(((ym_rf q_1 q_3 q_5 q_7 q_9 q_11 q_13 q_15 q_17 q_19 q_21 q_23 q_25 q_27 q_29 q_31 q_33 q_35 q_37 q_39 q_41 q_43 q_45 q_47 q_49 q_51 q_53 q_55 q_57 q_59 q_61 q_63) 0), .inl (((ym_ck cA_2 cA_4 cA_6 cA_8 cA_10 cA_12 cA_14 cA_16 cA_18 cA_20 cA_22 cA_24 cA_26 cA_28 cA_30 cA_32 cA_34 cA_36 cA_38 cA_40 cA_42 cA_44 cA_46 cA_48 cA_50 cA_52 cA_54 cA_56 cA_58 cA_60 cA_62 cA_64) 0), 900, .inl (fun _ => 0))), (((ym_rf q_1 q_3 q_5 q_7 q_9 q_11 q_13 q_15 q_17 q_19 q_21 q_23 q_25 q_27 q_29 q_31 q_33 q_35 q_37 q_39 q_41 q_43 q_45 q_47 q_49 q_51 q_53 q_55 q_57 q_59 q_61 q_63) 3), .inl (((ym_ck cA_2 cA_4 cA_6 cA_8 cA_10 cA_12 cA_14 cA_16 cA_18 cA_20 cA_22 cA_24 cA_26 cA_28 cA_30 cA_32 cA_34 cA_36 cA_38 cA_40 cA_42 cA_44 cA_46 cA_48 cA_50 cA_52 cA_54 cA_56 cA_58 cA_60 cA_62 cA_64) 3), 118, .inl (ym_w 118))), (((ym_rf q_1 q_3 q_5 q_7 q_9 q_11 q_13 q_15 q_17 q_19 q_21 q_23 q_25 q_27 q_29 q_31 q_33 q_35 q_37 q_39 q_41 q_43 q_45 q_47 q_49 q_51 q_53 q_55 q_57 q_59 q_61 q_63) 24), .inl (((ym_ck cA_2 cA_4 cA_6 cA_8 cA_10 cA_12 cA_14 cA_16 cA_18 cA_20 cA_22 cA_24 cA_26 cA_28 cA_30 cA_32 cA_34 cA_36 cA_38 cA_40 cA_42 cA_44 cA_46 cA_48 cA_50 cA_52 cA_54 cA_56 cA_58 cA_60 cA_62 cA_64) 24), 14, .inl (fun _ => 0))), (((ym_rf q_1 q_3 q_5 q_7 q_9 q_11 q_13 q_15 q_17 q_19 q_21 q_23 q_25 q_27 q_29 q_31 q_33 q_35 q_37 q_39 q_41 q_43 q_45 q_47 q_49 q_51 q_53 q_55 q_57 q_59 q_61 q_63) 28), .inl (((ym_ck cA_2 cA_4 cA_6 cA_8 cA_10 cA_12 cA_14 cA_16 cA_18 cA_20 cA_22 cA_24 cA_26 cA_28 cA_30 cA_32 cA_34 cA_36 cA_38 cA_40 cA_42 cA_44 cA_46 cA_48 cA_50 cA_52 cA_54 cA_56 cA_58 cA_60 cA_62 cA_64) 28), 8, .inl (fun _ => 0))), (((ym_rf q_1 q_3 q_5 q_7 q_9 q_11 q_13 q_15 q_17 q_19 q_21 q_23 q_25 q_27 q_29 q_31 q_33 q_35 q_37 q_39 q_41 q_43 q_45 q_47 q_49 q_51 q_53 q_55 q_57 q_59 q_61 q_63) 29), .inl (((ym_ck cA_2 cA_4 cA_6 cA_8 cA_10 cA_12 cA_14 cA_16 cA_18 cA_20 cA_22 cA_24 cA_26 cA_28 cA_30 cA_32 cA_34 cA_36 cA_38 cA_40 cA_42 cA_44 cA_46 cA_48 cA_50 cA_52 cA_54 cA_56 cA_58 cA_60 cA_62 cA_64) 29), 24, .inl (fun _ => 0))), (((ym_rf q_1 q_3 q_5 q_7 q_9 q_11 q_13 q_15 q_17 q_19 q_21 q_23 q_25 q_27 q_29 q_31 q_33 q_35 q_37 q_39 q_41 q_43 q_45 q_47 q_49 q_51 q_53 q_55 q_57 q_59 q_61 q_63) 30), .inl (((ym_ck cA_2 cA_4 cA_6 cA_8 cA_10 cA_12 cA_14 cA_16 cA_18 cA_20 cA_22 cA_24 cA_26 cA_28 cA_30 cA_32 cA_34 cA_36 cA_38 cA_40 cA_42 cA_44 cA_46 cA_48 cA_50 cA_52 cA_54 cA_56 cA_58 cA_60 cA_62 cA_64) 30), 8, .inl (fun _ => 0))), (((ym_rf q_1 q_3 q_5 q_7 q_9 q_11 q_13 q_15 q_17 q_19 q_21 q_23 q_25 q_27 q_29 q_31 q_33 q_35 q_37 q_39 q_41 q_43 q_45 q_47 q_49 q_51 q_53 q_55 q_57 q_59 q_61 q_63) 31), .inl (((ym_ck cA_2 cA_4 cA_6 cA_8 cA_10 cA_12 cA_14 cA_16 cA_18 cA_20 cA_22 cA_24 cA_26 cA_28 cA_30 cA_32 cA_34 cA_36 cA_38 cA_40 cA_42 cA_44 cA_46 cA_48 cA_50 cA_52 cA_54 cA_56 cA_58 cA_60 cA_62 cA_64) 31), 8, .inl (fun _ => 0))), (((ym_rf q_1 q_3 q_5 q_7 q_9 q_11 q_13 q_15 q_17 q_19 q_21 q_23 q_25 q_27 q_29 q_31 q_33 q_35 q_37 q_39 q_41 q_43 q_45 q_47 q_49 q_51 q_53 q_55 q_57 q_59 q_61 q_63) 32), .inl (((ym_ck cA_2 cA_4 cA_6 cA_8 cA_10 cA_12 cA_14 cA_16 cA_18 cA_20 cA_22 cA_24 cA_26 cA_28 cA_30 cA_32 cA_34 cA_36 cA_38 cA_40 cA_42 cA_44 cA_46 cA_48 cA_50 cA_52 cA_54 cA_56 cA_58 cA_60 cA_62 cA_64) 32), 8, .inl (fun _ => 0))), (((ym_rf q_1 q_3 q_5 q_7 q_9 q_11 q_13 q_15 q_17 q_19 q_21 q_23 q_25 q_27 q_29 q_31 q_33 q_35 q_37 q_39 q_41 q_43 q_45 q_47 q_49 q_51 q_53 q_55 q_57 q_59 q_61 q_63) 33), .inl (((ym_ck cA_2 cA_4 cA_6 cA_8 cA_10 cA_12 cA_14 cA_16 cA_18 cA_20 cA_22 cA_24 cA_26 cA_28 cA_30 cA_32 cA_34 cA_36 cA_38 cA_40 cA_42 cA_44 cA_46 cA_48 cA_50 cA_52 cA_54 cA_56 cA_58 cA_60 cA_62 cA_64) 33), 12, .inl (fun _ => 0))), (((ym_rf q_1 q_3 q_5 q_7 q_9 q_11 q_13 q_15 q_17 q_19 q_21 q_23 q_25 q_27 q_29 q_31 q_33 q_35 q_37 q_39 q_41 q_43 q_45 q_47 q_49 q_51 q_53 q_55 q_57 q_59 q_61 q_63) 34), .inl (((ym_ck cA_2 cA_4 cA_6 cA_8 cA_10 cA_12 cA_14 cA_16 cA_18 cA_20 cA_22 cA_24 cA_26 cA_28 cA_30 cA_32 cA_34 cA_36 cA_38 cA_40 cA_42 cA_44 cA_46 cA_48 cA_50 cA_52 cA_54 cA_56 cA_58 cA_60 cA_62 cA_64) 34), 12, .inr (.inl (fun _ => 0)))), (((ym_rf q_1 q_3 q_5 q_7 q_9 q_11 q_13 q_15 q_17 q_19 q_21 q_23 q_25 q_27 q_29 q_31 q_33 q_35 q_37 q_39 q_41 q_43 q_45 q_47 q_49 q_51 q_53 q_55 q_57 q_59 q_61 q_63) 35), .inl (((ym_ck cA_2 cA_4 cA_6 cA_8 cA_10 cA_12 cA_14 cA_16 cA_18 cA_20 cA_22 cA_24 cA_26 cA_28 cA_30 cA_32 cA_34 cA_36 cA_38 cA_40 cA_42 cA_44 cA_46 cA_48 cA_50 cA_52 cA_54 cA_56 cA_58 cA_60 cA_62 cA_64) 35), 12, .inr (.inl (fun _ => 0)))), (((ym_rf q_1 q_3 q_5 q_7 q_9 q_11 q_13 q_15 q_17 q_19 q_21 q_23 q_25 q_27 q_29 q_31 q_33 q_35 q_37 q_39 q_41 q_43 q_45 q_47 q_49 q_51 q_53 q_55 q_57 q_59 q_61 q_63) 36), .inl (((ym_ck cA_2 cA_4 cA_6 cA_8 cA_10 cA_12 cA_14 cA_16 cA_18 cA_20 cA_22 cA_24 cA_26 cA_28 cA_30 cA_32 cA_34 cA_36 cA_38 cA_40 cA_42 cA_44 cA_46 cA_48 cA_50 cA_52 cA_54 cA_56 cA_58 cA_60 cA_62 cA_64) 36), 8, .inl (fun _ => 0))), (((ym_rf q_1 q_3 q_5 q_7 q_9 q_11 q_13 q_15 q_17 q_19 q_21 q_23 q_25 q_27 q_29 q_31 q_33 q_35 q_37 q_39 q_41 q_43 q_45 q_47 q_49 q_51 q_53 q_55 q_57 q_59 q_61 q_63) 37), .inl (((ym_ck cA_2 cA_4 cA_6 cA_8 cA_10 cA_12 cA_14 cA_16 cA_18 cA_20 cA_22 cA_24 cA_26 cA_28 cA_30 cA_32 cA_34 cA_36 cA_38 cA_40 cA_42 cA_44 cA_46 cA_48 cA_50 cA_52 cA_54 cA_56 cA_58 cA_60 cA_62 cA_64) 37), 8, .inr (.inl (fun _ => 0)))), (((ym_rf q_1 q_3 q_5 q_7 q_9 q_11 q_13 q_15 q_17 q_19 q_21 q_23 q_25 q_27 q_29 q_31 q_33 q_35 q_37 q_39 q_41 q_43 q_45 q_47 q_49 q_51 q_53 q_55 q_57 q_59 q_61 q_63) 38), .inl (((ym_ck cA_2 cA_4 cA_6 cA_8 cA_10 cA_12 cA_14 cA_16 cA_18 cA_20 cA_22 cA_24 cA_26 cA_28 cA_30 cA_32 cA_34 cA_36 cA_38 cA_40 cA_42 cA_44 cA_46 cA_48 cA_50 cA_52 cA_54 cA_56 cA_58 cA_60 cA_62 cA_64) 38), 24, .inl (fun _ => 0))), (((ym_rf q_1 q_3 q_5 q_7 q_9 q_11 q_13 q_15 q_17 q_19 q_21 q_23 q_25 q_27 q_29 q_31 q_33 q_35 q_37 q_39 q_41 q_43 q_45 q_47 q_49 q_51 q_53 q_55 q_57 q_59 q_61 q_63) 39), .inl (((ym_ck cA_2 cA_4 cA_6 cA_8 cA_10 cA_12 cA_14 cA_16 cA_18 cA_20 cA_22 cA_24 cA_26 cA_28 cA_30 cA_32 cA_34 cA_36 cA_38 cA_40 cA_42 cA_44 cA_46 cA_48 cA_50 cA_52 cA_54 cA_56 cA_58 cA_60 cA_62 cA_64) 39), 12, .inl (fun _ => 0))), (((ym_rf q_1 q_3 q_5 q_7 q_9 q_11 q_13 q_15 q_17 q_19 q_21 q_23 q_25 q_27 q_29 q_31 q_33 q_35 q_37 q_39 q_41 q_43 q_45 q_47 q_49 q_51 q_53 q_55 q_57 q_59 q_61 q_63) 40), .inl (((ym_ck cA_2 cA_4 cA_6 cA_8 cA_10 cA_12 cA_14 cA_16 cA_18 cA_20 cA_22 cA_24 cA_26 cA_28 cA_30 cA_32 cA_34 cA_36 cA_38 cA_40 cA_42 cA_44 cA_46 cA_48 cA_50 cA_52 cA_54 cA_56 cA_58 cA_60 cA_62 cA_64) 40), 264, .inl (fun _ => 0))), (((ym_rf q_1 q_3 q_5 q_7 q_9 q_11 q_13 q_15 q_17 q_19 q_21 q_23 q_25 q_27 q_29 q_31 q_33 q_35 q_37 q_39 q_41 q_43 q_45 q_47 q_49 q_51 q_53 q_55 q_57 q_59 q_61 q_63) 41), .inl (((ym_ck cA_2 cA_4 cA_6 cA_8 cA_10 cA_12 cA_14 cA_16 cA_18 cA_20 cA_22 cA_24 cA_26 cA_28 cA_30 cA_32 cA_34 cA_36 cA_38 cA_40 cA_42 cA_44 cA_46 cA_48 cA_50 cA_52 cA_54 cA_56 cA_58 cA_60 cA_62 cA_64) 41), 128, .inl (fun _ => 0))), (((ym_rf q_1 q_3 q_5 q_7 q_9 q_11 q_13 q_15 q_17 q_19 q_21 q_23 q_25 q_27 q_29 q_31 q_33 q_35 q_37 q_39 q_41 q_43 q_45 q_47 q_49 q_51 q_53 q_55 q_57 q_59 q_61 q_63) 42), .inl (((ym_ck cA_2 cA_4 cA_6 cA_8 cA_10 cA_12 cA_14 cA_16 cA_18 cA_20 cA_22 cA_24 cA_26 cA_28 cA_30 cA_32 cA_34 cA_36 cA_38 cA_40 cA_42 cA_44 cA_46 cA_48 cA_50 cA_52 cA_54 cA_56 cA_58 cA_60 cA_62 cA_64) 42), 128, .inl (fun _ => 0))), (((ym_rf q_1 q_3 q_5 q_7 q_9 q_11 q_13 q_15 q_17 q_19 q_21 q_23 q_25 q_27 q_29 q_31 q_33 q_35 q_37 q_39 q_41 q_43 q_45 q_47 q_49 q_51 q_53 q_55 q_57 q_59 q_61 q_63) 43), .inl (((ym_ck cA_2 cA_4 cA_6 cA_8 cA_10 cA_12 cA_14 cA_16 cA_18 cA_20 cA_22 cA_24 cA_26 cA_28 cA_30 cA_32 cA_34 cA_36 cA_38 cA_40 cA_42 cA_44 cA_46 cA_48 cA_50 cA_52 cA_54 cA_56 cA_58 cA_60 cA_62 cA_64) 43), 128, .inl (fun _ => 0))), (((ym_rf q_1 q_3 q_5 q_7 q_9 q_11 q_13 q_15 q_17 q_19 q_21 q_23 q_25 q_27 q_29 q_31 q_33 q_35 q_37 q_39 q_41 q_43 q_45 q_47 q_49 q_51 q_53 q_55 q_57 q_59 q_61 q_63) 45), .inl (((ym_ck cA_2 cA_4 cA_6 cA_8 cA_10 cA_12 cA_14 cA_16 cA_18 cA_20 cA_22 cA_24 cA_26 cA_28 cA_30 cA_32 cA_34 cA_36 cA_38 cA_40 cA_42 cA_44 cA_46 cA_48 cA_50 cA_52 cA_54 cA_56 cA_58 cA_60 cA_62 cA_64) 45), 96, .inl (fun _ => 0))), (((ym_rf q_1 q_3 q_5 q_7 q_9 q_11 q_13 q_15 q_17 q_19 q_21 q_23 q_25 q_27 q_29 q_31 q_33 q_35 q_37 q_39 q_41 q_43 q_45 q_47 q_49 q_51 q_53 q_55 q_57 q_59 q_61 q_63) 46), .inl (((ym_ck cA_2 cA_4 cA_6 cA_8 cA_10 cA_12 cA_14 cA_16 cA_18 cA_20 cA_22 cA_24 cA_26 cA_28 cA_30 cA_32 cA_34 cA_36 cA_38 cA_40 cA_42 cA_44 cA_46 cA_48 cA_50 cA_52 cA_54 cA_56 cA_58 cA_60 cA_62 cA_64) 46), 96, .inl (fun _ => 0))), (((ym_rf q_1 q_3 q_5 q_7 q_9 q_11 q_13 q_15 q_17 q_19 q_21 q_23 q_25 q_27 q_29 q_31 q_33 q_35 q_37 q_39 q_41 q_43 q_45 q_47 q_49 q_51 q_53 q_55 q_57 q_59 q_61 q_63) 55), .inl (((ym_ck cA_2 cA_4 cA_6 cA_8 cA_10 cA_12 cA_14 cA_16 cA_18 cA_20 cA_22 cA_24 cA_26 cA_28 cA_30 cA_32 cA_34 cA_36 cA_38 cA_40 cA_42 cA_44 cA_46 cA_48 cA_50 cA_52 cA_54 cA_56 cA_58 cA_60 cA_62 cA_64) 55), 6, .inr (.inl (fun _ => 0)))), (((ym_rf q_1 q_3 q_5 q_7 q_9 q_11 q_13 q_15 q_17 q_19 q_21 q_23 q_25 q_27 q_29 q_31 q_33 q_35 q_37 q_39 q_41 q_43 q_45 q_47 q_49 q_51 q_53 q_55 q_57 q_59 q_61 q_63) 56), .inl (((ym_ck cA_2 cA_4 cA_6 cA_8 cA_10 cA_12 cA_14 cA_16 cA_18 cA_20 cA_22 cA_24 cA_26 cA_28 cA_30 cA_32 cA_34 cA_36 cA_38 cA_40 cA_42 cA_44 cA_46 cA_48 cA_50 cA_52 cA_54 cA_56 cA_58 cA_60 cA_62 cA_64) 56), 64, .inr (.inl (fun _ => 0)))), (((ym_rf q_1 q_3 q_5 q_7 q_9 q_11 q_13 q_15 q_17 q_19 q_21 q_23 q_25 q_27 q_29 q_31 q_33 q_35 q_37 q_39 q_41 q_43 q_45 q_47 q_49 q_51 q_53 q_55 q_57 q_59 q_61 q_63) 60), .inl (((ym_ck cA_2 cA_4 cA_6 cA_8 cA_10 cA_12 cA_14 cA_16 cA_18 cA_20 cA_22 cA_24 cA_26 cA_28 cA_30 cA_32 cA_34 cA_36 cA_38 cA_40 cA_42 cA_44 cA_46 cA_48 cA_50 cA_52 cA_54 cA_56 cA_58 cA_60 cA_62 cA_64) 60), 128, .inl (fun _ => 0))), (((ym_rf q_1 q_3 q_5 q_7 q_9 q_11 q_13 q_15 q_17 q_19 q_21 q_23 q_25 q_27 q_29 q_31 q_33 q_35 q_37 q_39 q_41 q_43 q_45 q_47 q_49 q_51 q_53 q_55 q_57 q_59 q_61 q_63) 61), .inl (((ym_ck cA_2 cA_4 cA_6 cA_8 cA_10 cA_12 cA_14 cA_16 cA_18 cA_20 cA_22 cA_24 cA_26 cA_28 cA_30 cA_32 cA_34 cA_36 cA_38 cA_40 cA_42 cA_44 cA_46 cA_48 cA_50 cA_52 cA_54 cA_56 cA_58 cA_60 cA_62 cA_64) 61), 240000, .inl (fun _ => 0))), (((ym_rf q_1 q_3 q_5 q_7 q_9 q_11 q_13 q_15 q_17 q_19 q_21 q_23 q_25 q_27 q_29 q_31 q_33 q_35 q_37 q_39 q_41 q_43 q_45 q_47 q_49 q_51 q_53 q_55 q_57 q_59 q_61 q_63) 65), .inl (((ym_ck cA_2 cA_4 cA_6 cA_8 cA_10 cA_12 cA_14 cA_16 cA_18 cA_20 cA_22 cA_24 cA_26 cA_28 cA_30 cA_32 cA_34 cA_36 cA_38 cA_40 cA_42 cA_44 cA_46 cA_48 cA_50 cA_52 cA_54 cA_56 cA_58 cA_60 cA_62 cA_64) 65), 12, .inl (fun _ => 0))), (((ym_rf q_1 q_3 q_5 q_7 q_9 q_11 q_13 q_15 q_17 q_19 q_21 q_23 q_25 q_27 q_29 q_31 q_33 q_35 q_37 q_39 q_41 q_43 q_45 q_47 q_49 q_51 q_53 q_55 q_57 q_59 q_61 q_63) 66), .inl (((ym_ck cA_2 cA_4 cA_6 cA_8 cA_10 cA_12 cA_14 cA_16 cA_18 cA_20 cA_22 cA_24 cA_26 cA_28 cA_30 cA_32 cA_34 cA_36 cA_38 cA_40 cA_42 cA_44 cA_46 cA_48 cA_50 cA_52 cA_54 cA_56 cA_58 cA_60 cA_62 cA_64) 66), 12, .inl (fun _ => 0))), (((ym_rf q_1 q_3 q_5 q_7 q_9 q_11 q_13 q_15 q_17 q_19 q_21 q_23 q_25 q_27 q_29 q_31 q_33 q_35 q_37 q_39 q_41 q_43 q_45 q_47 q_49 q_51 q_53 q_55 q_57 q_59 q_61 q_63) 68), .inl (((ym_ck cA_2 cA_4 cA_6 cA_8 cA_10 cA_12 cA_14 cA_16 cA_18 cA_20 cA_22 cA_24 cA_26 cA_28 cA_30 cA_32 cA_34 cA_36 cA_38 cA_40 cA_42 cA_44 cA_46 cA_48 cA_50 cA_52 cA_54 cA_56 cA_58 cA_60 cA_62 cA_64) 68), 20, .inl (fun _ => 0))), (((ym_rf q_1 q_3 q_5 q_7 q_9 q_11 q_13 q_15 q_17 q_19 q_21 q_23 q_25 q_27 q_29 q_31 q_33 q_35 q_37 q_39 q_41 q_43 q_45 q_47 q_49 q_51 q_53 q_55 q_57 q_59 q_61 q_63) 69), .inl (((ym_ck cA_2 cA_4 cA_6 cA_8 cA_10 cA_12 cA_14 cA_16 cA_18 cA_20 cA_22 cA_24 cA_26 cA_28 cA_30 cA_32 cA_34 cA_36 cA_38 cA_40 cA_42 cA_44 cA_46 cA_48 cA_50 cA_52 cA_54 cA_56 cA_58 cA_60 cA_62 cA_64) 69), 20, .inl (fun _ => 0))), (((ym_rf q_1 q_3 q_5 q_7 q_9 q_11 q_13 q_15 q_17 q_19 q_21 q_23 q_25 q_27 q_29 q_31 q_33 q_35 q_37 q_39 q_41 q_43 q_45 q_47 q_49 q_51 q_53 q_55 q_57 q_59 q_61 q_63) 73), .inl (((ym_ck cA_2 cA_4 cA_6 cA_8 cA_10 cA_12 cA_14 cA_16 cA_18 cA_20 cA_22 cA_24 cA_26 cA_28 cA_30 cA_32 cA_34 cA_36 cA_38 cA_40 cA_42 cA_44 cA_46 cA_48 cA_50 cA_52 cA_54 cA_56 cA_58 cA_60 cA_62 cA_64) 73), 132, .inl (fun _ => 0))), (((ym_rf q_1 q_3 q_5 q_7 q_9 q_11 q_13 q_15 q_17 q_19 q_21 q_23 q_25 q_27 q_29 q_31 q_33 q_35 q_37 q_39 q_41 q_43 q_45 q_47 q_49 q_51 q_53 q_55 q_57 q_59 q_61 q_63) 74), .inl (((ym_ck cA_2 cA_4 cA_6 cA_8 cA_10 cA_12 cA_14 cA_16 cA_18 cA_20 cA_22 cA_24 cA_26 cA_28 cA_30 cA_32 cA_34 cA_36 cA_38 cA_40 cA_42 cA_44 cA_46 cA_48 cA_50 cA_52 cA_54 cA_56 cA_58 cA_60 cA_62 cA_64) 74), 20, .inl (fun _ => 0))), (((ym_rf q_1 q_3 q_5 q_7 q_9 q_11 q_13 q_15 q_17 q_19 q_21 q_23 q_25 q_27 q_29 q_31 q_33 q_35 q_37 q_39 q_41 q_43 q_45 q_47 q_49 q_51 q_53 q_55 q_57 q_59 q_61 q_63) 75), .inl (((ym_ck cA_2 cA_4 cA_6 cA_8 cA_10 cA_12 cA_14 cA_16 cA_18 cA_20 cA_22 cA_24 cA_26 cA_28 cA_30 cA_32 cA_34 cA_36 cA_38 cA_40 cA_42 cA_44 cA_46 cA_48 cA_50 cA_52 cA_54 cA_56 cA_58 cA_60 cA_62 cA_64) 75), 20, .inl (fun _ => 0)))]) H := hP
  have hD : va_D A ((mq, .inr (12, mF ym_g ym_l (ym_rf q_1 q_3 q_5 q_7 q_9 q_11 q_13 q_15 q_17 q_19 q_21 q_23 q_25 q_27 q_29 q_31 q_33 q_35 q_37 q_39 q_41 q_43 q_45 q_47 q_49 q_51 q_53 q_55 q_57 q_59 q_61 q_63))) :: [(((ym_rf q_1 q_3 q_5 q_7 q_9 q_11 q_13 q_15 q_17 q_19 q_21 q_23 q_25 q_27 q_29 q_31 q_33 q_35 q_37 q_39 q_41 q_43 q_45 q_47 q_49 q_51 q_53 q_55 q_57 q_59 q_61 q_63) 0), .inl (((ym_ck cA_2 cA_4 cA_6 cA_8 cA_10 cA_12 cA_14 cA_16 cA_18 cA_20 cA_22 cA_24 cA_26 cA_28 cA_30 cA_32 cA_34 cA_36 cA_38 cA_40 cA_42 cA_44 cA_46 cA_48 cA_50 cA_52 cA_54 cA_56 cA_58 cA_60 cA_62 cA_64) 0), 900, .inl (fun _ => 0))), (((ym_rf q_1 q_3 q_5 q_7 q_9 q_11 q_13 q_15 q_17 q_19 q_21 q_23 q_25 q_27 q_29 q_31 q_33 q_35 q_37 q_39 q_41 q_43 q_45 q_47 q_49 q_51 q_53 q_55 q_57 q_59 q_61 q_63) 3), .inl (((ym_ck cA_2 cA_4 cA_6 cA_8 cA_10 cA_12 cA_14 cA_16 cA_18 cA_20 cA_22 cA_24 cA_26 cA_28 cA_30 cA_32 cA_34 cA_36 cA_38 cA_40 cA_42 cA_44 cA_46 cA_48 cA_50 cA_52 cA_54 cA_56 cA_58 cA_60 cA_62 cA_64) 3), 118, .inl (ym_w 118))), (((ym_rf q_1 q_3 q_5 q_7 q_9 q_11 q_13 q_15 q_17 q_19 q_21 q_23 q_25 q_27 q_29 q_31 q_33 q_35 q_37 q_39 q_41 q_43 q_45 q_47 q_49 q_51 q_53 q_55 q_57 q_59 q_61 q_63) 24), .inl (((ym_ck cA_2 cA_4 cA_6 cA_8 cA_10 cA_12 cA_14 cA_16 cA_18 cA_20 cA_22 cA_24 cA_26 cA_28 cA_30 cA_32 cA_34 cA_36 cA_38 cA_40 cA_42 cA_44 cA_46 cA_48 cA_50 cA_52 cA_54 cA_56 cA_58 cA_60 cA_62 cA_64) 24), 14, .inl (fun _ => 0))), (((ym_rf q_1 q_3 q_5 q_7 q_9 q_11 q_13 q_15 q_17 q_19 q_21 q_23 q_25 q_27 q_29 q_31 q_33 q_35 q_37 q_39 q_41 q_43 q_45 q_47 q_49 q_51 q_53 q_55 q_57 q_59 q_61 q_63) 28), .inl (((ym_ck cA_2 cA_4 cA_6 cA_8 cA_10 cA_12 cA_14 cA_16 cA_18 cA_20 cA_22 cA_24 cA_26 cA_28 cA_30 cA_32 cA_34 cA_36 cA_38 cA_40 cA_42 cA_44 cA_46 cA_48 cA_50 cA_52 cA_54 cA_56 cA_58 cA_60 cA_62 cA_64) 28), 8, .inl (fun _ => 0))), (((ym_rf q_1 q_3 q_5 q_7 q_9 q_11 q_13 q_15 q_17 q_19 q_21 q_23 q_25 q_27 q_29 q_31 q_33 q_35 q_37 q_39 q_41 q_43 q_45 q_47 q_49 q_51 q_53 q_55 q_57 q_59 q_61 q_63) 29), .inl (((ym_ck cA_2 cA_4 cA_6 cA_8 cA_10 cA_12 cA_14 cA_16 cA_18 cA_20 cA_22 cA_24 cA_26 cA_28 cA_30 cA_32 cA_34 cA_36 cA_38 cA_40 cA_42 cA_44 cA_46 cA_48 cA_50 cA_52 cA_54 cA_56 cA_58 cA_60 cA_62 cA_64) 29), 24, .inl (fun _ => 0))), (((ym_rf q_1 q_3 q_5 q_7 q_9 q_11 q_13 q_15 q_17 q_19 q_21 q_23 q_25 q_27 q_29 q_31 q_33 q_35 q_37 q_39 q_41 q_43 q_45 q_47 q_49 q_51 q_53 q_55 q_57 q_59 q_61 q_63) 30), .inl (((ym_ck cA_2 cA_4 cA_6 cA_8 cA_10 cA_12 cA_14 cA_16 cA_18 cA_20 cA_22 cA_24 cA_26 cA_28 cA_30 cA_32 cA_34 cA_36 cA_38 cA_40 cA_42 cA_44 cA_46 cA_48 cA_50 cA_52 cA_54 cA_56 cA_58 cA_60 cA_62 cA_64) 30), 8, .inl (fun _ => 0))), (((ym_rf q_1 q_3 q_5 q_7 q_9 q_11 q_13 q_15 q_17 q_19 q_21 q_23 q_25 q_27 q_29 q_31 q_33 q_35 q_37 q_39 q_41 q_43 q_45 q_47 q_49 q_51 q_53 q_55 q_57 q_59 q_61 q_63) 31), .inl (((ym_ck cA_2 cA_4 cA_6 cA_8 cA_10 cA_12 cA_14 cA_16 cA_18 cA_20 cA_22 cA_24 cA_26 cA_28 cA_30 cA_32 cA_34 cA_36 cA_38 cA_40 cA_42 cA_44 cA_46 cA_48 cA_50 cA_52 cA_54 cA_56 cA_58 cA_60 cA_62 cA_64) 31), 8, .inl (fun _ => 0))), (((ym_rf q_1 q_3 q_5 q_7 q_9 q_11 q_13 q_15 q_17 q_19 q_21 q_23 q_25 q_27 q_29 q_31 q_33 q_35 q_37 q_39 q_41 q_43 q_45 q_47 q_49 q_51 q_53 q_55 q_57 q_59 q_61 q_63) 32), .inl (((ym_ck cA_2 cA_4 cA_6 cA_8 cA_10 cA_12 cA_14 cA_16 cA_18 cA_20 cA_22 cA_24 cA_26 cA_28 cA_30 cA_32 cA_34 cA_36 cA_38 cA_40 cA_42 cA_44 cA_46 cA_48 cA_50 cA_52 cA_54 cA_56 cA_58 cA_60 cA_62 cA_64) 32), 8, .inl (fun _ => 0))), (((ym_rf q_1 q_3 q_5 q_7 q_9 q_11 q_13 q_15 q_17 q_19 q_21 q_23 q_25 q_27 q_29 q_31 q_33 q_35 q_37 q_39 q_41 q_43 q_45 q_47 q_49 q_51 q_53 q_55 q_57 q_59 q_61 q_63) 33), .inl (((ym_ck cA_2 cA_4 cA_6 cA_8 cA_10 cA_12 cA_14 cA_16 cA_18 cA_20 cA_22 cA_24 cA_26 cA_28 cA_30 cA_32 cA_34 cA_36 cA_38 cA_40 cA_42 cA_44 cA_46 cA_48 cA_50 cA_52 cA_54 cA_56 cA_58 cA_60 cA_62 cA_64) 33), 12, .inl (fun _ => 0))), (((ym_rf q_1 q_3 q_5 q_7 q_9 q_11 q_13 q_15 q_17 q_19 q_21 q_23 q_25 q_27 q_29 q_31 q_33 q_35 q_37 q_39 q_41 q_43 q_45 q_47 q_49 q_51 q_53 q_55 q_57 q_59 q_61 q_63) 34), .inl (((ym_ck cA_2 cA_4 cA_6 cA_8 cA_10 cA_12 cA_14 cA_16 cA_18 cA_20 cA_22 cA_24 cA_26 cA_28 cA_30 cA_32 cA_34 cA_36 cA_38 cA_40 cA_42 cA_44 cA_46 cA_48 cA_50 cA_52 cA_54 cA_56 cA_58 cA_60 cA_62 cA_64) 34), 12, .inr (.inl (fun _ => 0)))), (((ym_rf q_1 q_3 q_5 q_7 q_9 q_11 q_13 q_15 q_17 q_19 q_21 q_23 q_25 q_27 q_29 q_31 q_33 q_35 q_37 q_39 q_41 q_43 q_45 q_47 q_49 q_51 q_53 q_55 q_57 q_59 q_61 q_63) 35), .inl (((ym_ck cA_2 cA_4 cA_6 cA_8 cA_10 cA_12 cA_14 cA_16 cA_18 cA_20 cA_22 cA_24 cA_26 cA_28 cA_30 cA_32 cA_34 cA_36 cA_38 cA_40 cA_42 cA_44 cA_46 cA_48 cA_50 cA_52 cA_54 cA_56 cA_58 cA_60 cA_62 cA_64) 35), 12, .inr (.inl (fun _ => 0)))), (((ym_rf q_1 q_3 q_5 q_7 q_9 q_11 q_13 q_15 q_17 q_19 q_21 q_23 q_25 q_27 q_29 q_31 q_33 q_35 q_37 q_39 q_41 q_43 q_45 q_47 q_49 q_51 q_53 q_55 q_57 q_59 q_61 q_63) 36), .inl (((ym_ck cA_2 cA_4 cA_6 cA_8 cA_10 cA_12 cA_14 cA_16 cA_18 cA_20 cA_22 cA_24 cA_26 cA_28 cA_30 cA_32 cA_34 cA_36 cA_38 cA_40 cA_42 cA_44 cA_46 cA_48 cA_50 cA_52 cA_54 cA_56 cA_58 cA_60 cA_62 cA_64) 36), 8, .inl (fun _ => 0))), (((ym_rf q_1 q_3 q_5 q_7 q_9 q_11 q_13 q_15 q_17 q_19 q_21 q_23 q_25 q_27 q_29 q_31 q_33 q_35 q_37 q_39 q_41 q_43 q_45 q_47 q_49 q_51 q_53 q_55 q_57 q_59 q_61 q_63) 37), .inl (((ym_ck cA_2 cA_4 cA_6 cA_8 cA_10 cA_12 cA_14 cA_16 cA_18 cA_20 cA_22 cA_24 cA_26 cA_28 cA_30 cA_32 cA_34 cA_36 cA_38 cA_40 cA_42 cA_44 cA_46 cA_48 cA_50 cA_52 cA_54 cA_56 cA_58 cA_60 cA_62 cA_64) 37), 8, .inr (.inl (fun _ => 0)))), (((ym_rf q_1 q_3 q_5 q_7 q_9 q_11 q_13 q_15 q_17 q_19 q_21 q_23 q_25 q_27 q_29 q_31 q_33 q_35 q_37 q_39 q_41 q_43 q_45 q_47 q_49 q_51 q_53 q_55 q_57 q_59 q_61 q_63) 38), .inl (((ym_ck cA_2 cA_4 cA_6 cA_8 cA_10 cA_12 cA_14 cA_16 cA_18 cA_20 cA_22 cA_24 cA_26 cA_28 cA_30 cA_32 cA_34 cA_36 cA_38 cA_40 cA_42 cA_44 cA_46 cA_48 cA_50 cA_52 cA_54 cA_56 cA_58 cA_60 cA_62 cA_64) 38), 24, .inl (fun _ => 0))), (((ym_rf q_1 q_3 q_5 q_7 q_9 q_11 q_13 q_15 q_17 q_19 q_21 q_23 q_25 q_27 q_29 q_31 q_33 q_35 q_37 q_39 q_41 q_43 q_45 q_47 q_49 q_51 q_53 q_55 q_57 q_59 q_61 q_63) 39), .inl (((ym_ck cA_2 cA_4 cA_6 cA_8 cA_10 cA_12 cA_14 cA_16 cA_18 cA_20 cA_22 cA_24 cA_26 cA_28 cA_30 cA_32 cA_34 cA_36 cA_38 cA_40 cA_42 cA_44 cA_46 cA_48 cA_50 cA_52 cA_54 cA_56 cA_58 cA_60 cA_62 cA_64) 39), 12, .inl (fun _ => 0))), (((ym_rf q_1 q_3 q_5 q_7 q_9 q_11 q_13 q_15 q_17 q_19 q_21 q_23 q_25 q_27 q_29 q_31 q_33 q_35 q_37 q_39 q_41 q_43 q_45 q_47 q_49 q_51 q_53 q_55 q_57 q_59 q_61 q_63) 40), .inl (((ym_ck cA_2 cA_4 cA_6 cA_8 cA_10 cA_12 cA_14 cA_16 cA_18 cA_20 cA_22 cA_24 cA_26 cA_28 cA_30 cA_32 cA_34 cA_36 cA_38 cA_40 cA_42 cA_44 cA_46 cA_48 cA_50 cA_52 cA_54 cA_56 cA_58 cA_60 cA_62 cA_64) 40), 264, .inl (fun _ => 0))), (((ym_rf q_1 q_3 q_5 q_7 q_9 q_11 q_13 q_15 q_17 q_19 q_21 q_23 q_25 q_27 q_29 q_31 q_33 q_35 q_37 q_39 q_41 q_43 q_45 q_47 q_49 q_51 q_53 q_55 q_57 q_59 q_61 q_63) 41), .inl (((ym_ck cA_2 cA_4 cA_6 cA_8 cA_10 cA_12 cA_14 cA_16 cA_18 cA_20 cA_22 cA_24 cA_26 cA_28 cA_30 cA_32 cA_34 cA_36 cA_38 cA_40 cA_42 cA_44 cA_46 cA_48 cA_50 cA_52 cA_54 cA_56 cA_58 cA_60 cA_62 cA_64) 41), 128, .inl (fun _ => 0))), (((ym_rf q_1 q_3 q_5 q_7 q_9 q_11 q_13 q_15 q_17 q_19 q_21 q_23 q_25 q_27 q_29 q_31 q_33 q_35 q_37 q_39 q_41 q_43 q_45 q_47 q_49 q_51 q_53 q_55 q_57 q_59 q_61 q_63) 42), .inl (((ym_ck cA_2 cA_4 cA_6 cA_8 cA_10 cA_12 cA_14 cA_16 cA_18 cA_20 cA_22 cA_24 cA_26 cA_28 cA_30 cA_32 cA_34 cA_36 cA_38 cA_40 cA_42 cA_44 cA_46 cA_48 cA_50 cA_52 cA_54 cA_56 cA_58 cA_60 cA_62 cA_64) 42), 128, .inl (fun _ => 0))), (((ym_rf q_1 q_3 q_5 q_7 q_9 q_11 q_13 q_15 q_17 q_19 q_21 q_23 q_25 q_27 q_29 q_31 q_33 q_35 q_37 q_39 q_41 q_43 q_45 q_47 q_49 q_51 q_53 q_55 q_57 q_59 q_61 q_63) 43), .inl (((ym_ck cA_2 cA_4 cA_6 cA_8 cA_10 cA_12 cA_14 cA_16 cA_18 cA_20 cA_22 cA_24 cA_26 cA_28 cA_30 cA_32 cA_34 cA_36 cA_38 cA_40 cA_42 cA_44 cA_46 cA_48 cA_50 cA_52 cA_54 cA_56 cA_58 cA_60 cA_62 cA_64) 43), 128, .inl (fun _ => 0))), (((ym_rf q_1 q_3 q_5 q_7 q_9 q_11 q_13 q_15 q_17 q_19 q_21 q_23 q_25 q_27 q_29 q_31 q_33 q_35 q_37 q_39 q_41 q_43 q_45 q_47 q_49 q_51 q_53 q_55 q_57 q_59 q_61 q_63) 45), .inl (((ym_ck cA_2 cA_4 cA_6 cA_8 cA_10 cA_12 cA_14 cA_16 cA_18 cA_20 cA_22 cA_24 cA_26 cA_28 cA_30 cA_32 cA_34 cA_36 cA_38 cA_40 cA_42 cA_44 cA_46 cA_48 cA_50 cA_52 cA_54 cA_56 cA_58 cA_60 cA_62 cA_64) 45), 96, .inl (fun _ => 0))), (((ym_rf q_1 q_3 q_5 q_7 q_9 q_11 q_13 q_15 q_17 q_19 q_21 q_23 q_25 q_27 q_29 q_31 q_33 q_35 q_37 q_39 q_41 q_43 q_45 q_47 q_49 q_51 q_53 q_55 q_57 q_59 q_61 q_63) 46), .inl (((ym_ck cA_2 cA_4 cA_6 cA_8 cA_10 cA_12 cA_14 cA_16 cA_18 cA_20 cA_22 cA_24 cA_26 cA_28 cA_30 cA_32 cA_34 cA_36 cA_38 cA_40 cA_42 cA_44 cA_46 cA_48 cA_50 cA_52 cA_54 cA_56 cA_58 cA_60 cA_62 cA_64) 46), 96, .inl (fun _ => 0))), (((ym_rf q_1 q_3 q_5 q_7 q_9 q_11 q_13 q_15 q_17 q_19 q_21 q_23 q_25 q_27 q_29 q_31 q_33 q_35 q_37 q_39 q_41 q_43 q_45 q_47 q_49 q_51 q_53 q_55 q_57 q_59 q_61 q_63) 55), .inl (((ym_ck cA_2 cA_4 cA_6 cA_8 cA_10 cA_12 cA_14 cA_16 cA_18 cA_20 cA_22 cA_24 cA_26 cA_28 cA_30 cA_32 cA_34 cA_36 cA_38 cA_40 cA_42 cA_44 cA_46 cA_48 cA_50 cA_52 cA_54 cA_56 cA_58 cA_60 cA_62 cA_64) 55), 6, .inr (.inl (fun _ => 0)))), (((ym_rf q_1 q_3 q_5 q_7 q_9 q_11 q_13 q_15 q_17 q_19 q_21 q_23 q_25 q_27 q_29 q_31 q_33 q_35 q_37 q_39 q_41 q_43 q_45 q_47 q_49 q_51 q_53 q_55 q_57 q_59 q_61 q_63) 56), .inl (((ym_ck cA_2 cA_4 cA_6 cA_8 cA_10 cA_12 cA_14 cA_16 cA_18 cA_20 cA_22 cA_24 cA_26 cA_28 cA_30 cA_32 cA_34 cA_36 cA_38 cA_40 cA_42 cA_44 cA_46 cA_48 cA_50 cA_52 cA_54 cA_56 cA_58 cA_60 cA_62 cA_64) 56), 64, .inr (.inl (fun _ => 0)))), (((ym_rf q_1 q_3 q_5 q_7 q_9 q_11 q_13 q_15 q_17 q_19 q_21 q_23 q_25 q_27 q_29 q_31 q_33 q_35 q_37 q_39 q_41 q_43 q_45 q_47 q_49 q_51 q_53 q_55 q_57 q_59 q_61 q_63) 60), .inl (((ym_ck cA_2 cA_4 cA_6 cA_8 cA_10 cA_12 cA_14 cA_16 cA_18 cA_20 cA_22 cA_24 cA_26 cA_28 cA_30 cA_32 cA_34 cA_36 cA_38 cA_40 cA_42 cA_44 cA_46 cA_48 cA_50 cA_52 cA_54 cA_56 cA_58 cA_60 cA_62 cA_64) 60), 128, .inl (fun _ => 0))), (((ym_rf q_1 q_3 q_5 q_7 q_9 q_11 q_13 q_15 q_17 q_19 q_21 q_23 q_25 q_27 q_29 q_31 q_33 q_35 q_37 q_39 q_41 q_43 q_45 q_47 q_49 q_51 q_53 q_55 q_57 q_59 q_61 q_63) 61), .inl (((ym_ck cA_2 cA_4 cA_6 cA_8 cA_10 cA_12 cA_14 cA_16 cA_18 cA_20 cA_22 cA_24 cA_26 cA_28 cA_30 cA_32 cA_34 cA_36 cA_38 cA_40 cA_42 cA_44 cA_46 cA_48 cA_50 cA_52 cA_54 cA_56 cA_58 cA_60 cA_62 cA_64) 61), 240000, .inl (fun _ => 0))), (((ym_rf q_1 q_3 q_5 q_7 q_9 q_11 q_13 q_15 q_17 q_19 q_21 q_23 q_25 q_27 q_29 q_31 q_33 q_35 q_37 q_39 q_41 q_43 q_45 q_47 q_49 q_51 q_53 q_55 q_57 q_59 q_61 q_63) 65), .inl (((ym_ck cA_2 cA_4 cA_6 cA_8 cA_10 cA_12 cA_14 cA_16 cA_18 cA_20 cA_22 cA_24 cA_26 cA_28 cA_30 cA_32 cA_34 cA_36 cA_38 cA_40 cA_42 cA_44 cA_46 cA_48 cA_50 cA_52 cA_54 cA_56 cA_58 cA_60 cA_62 cA_64) 65), 12, .inl (fun _ => 0))), (((ym_rf q_1 q_3 q_5 q_7 q_9 q_11 q_13 q_15 q_17 q_19 q_21 q_23 q_25 q_27 q_29 q_31 q_33 q_35 q_37 q_39 q_41 q_43 q_45 q_47 q_49 q_51 q_53 q_55 q_57 q_59 q_61 q_63) 66), .inl (((ym_ck cA_2 cA_4 cA_6 cA_8 cA_10 cA_12 cA_14 cA_16 cA_18 cA_20 cA_22 cA_24 cA_26 cA_28 cA_30 cA_32 cA_34 cA_36 cA_38 cA_40 cA_42 cA_44 cA_46 cA_48 cA_50 cA_52 cA_54 cA_56 cA_58 cA_60 cA_62 cA_64) 66), 12, .inl (fun _ => 0))), (((ym_rf q_1 q_3 q_5 q_7 q_9 q_11 q_13 q_15 q_17 q_19 q_21 q_23 q_25 q_27 q_29 q_31 q_33 q_35 q_37 q_39 q_41 q_43 q_45 q_47 q_49 q_51 q_53 q_55 q_57 q_59 q_61 q_63) 68), .inl (((ym_ck cA_2 cA_4 cA_6 cA_8 cA_10 cA_12 cA_14 cA_16 cA_18 cA_20 cA_22 cA_24 cA_26 cA_28 cA_30 cA_32 cA_34 cA_36 cA_38 cA_40 cA_42 cA_44 cA_46 cA_48 cA_50 cA_52 cA_54 cA_56 cA_58 cA_60 cA_62 cA_64) 68), 20, .inl (fun _ => 0))), (((ym_rf q_1 q_3 q_5 q_7 q_9 q_11 q_13 q_15 q_17 q_19 q_21 q_23 q_25 q_27 q_29 q_31 q_33 q_35 q_37 q_39 q_41 q_43 q_45 q_47 q_49 q_51 q_53 q_55 q_57 q_59 q_61 q_63) 69), .inl (((ym_ck cA_2 cA_4 cA_6 cA_8 cA_10 cA_12 cA_14 cA_16 cA_18 cA_20 cA_22 cA_24 cA_26 cA_28 cA_30 cA_32 cA_34 cA_36 cA_38 cA_40 cA_42 cA_44 cA_46 cA_48 cA_50 cA_52 cA_54 cA_56 cA_58 cA_60 cA_62 cA_64) 69), 20, .inl (fun _ => 0))), (((ym_rf q_1 q_3 q_5 q_7 q_9 q_11 q_13 q_15 q_17 q_19 q_21 q_23 q_25 q_27 q_29 q_31 q_33 q_35 q_37 q_39 q_41 q_43 q_45 q_47 q_49 q_51 q_53 q_55 q_57 q_59 q_61 q_63) 73), .inl (((ym_ck cA_2 cA_4 cA_6 cA_8 cA_10 cA_12 cA_14 cA_16 cA_18 cA_20 cA_22 cA_24 cA_26 cA_28 cA_30 cA_32 cA_34 cA_36 cA_38 cA_40 cA_42 cA_44 cA_46 cA_48 cA_50 cA_52 cA_54 cA_56 cA_58 cA_60 cA_62 cA_64) 73), 132, .inl (fun _ => 0))), (((ym_rf q_1 q_3 q_5 q_7 q_9 q_11 q_13 q_15 q_17 q_19 q_21 q_23 q_25 q_27 q_29 q_31 q_33 q_35 q_37 q_39 q_41 q_43 q_45 q_47 q_49 q_51 q_53 q_55 q_57 q_59 q_61 q_63) 74), .inl (((ym_ck cA_2 cA_4 cA_6 cA_8 cA_10 cA_12 cA_14 cA_16 cA_18 cA_20 cA_22 cA_24 cA_26 cA_28 cA_30 cA_32 cA_34 cA_36 cA_38 cA_40 cA_42 cA_44 cA_46 cA_48 cA_50 cA_52 cA_54 cA_56 cA_58 cA_60 cA_62 cA_64) 74), 20, .inl (fun _ => 0))), (((ym_rf q_1 q_3 q_5 q_7 q_9 q_11 q_13 q_15 q_17 q_19 q_21 q_23 q_25 q_27 q_29 q_31 q_33 q_35 q_37 q_39 q_41 q_43 q_45 q_47 q_49 q_51 q_53 q_55 q_57 q_59 q_61 q_63) 75), .inl (((ym_ck cA_2 cA_4 cA_6 cA_8 cA_10 cA_12 cA_14 cA_16 cA_18 cA_20 cA_22 cA_24 cA_26 cA_28 cA_30 cA_32 cA_34 cA_36 cA_38 cA_40 cA_42 cA_44 cA_46 cA_48 cA_50 cA_52 cA_54 cA_56 cA_58 cA_60 cA_62 cA_64) 75), 20, .inl (fun _ => 0)))]) := hD
  have hK : va_K (dC, dI) vwCl [(((ym_ck cA_2 cA_4 cA_6 cA_8 cA_10 cA_12 cA_14 cA_16 cA_18 cA_20 cA_22 cA_24 cA_26 cA_28 cA_30 cA_32 cA_34 cA_36 cA_38 cA_40 cA_42 cA_44 cA_46 cA_48 cA_50 cA_52 cA_54 cA_56 cA_58 cA_60 cA_62 cA_64) 0), .int), (((ym_ck cA_2 cA_4 cA_6 cA_8 cA_10 cA_12 cA_14 cA_16 cA_18 cA_20 cA_22 cA_24 cA_26 cA_28 cA_30 cA_32 cA_34 cA_36 cA_38 cA_40 cA_42 cA_44 cA_46 cA_48 cA_50 cA_52 cA_54 cA_56 cA_58 cA_60 cA_62 cA_64) 3), .int), (((ym_ck cA_2 cA_4 cA_6 cA_8 cA_10 cA_12 cA_14 cA_16 cA_18 cA_20 cA_22 cA_24 cA_26 cA_28 cA_30 cA_32 cA_34 cA_36 cA_38 cA_40 cA_42 cA_44 cA_46 cA_48 cA_50 cA_52 cA_54 cA_56 cA_58 cA_60 cA_62 cA_64) 24), .int), (((ym_ck cA_2 cA_4 cA_6 cA_8 cA_10 cA_12 cA_14 cA_16 cA_18 cA_20 cA_22 cA_24 cA_26 cA_28 cA_30 cA_32 cA_34 cA_36 cA_38 cA_40 cA_42 cA_44 cA_46 cA_48 cA_50 cA_52 cA_54 cA_56 cA_58 cA_60 cA_62 cA_64) 28), .int), (((ym_ck cA_2 cA_4 cA_6 cA_8 cA_10 cA_12 cA_14 cA_16 cA_18 cA_20 cA_22 cA_24 cA_26 cA_28 cA_30 cA_32 cA_34 cA_36 cA_38 cA_40 cA_42 cA_44 cA_46 cA_48 cA_50 cA_52 cA_54 cA_56 cA_58 cA_60 cA_62 cA_64) 29), .int), (((ym_ck cA_2 cA_4 cA_6 cA_8 cA_10 cA_12 cA_14 cA_16 cA_18 cA_20 cA_22 cA_24 cA_26 cA_28 cA_30 cA_32 cA_34 cA_36 cA_38 cA_40 cA_42 cA_44 cA_46 cA_48 cA_50 cA_52 cA_54 cA_56 cA_58 cA_60 cA_62 cA_64) 30), .int), (((ym_ck cA_2 cA_4 cA_6 cA_8 cA_10 cA_12 cA_14 cA_16 cA_18 cA_20 cA_22 cA_24 cA_26 cA_28 cA_30 cA_32 cA_34 cA_36 cA_38 cA_40 cA_42 cA_44 cA_46 cA_48 cA_50 cA_52 cA_54 cA_56 cA_58 cA_60 cA_62 cA_64) 31), .int), (((ym_ck cA_2 cA_4 cA_6 cA_8 cA_10 cA_12 cA_14 cA_16 cA_18 cA_20 cA_22 cA_24 cA_26 cA_28 cA_30 cA_32 cA_34 cA_36 cA_38 cA_40 cA_42 cA_44 cA_46 cA_48 cA_50 cA_52 cA_54 cA_56 cA_58 cA_60 cA_62 cA_64) 32), .int), (((ym_ck cA_2 cA_4 cA_6 cA_8 cA_10 cA_12 cA_14 cA_16 cA_18 cA_20 cA_22 cA_24 cA_26 cA_28 cA_30 cA_32 cA_34 cA_36 cA_38 cA_40 cA_42 cA_44 cA_46 cA_48 cA_50 cA_52 cA_54 cA_56 cA_58 cA_60 cA_62 cA_64) 33), .int), (((ym_ck cA_2 cA_4 cA_6 cA_8 cA_10 cA_12 cA_14 cA_16 cA_18 cA_20 cA_22 cA_24 cA_26 cA_28 cA_30 cA_32 cA_34 cA_36 cA_38 cA_40 cA_42 cA_44 cA_46 cA_48 cA_50 cA_52 cA_54 cA_56 cA_58 cA_60 cA_62 cA_64) 34), .long), (((ym_ck cA_2 cA_4 cA_6 cA_8 cA_10 cA_12 cA_14 cA_16 cA_18 cA_20 cA_22 cA_24 cA_26 cA_28 cA_30 cA_32 cA_34 cA_36 cA_38 cA_40 cA_42 cA_44 cA_46 cA_48 cA_50 cA_52 cA_54 cA_56 cA_58 cA_60 cA_62 cA_64) 35), .long), (((ym_ck cA_2 cA_4 cA_6 cA_8 cA_10 cA_12 cA_14 cA_16 cA_18 cA_20 cA_22 cA_24 cA_26 cA_28 cA_30 cA_32 cA_34 cA_36 cA_38 cA_40 cA_42 cA_44 cA_46 cA_48 cA_50 cA_52 cA_54 cA_56 cA_58 cA_60 cA_62 cA_64) 36), .int), (((ym_ck cA_2 cA_4 cA_6 cA_8 cA_10 cA_12 cA_14 cA_16 cA_18 cA_20 cA_22 cA_24 cA_26 cA_28 cA_30 cA_32 cA_34 cA_36 cA_38 cA_40 cA_42 cA_44 cA_46 cA_48 cA_50 cA_52 cA_54 cA_56 cA_58 cA_60 cA_62 cA_64) 37), .long), (((ym_ck cA_2 cA_4 cA_6 cA_8 cA_10 cA_12 cA_14 cA_16 cA_18 cA_20 cA_22 cA_24 cA_26 cA_28 cA_30 cA_32 cA_34 cA_36 cA_38 cA_40 cA_42 cA_44 cA_46 cA_48 cA_50 cA_52 cA_54 cA_56 cA_58 cA_60 cA_62 cA_64) 38), .int), (((ym_ck cA_2 cA_4 cA_6 cA_8 cA_10 cA_12 cA_14 cA_16 cA_18 cA_20 cA_22 cA_24 cA_26 cA_28 cA_30 cA_32 cA_34 cA_36 cA_38 cA_40 cA_42 cA_44 cA_46 cA_48 cA_50 cA_52 cA_54 cA_56 cA_58 cA_60 cA_62 cA_64) 39), .int), (((ym_ck cA_2 cA_4 cA_6 cA_8 cA_10 cA_12 cA_14 cA_16 cA_18 cA_20 cA_22 cA_24 cA_26 cA_28 cA_30 cA_32 cA_34 cA_36 cA_38 cA_40 cA_42 cA_44 cA_46 cA_48 cA_50 cA_52 cA_54 cA_56 cA_58 cA_60 cA_62 cA_64) 40), .int), (((ym_ck cA_2 cA_4 cA_6 cA_8 cA_10 cA_12 cA_14 cA_16 cA_18 cA_20 cA_22 cA_24 cA_26 cA_28 cA_30 cA_32 cA_34 cA_36 cA_38 cA_40 cA_42 cA_44 cA_46 cA_48 cA_50 cA_52 cA_54 cA_56 cA_58 cA_60 cA_62 cA_64) 41), .int), (((ym_ck cA_2 cA_4 cA_6 cA_8 cA_10 cA_12 cA_14 cA_16 cA_18 cA_20 cA_22 cA_24 cA_26 cA_28 cA_30 cA_32 cA_34 cA_36 cA_38 cA_40 cA_42 cA_44 cA_46 cA_48 cA_50 cA_52 cA_54 cA_56 cA_58 cA_60 cA_62 cA_64) 42), .int), (((ym_ck cA_2 cA_4 cA_6 cA_8 cA_10 cA_12 cA_14 cA_16 cA_18 cA_20 cA_22 cA_24 cA_26 cA_28 cA_30 cA_32 cA_34 cA_36 cA_38 cA_40 cA_42 cA_44 cA_46 cA_48 cA_50 cA_52 cA_54 cA_56 cA_58 cA_60 cA_62 cA_64) 43), .int), (((ym_ck cA_2 cA_4 cA_6 cA_8 cA_10 cA_12 cA_14 cA_16 cA_18 cA_20 cA_22 cA_24 cA_26 cA_28 cA_30 cA_32 cA_34 cA_36 cA_38 cA_40 cA_42 cA_44 cA_46 cA_48 cA_50 cA_52 cA_54 cA_56 cA_58 cA_60 cA_62 cA_64) 45), .int), (((ym_ck cA_2 cA_4 cA_6 cA_8 cA_10 cA_12 cA_14 cA_16 cA_18 cA_20 cA_22 cA_24 cA_26 cA_28 cA_30 cA_32 cA_34 cA_36 cA_38 cA_40 cA_42 cA_44 cA_46 cA_48 cA_50 cA_52 cA_54 cA_56 cA_58 cA_60 cA_62 cA_64) 46), .int), (((ym_ck cA_2 cA_4 cA_6 cA_8 cA_10 cA_12 cA_14 cA_16 cA_18 cA_20 cA_22 cA_24 cA_26 cA_28 cA_30 cA_32 cA_34 cA_36 cA_38 cA_40 cA_42 cA_44 cA_46 cA_48 cA_50 cA_52 cA_54 cA_56 cA_58 cA_60 cA_62 cA_64) 55), .long), (((ym_ck cA_2 cA_4 cA_6 cA_8 cA_10 cA_12 cA_14 cA_16 cA_18 cA_20 cA_22 cA_24 cA_26 cA_28 cA_30 cA_32 cA_34 cA_36 cA_38 cA_40 cA_42 cA_44 cA_46 cA_48 cA_50 cA_52 cA_54 cA_56 cA_58 cA_60 cA_62 cA_64) 56), .long), (((ym_ck cA_2 cA_4 cA_6 cA_8 cA_10 cA_12 cA_14 cA_16 cA_18 cA_20 cA_22 cA_24 cA_26 cA_28 cA_30 cA_32 cA_34 cA_36 cA_38 cA_40 cA_42 cA_44 cA_46 cA_48 cA_50 cA_52 cA_54 cA_56 cA_58 cA_60 cA_62 cA_64) 60), .int), (((ym_ck cA_2 cA_4 cA_6 cA_8 cA_10 cA_12 cA_14 cA_16 cA_18 cA_20 cA_22 cA_24 cA_26 cA_28 cA_30 cA_32 cA_34 cA_36 cA_38 cA_40 cA_42 cA_44 cA_46 cA_48 cA_50 cA_52 cA_54 cA_56 cA_58 cA_60 cA_62 cA_64) 61), .boolean), (((ym_ck cA_2 cA_4 cA_6 cA_8 cA_10 cA_12 cA_14 cA_16 cA_18 cA_20 cA_22 cA_24 cA_26 cA_28 cA_30 cA_32 cA_34 cA_36 cA_38 cA_40 cA_42 cA_44 cA_46 cA_48 cA_50 cA_52 cA_54 cA_56 cA_58 cA_60 cA_62 cA_64) 65), .int), (((ym_ck cA_2 cA_4 cA_6 cA_8 cA_10 cA_12 cA_14 cA_16 cA_18 cA_20 cA_22 cA_24 cA_26 cA_28 cA_30 cA_32 cA_34 cA_36 cA_38 cA_40 cA_42 cA_44 cA_46 cA_48 cA_50 cA_52 cA_54 cA_56 cA_58 cA_60 cA_62 cA_64) 66), .int), (((ym_ck cA_2 cA_4 cA_6 cA_8 cA_10 cA_12 cA_14 cA_16 cA_18 cA_20 cA_22 cA_24 cA_26 cA_28 cA_30 cA_32 cA_34 cA_36 cA_38 cA_40 cA_42 cA_44 cA_46 cA_48 cA_50 cA_52 cA_54 cA_56 cA_58 cA_60 cA_62 cA_64) 68), .int), (((ym_ck cA_2 cA_4 cA_6 cA_8 cA_10 cA_12 cA_14 cA_16 cA_18 cA_20 cA_22 cA_24 cA_26 cA_28 cA_30 cA_32 cA_34 cA_36 cA_38 cA_40 cA_42 cA_44 cA_46 cA_48 cA_50 cA_52 cA_54 cA_56 cA_58 cA_60 cA_62 cA_64) 69), .int), (((ym_ck cA_2 cA_4 cA_6 cA_8 cA_10 cA_12 cA_14 cA_16 cA_18 cA_20 cA_22 cA_24 cA_26 cA_28 cA_30 cA_32 cA_34 cA_36 cA_38 cA_40 cA_42 cA_44 cA_46 cA_48 cA_50 cA_52 cA_54 cA_56 cA_58 cA_60 cA_62 cA_64) 73), .int), (((ym_ck cA_2 cA_4 cA_6 cA_8 cA_10 cA_12 cA_14 cA_16 cA_18 cA_20 cA_22 cA_24 cA_26 cA_28 cA_30 cA_32 cA_34 cA_36 cA_38 cA_40 cA_42 cA_44 cA_46 cA_48 cA_50 cA_52 cA_54 cA_56 cA_58 cA_60 cA_62 cA_64) 74), .int), (((ym_ck cA_2 cA_4 cA_6 cA_8 cA_10 cA_12 cA_14 cA_16 cA_18 cA_20 cA_22 cA_24 cA_26 cA_28 cA_30 cA_32 cA_34 cA_36 cA_38 cA_40 cA_42 cA_44 cA_46 cA_48 cA_50 cA_52 cA_54 cA_56 cA_58 cA_60 cA_62 cA_64) 75), .int)] s := hK
  generalize (ym_rf q_1 q_3 q_5 q_7 q_9 q_11 q_13 q_15 q_17 q_19 q_21 q_23 q_25 q_27 q_29 q_31 q_33 q_35 q_37 q_39 q_41 q_43 q_45 q_47 q_49 q_51 q_53 q_55 q_57 q_59 q_61 q_63) = rf at hP hD
  generalize (ym_ck cA_2 cA_4 cA_6 cA_8 cA_10 cA_12 cA_14 cA_16 cA_18 cA_20 cA_22 cA_24 cA_26 cA_28 cA_30 cA_32 cA_34 cA_36 cA_38 cA_40 cA_42 cA_44 cA_46 cA_48 cA_50 cA_52 cA_54 cA_56 cA_58 cA_60 cA_62 cA_64) = ck at hP hD hK
  obtain ⟨g, hg⟩ : ∃ z : Nat → Int32, z = ym_g := ⟨_, rfl⟩
  obtain ⟨gl, hgl⟩ : ∃ z : Nat → Int64, z = ym_l := ⟨_, rfl⟩
  rw [← hg, ← hgl] at hP hD
  have hP : va_P (dC, dI) vwCl ((mq, .inr (12, mF g gl rf)) :: [(eA0 (rf 0) (ck 0) 900 (fun _ => 0)), (eA0 (rf 3) (ck 3) 118 (ym_w 118)), (eA0 (rf 24) (ck 24) 14 (fun _ => 0)), (eA0 (rf 28) (ck 28) 8 (fun _ => 0)), (eA0 (rf 29) (ck 29) 24 (fun _ => 0)), (eA0 (rf 30) (ck 30) 8 (fun _ => 0)), (eA0 (rf 31) (ck 31) 8 (fun _ => 0)), (eA0 (rf 32) (ck 32) 8 (fun _ => 0)), (eA0 (rf 33) (ck 33) 12 (fun _ => 0)), (eA1 (rf 34) (ck 34) 12 (fun _ => 0)), (eA1 (rf 35) (ck 35) 12 (fun _ => 0)), (eA0 (rf 36) (ck 36) 8 (fun _ => 0)), (eA1 (rf 37) (ck 37) 8 (fun _ => 0)), (eA0 (rf 38) (ck 38) 24 (fun _ => 0)), (eA0 (rf 39) (ck 39) 12 (fun _ => 0)), (eA0 (rf 40) (ck 40) 264 (fun _ => 0)), (eA0 (rf 41) (ck 41) 128 (fun _ => 0)), (eA0 (rf 42) (ck 42) 128 (fun _ => 0)), (eA0 (rf 43) (ck 43) 128 (fun _ => 0)), (eA0 (rf 45) (ck 45) 96 (fun _ => 0)), (eA0 (rf 46) (ck 46) 96 (fun _ => 0)), (eA1 (rf 55) (ck 55) 6 (fun _ => 0)), (eA1 (rf 56) (ck 56) 64 (fun _ => 0)), (eA0 (rf 60) (ck 60) 128 (fun _ => 0)), (eA0 (rf 61) (ck 61) 240000 (fun _ => 0)), (eA0 (rf 65) (ck 65) 12 (fun _ => 0)), (eA0 (rf 66) (ck 66) 12 (fun _ => 0)), (eA0 (rf 68) (ck 68) 20 (fun _ => 0)), (eA0 (rf 69) (ck 69) 20 (fun _ => 0)), (eA0 (rf 73) (ck 73) 132 (fun _ => 0)), (eA0 (rf 74) (ck 74) 20 (fun _ => 0)), (eA0 (rf 75) (ck 75) 20 (fun _ => 0))]) H := hP
  have hD : va_D A ((mq, .inr (12, mF g gl rf)) :: [(eA0 (rf 0) (ck 0) 900 (fun _ => 0)), (eA0 (rf 3) (ck 3) 118 (ym_w 118)), (eA0 (rf 24) (ck 24) 14 (fun _ => 0)), (eA0 (rf 28) (ck 28) 8 (fun _ => 0)), (eA0 (rf 29) (ck 29) 24 (fun _ => 0)), (eA0 (rf 30) (ck 30) 8 (fun _ => 0)), (eA0 (rf 31) (ck 31) 8 (fun _ => 0)), (eA0 (rf 32) (ck 32) 8 (fun _ => 0)), (eA0 (rf 33) (ck 33) 12 (fun _ => 0)), (eA1 (rf 34) (ck 34) 12 (fun _ => 0)), (eA1 (rf 35) (ck 35) 12 (fun _ => 0)), (eA0 (rf 36) (ck 36) 8 (fun _ => 0)), (eA1 (rf 37) (ck 37) 8 (fun _ => 0)), (eA0 (rf 38) (ck 38) 24 (fun _ => 0)), (eA0 (rf 39) (ck 39) 12 (fun _ => 0)), (eA0 (rf 40) (ck 40) 264 (fun _ => 0)), (eA0 (rf 41) (ck 41) 128 (fun _ => 0)), (eA0 (rf 42) (ck 42) 128 (fun _ => 0)), (eA0 (rf 43) (ck 43) 128 (fun _ => 0)), (eA0 (rf 45) (ck 45) 96 (fun _ => 0)), (eA0 (rf 46) (ck 46) 96 (fun _ => 0)), (eA1 (rf 55) (ck 55) 6 (fun _ => 0)), (eA1 (rf 56) (ck 56) 64 (fun _ => 0)), (eA0 (rf 60) (ck 60) 128 (fun _ => 0)), (eA0 (rf 61) (ck 61) 240000 (fun _ => 0)), (eA0 (rf 65) (ck 65) 12 (fun _ => 0)), (eA0 (rf 66) (ck 66) 12 (fun _ => 0)), (eA0 (rf 68) (ck 68) 20 (fun _ => 0)), (eA0 (rf 69) (ck 69) 20 (fun _ => 0)), (eA0 (rf 73) (ck 73) 132 (fun _ => 0)), (eA0 (rf 74) (ck 74) 20 (fun _ => 0)), (eA0 (rf 75) (ck 75) 20 (fun _ => 0))]) := hD
  refine lv_aload_n hx hb dX12_init_974 rfl (lv_at hl 0 rfl) ?_
  obtain ⟨hPc, hDc, hFc, hCc⟩ := zsub3 (ws' := [(mq, .inr (12, mF g gl rf)), (eA0 (rf 24) (ck 24) 14 (fun _ => 0))]) hP hD hS hA [0, 3] (by decide) rfl
  have hKc := hK.sub (tys' := [((ck 24), .int)]) [2] rfl
  refine va_callv (va_runV (As := []) (rest := []) ⟨hx, hb, hml, hown, htw⟩ (gq_plain l dC dI mq g gl rf ck (fun _ => 0) H.size) (cwV 0 htw (xg_V (ck_10 _ (List.mem_of_getElem? (i := 15) rfl)) (ck_10 _ (List.mem_of_getElem? (i := 16) rfl)) (ck_10 _ (List.mem_of_getElem? (i := 17) rfl)) (ck_1 _ (List.mem_of_getElem? (i := 5) rfl)) (ck_10 _ (List.mem_of_getElem? (i := 18) rfl))) rfl rfl rfl (by exact ⟨rfl, hdc_14.1, hdc_14.2, hdd_13⟩) ⟨Nat.le_of_ble_eq_true rfl, Nat.le_of_ble_eq_true rfl⟩) ⟨fun a U g mk q => by obtain ⟨q0, q1, qP, qK, qD⟩ := q; exact ⟨q0, q1, qP, va_K.moved (u := U) (U := U.calling g mk a) (Vm.Alike.refl U.vm) qK, qD⟩, va_recv hKc hPc (ci := 12) (q0 := 0) rfl rfl, fun U hU hW => ⟨rfl, by rw [hU], by rw [hU]; exact hPc, va_K.moved hW.alike hKc, hDc.weaken (fun _ _ _ _ => trivial)⟩⟩ rfl rfl hl.1 rfl (lv_room (Nat.le_of_ble_eq_true rfl)) dX12_init_975 ⟨Nat.le_of_ble_eq_true rfl, Nat.le_of_ble_eq_true rfl⟩) hS (fun q _ h => hFc q h) hFc (fun up t H1 locs ht hvm hw hB hz1 hk1 hS => ?_)
  try dsimp only at hw
  obtain ⟨hP1, hK1, hD1⟩ := hB
  rw [ht] at hP1
  have hK1 := va_K.moved hvm.symm hK1
  have hK1 : va_K (dC, dI) vwCl [] s := hK1
  obtain ⟨hP, hD⟩ := va_join (wr := [(eA0 (rf 0) (ck 0) 900 (fun _ => 0)), (eA0 (rf 3) (ck 3) 118 (ym_w 118)), (eA0 (rf 28) (ck 28) 8 (fun _ => 0)), (eA0 (rf 29) (ck 29) 24 (fun _ => 0)), (eA0 (rf 30) (ck 30) 8 (fun _ => 0)), (eA0 (rf 31) (ck 31) 8 (fun _ => 0)), (eA0 (rf 32) (ck 32) 8 (fun _ => 0)), (eA0 (rf 33) (ck 33) 12 (fun _ => 0)), (eA1 (rf 34) (ck 34) 12 (fun _ => 0)), (eA1 (rf 35) (ck 35) 12 (fun _ => 0)), (eA0 (rf 36) (ck 36) 8 (fun _ => 0)), (eA1 (rf 37) (ck 37) 8 (fun _ => 0)), (eA0 (rf 38) (ck 38) 24 (fun _ => 0)), (eA0 (rf 39) (ck 39) 12 (fun _ => 0)), (eA0 (rf 40) (ck 40) 264 (fun _ => 0)), (eA0 (rf 41) (ck 41) 128 (fun _ => 0)), (eA0 (rf 42) (ck 42) 128 (fun _ => 0)), (eA0 (rf 43) (ck 43) 128 (fun _ => 0)), (eA0 (rf 45) (ck 45) 96 (fun _ => 0)), (eA0 (rf 46) (ck 46) 96 (fun _ => 0)), (eA1 (rf 55) (ck 55) 6 (fun _ => 0)), (eA1 (rf 56) (ck 56) 64 (fun _ => 0)), (eA0 (rf 60) (ck 60) 128 (fun _ => 0)), (eA0 (rf 61) (ck 61) 240000 (fun _ => 0)), (eA0 (rf 65) (ck 65) 12 (fun _ => 0)), (eA0 (rf 66) (ck 66) 12 (fun _ => 0)), (eA0 (rf 68) (ck 68) 20 (fun _ => 0)), (eA0 (rf 69) (ck 69) 20 (fun _ => 0)), (eA0 (rf 73) (ck 73) 132 (fun _ => 0)), (eA0 (rf 74) (ck 74) 20 (fun _ => 0)), (eA0 (rf 75) (ck 75) 20 (fun _ => 0))]) (w1 := [(mq, .inr (12, mF (upd (upd (upd (upd (upd (upd (upd (upd (upd (upd g 18 up.1) 19 up.2.1) 20 up.2.2.1) 21 up.2.2.2.1) 22 up.2.2.2.2.1) 23 up.2.2.2.2.2.1) 25 up.2.2.2.2.2.2.1) 26 up.2.2.2.2.2.2.2.1) 27 up.2.2.2.2.2.2.2.2.1) 50 up.2.2.2.2.2.2.2.2.2.1) gl rf)), (eA0 (rf 24) (ck 24) 14 up.2.2.2.2.2.2.2.2.2.2)]) hP hD [0, 3] [1, 2, 4, 5, 6, 7, 8, 9, 10, 11, 12, 13, 14, 15, 16, 17, 18, 19, 20, 21, 22, 23, 24, 25, 26, 27, 28, 29, 30, 31, 32] hCc rfl (by decide +kernel) (by decide +kernel) hk1 hFc hP1 hD1
  generalize H1 = H at hP hS ⊢
  have hP : va_P (dC, dI) vwCl ((eA0 (rf 0) (ck 0) 900 (fun _ => 0)) :: [(eA0 (rf 3) (ck 3) 118 (ym_w 118)), (eA0 (rf 28) (ck 28) 8 (fun _ => 0)), (eA0 (rf 29) (ck 29) 24 (fun _ => 0)), (eA0 (rf 30) (ck 30) 8 (fun _ => 0)), (eA0 (rf 31) (ck 31) 8 (fun _ => 0)), (eA0 (rf 32) (ck 32) 8 (fun _ => 0)), (eA0 (rf 33) (ck 33) 12 (fun _ => 0)), (eA1 (rf 34) (ck 34) 12 (fun _ => 0)), (eA1 (rf 35) (ck 35) 12 (fun _ => 0)), (eA0 (rf 36) (ck 36) 8 (fun _ => 0)), (eA1 (rf 37) (ck 37) 8 (fun _ => 0)), (eA0 (rf 38) (ck 38) 24 (fun _ => 0)), (eA0 (rf 39) (ck 39) 12 (fun _ => 0)), (eA0 (rf 40) (ck 40) 264 (fun _ => 0)), (eA0 (rf 41) (ck 41) 128 (fun _ => 0)), (eA0 (rf 42) (ck 42) 128 (fun _ => 0)), (eA0 (rf 43) (ck 43) 128 (fun _ => 0)), (eA0 (rf 45) (ck 45) 96 (fun _ => 0)), (eA0 (rf 46) (ck 46) 96 (fun _ => 0)), (eA1 (rf 55) (ck 55) 6 (fun _ => 0)), (eA1 (rf 56) (ck 56) 64 (fun _ => 0)), (eA0 (rf 60) (ck 60) 128 (fun _ => 0)), (eA0 (rf 61) (ck 61) 240000 (fun _ => 0)), (eA0 (rf 65) (ck 65) 12 (fun _ => 0)), (eA0 (rf 66) (ck 66) 12 (fun _ => 0)), (eA0 (rf 68) (ck 68) 20 (fun _ => 0)), (eA0 (rf 69) (ck 69) 20 (fun _ => 0)), (eA0 (rf 73) (ck 73) 132 (fun _ => 0)), (eA0 (rf 74) (ck 74) 20 (fun _ => 0)), (eA0 (rf 75) (ck 75) 20 (fun _ => 0)), (mq, .inr (12, mF (upd (upd (upd (upd (upd (upd (upd (upd (upd (upd g 18 up.1) 19 up.2.1) 20 up.2.2.1) 21 up.2.2.2.1) 22 up.2.2.2.2.1) 23 up.2.2.2.2.2.1) 25 up.2.2.2.2.2.2.1) 26 up.2.2.2.2.2.2.2.1) 27 up.2.2.2.2.2.2.2.2.1) 50 up.2.2.2.2.2.2.2.2.2.1) gl rf)), (eA0 (rf 24) (ck 24) 14 up.2.2.2.2.2.2.2.2.2.2)]) H := hP
  have hD : va_D A ((eA0 (rf 0) (ck 0) 900 (fun _ => 0)) :: [(eA0 (rf 3) (ck 3) 118 (ym_w 118)), (eA0 (rf 28) (ck 28) 8 (fun _ => 0)), (eA0 (rf 29) (ck 29) 24 (fun _ => 0)), (eA0 (rf 30) (ck 30) 8 (fun _ => 0)), (eA0 (rf 31) (ck 31) 8 (fun _ => 0)), (eA0 (rf 32) (ck 32) 8 (fun _ => 0)), (eA0 (rf 33) (ck 33) 12 (fun _ => 0)), (eA1 (rf 34) (ck 34) 12 (fun _ => 0)), (eA1 (rf 35) (ck 35) 12 (fun _ => 0)), (eA0 (rf 36) (ck 36) 8 (fun _ => 0)), (eA1 (rf 37) (ck 37) 8 (fun _ => 0)), (eA0 (rf 38) (ck 38) 24 (fun _ => 0)), (eA0 (rf 39) (ck 39) 12 (fun _ => 0)), (eA0 (rf 40) (ck 40) 264 (fun _ => 0)), (eA0 (rf 41) (ck 41) 128 (fun _ => 0)), (eA0 (rf 42) (ck 42) 128 (fun _ => 0)), (eA0 (rf 43) (ck 43) 128 (fun _ => 0)), (eA0 (rf 45) (ck 45) 96 (fun _ => 0)), (eA0 (rf 46) (ck 46) 96 (fun _ => 0)), (eA1 (rf 55) (ck 55) 6 (fun _ => 0)), (eA1 (rf 56) (ck 56) 64 (fun _ => 0)), (eA0 (rf 60) (ck 60) 128 (fun _ => 0)), (eA0 (rf 61) (ck 61) 240000 (fun _ => 0)), (eA0 (rf 65) (ck 65) 12 (fun _ => 0)), (eA0 (rf 66) (ck 66) 12 (fun _ => 0)), (eA0 (rf 68) (ck 68) 20 (fun _ => 0)), (eA0 (rf 69) (ck 69) 20 (fun _ => 0)), (eA0 (rf 73) (ck 73) 132 (fun _ => 0)), (eA0 (rf 74) (ck 74) 20 (fun _ => 0)), (eA0 (rf 75) (ck 75) 20 (fun _ => 0)), (mq, .inr (12, mF (upd (upd (upd (upd (upd (upd (upd (upd (upd (upd g 18 up.1) 19 up.2.1) 20 up.2.2.1) 21 up.2.2.2.1) 22 up.2.2.2.2.1) 23 up.2.2.2.2.2.1) 25 up.2.2.2.2.2.2.1) 26 up.2.2.2.2.2.2.2.1) 27 up.2.2.2.2.2.2.2.2.1) 50 up.2.2.2.2.2.2.2.2.2.1) gl rf)), (eA0 (rf 24) (ck 24) 14 up.2.2.2.2.2.2.2.2.2.2)]) := hD
  refine W.widen (k := 32) (n := 242450) (by omega) (by omega) ?_
  have hq_up : up = (fq_plain (fun _ => 0)) := hw
  refine lv_aload_n hx hb dX12_init_978 rfl (lv_at hl 0 rfl) ?_
  obtain ⟨hPc, hDc, hFc, hCc⟩ := zsub3 (ws' := [(mq, .inr (12, mF (upd (upd (upd (upd (upd (upd (upd (upd (upd (upd g 18 up.1) 19 up.2.1) 20 up.2.2.1) 21 up.2.2.2.1) 22 up.2.2.2.2.1) 23 up.2.2.2.2.2.1) 25 up.2.2.2.2.2.2.1) 26 up.2.2.2.2.2.2.2.1) 27 up.2.2.2.2.2.2.2.2.1) 50 up.2.2.2.2.2.2.2.2.2.1) gl rf)), (eA0 (rf 24) (ck 24) 14 up.2.2.2.2.2.2.2.2.2.2), (eA0 (rf 28) (ck 28) 8 (fun _ => 0)), (eA0 (rf 29) (ck 29) 24 (fun _ => 0)), (eA0 (rf 30) (ck 30) 8 (fun _ => 0)), (eA0 (rf 31) (ck 31) 8 (fun _ => 0)), (eA0 (rf 32) (ck 32) 8 (fun _ => 0)), (eA0 (rf 33) (ck 33) 12 (fun _ => 0)), (eA1 (rf 34) (ck 34) 12 (fun _ => 0)), (eA1 (rf 35) (ck 35) 12 (fun _ => 0)), (eA0 (rf 36) (ck 36) 8 (fun _ => 0)), (eA1 (rf 37) (ck 37) 8 (fun _ => 0)), (eA0 (rf 38) (ck 38) 24 (fun _ => 0)), (eA0 (rf 39) (ck 39) 12 (fun _ => 0)), (eA0 (rf 40) (ck 40) 264 (fun _ => 0)), (eA0 (rf 41) (ck 41) 128 (fun _ => 0)), (eA0 (rf 42) (ck 42) 128 (fun _ => 0)), (eA0 (rf 43) (ck 43) 128 (fun _ => 0))]) hP hD hS hA [31, 32, 2, 3, 4, 5, 6, 7, 8, 9, 10, 11, 12, 13, 14, 15, 16, 17] (by decide +kernel) rfl
  have hKc := hK.sub (tys' := [((ck 24), .int), ((ck 28), .int), ((ck 29), .int), ((ck 30), .int), ((ck 31), .int), ((ck 32), .int), ((ck 33), .int), ((ck 34), .long), ((ck 35), .long), ((ck 36), .int), ((ck 37), .long), ((ck 38), .int), ((ck 39), .int), ((ck 40), .int), ((ck 41), .int), ((ck 42), .int), ((ck 43), .int)]) [2, 3, 4, 5, 6, 7, 8, 9, 10, 11, 12, 13, 14, 15, 16, 17, 18] rfl
  refine va_callv (va_runV (As := []) (rest := []) ⟨hx, hb, hml, hown, htw⟩ (gq_keepText l dC dI mq (upd (upd (upd (upd (upd (upd (upd (upd (upd (upd g 18 up.1) 19 up.2.1) 20 up.2.2.1) 21 up.2.2.2.1) 22 up.2.2.2.2.1) 23 up.2.2.2.2.2.1) 25 up.2.2.2.2.2.2.1) 26 up.2.2.2.2.2.2.2.1) 27 up.2.2.2.2.2.2.2.2.1) 50 up.2.2.2.2.2.2.2.2.2.1) gl rf ck up.2.2.2.2.2.2.2.2.2.2 (fun _ => 0) (fun _ => 0) (fun _ => 0) (fun _ => 0) (fun _ => 0) (fun _ => 0) (fun _ => 0) (fun _ => 0) (fun _ => 0) (fun _ => 0) (fun _ => 0) (fun _ => 0) (fun _ => 0) (fun _ => 0) (fun _ => 0) (fun _ => 0) H.size) (cwV 0 htw (xg_V (ck_11 _ (List.mem_of_getElem? (i := 5) rfl)) (ck_11 _ (List.mem_of_getElem? (i := 6) rfl)) (ck_11 _ (List.mem_of_getElem? (i := 7) rfl)) (ck_1 _ (List.mem_of_getElem? (i := 5) rfl)) (ck_11 _ (List.mem_of_getElem? (i := 8) rfl))) rfl rfl rfl (by exact ⟨rfl, hdc_14.1, hdc_14.2, hdd_13⟩) ⟨Nat.le_of_ble_eq_true rfl, Nat.le_of_ble_eq_true rfl⟩) ⟨fun a U g mk q => by obtain ⟨q0, q1, qP, qK, qD⟩ := q; exact ⟨q0, q1, qP, va_K.moved (u := U) (U := U.calling g mk a) (Vm.Alike.refl U.vm) qK, qD⟩, va_recv hKc hPc (ci := 12) (q0 := 0) rfl rfl, fun U hU hW => ⟨rfl, by rw [hU], by rw [hU]; exact hPc, va_K.moved hW.alike hKc, hDc.weaken (fun _ _ _ _ => trivial)⟩⟩ rfl rfl hl.1 rfl (lv_room (Nat.le_of_ble_eq_true rfl)) dX12_init_979 ⟨Nat.le_of_ble_eq_true rfl, Nat.le_of_ble_eq_true rfl⟩) hS (fun q _ h => hFc q h) hFc (fun ut t H1 locs ht hvm hw hB hz1 hk1 hS => ?_)
  try dsimp only at hw
  obtain ⟨hP1, hK1, hD1⟩ := hB
  rw [ht] at hP1
  have hK1 := va_K.moved hvm.symm hK1
  have hK1 : va_K (dC, dI) vwCl [] s := hK1
  obtain ⟨hP, hD⟩ := va_join (wr := [(eA0 (rf 0) (ck 0) 900 (fun _ => 0)), (eA0 (rf 3) (ck 3) 118 (ym_w 118)), (eA0 (rf 45) (ck 45) 96 (fun _ => 0)), (eA0 (rf 46) (ck 46) 96 (fun _ => 0)), (eA1 (rf 55) (ck 55) 6 (fun _ => 0)), (eA1 (rf 56) (ck 56) 64 (fun _ => 0)), (eA0 (rf 60) (ck 60) 128 (fun _ => 0)), (eA0 (rf 61) (ck 61) 240000 (fun _ => 0)), (eA0 (rf 65) (ck 65) 12 (fun _ => 0)), (eA0 (rf 66) (ck 66) 12 (fun _ => 0)), (eA0 (rf 68) (ck 68) 20 (fun _ => 0)), (eA0 (rf 69) (ck 69) 20 (fun _ => 0)), (eA0 (rf 73) (ck 73) 132 (fun _ => 0)), (eA0 (rf 74) (ck 74) 20 (fun _ => 0)), (eA0 (rf 75) (ck 75) 20 (fun _ => 0))]) (w1 := [(mq, .inr (12, mF (upd (upd (upd (upd (upd (upd (upd (upd (upd (upd (upd (upd (upd (upd (upd (upd (upd (upd (upd (upd g 12 ut.1) 13 ut.2.1) 14 ut.2.2.1) 15 ut.2.2.2.1) 16 ut.2.2.2.2.1) 17 ut.2.2.2.2.2.1) 18 up.1) 19 up.2.1) 20 up.2.2.1) 21 up.2.2.2.1) 22 up.2.2.2.2.1) 23 up.2.2.2.2.2.1) 25 up.2.2.2.2.2.2.1) 26 up.2.2.2.2.2.2.2.1) 27 up.2.2.2.2.2.2.2.2.1) 50 up.2.2.2.2.2.2.2.2.2.1) 58 ut.2.2.2.2.2.2.1) 59 ut.2.2.2.2.2.2.2.1) 67 ut.2.2.2.2.2.2.2.2.1) 70 ut.2.2.2.2.2.2.2.2.2.1) gl rf)), (eA0 (rf 24) (ck 24) 14 ut.2.2.2.2.2.2.2.2.2.2.1), (eA0 (rf 28) (ck 28) 8 ut.2.2.2.2.2.2.2.2.2.2.2.1), (eA0 (rf 29) (ck 29) 24 ut.2.2.2.2.2.2.2.2.2.2.2.2.1), (eA0 (rf 30) (ck 30) 8 ut.2.2.2.2.2.2.2.2.2.2.2.2.2.1), (eA0 (rf 31) (ck 31) 8 ut.2.2.2.2.2.2.2.2.2.2.2.2.2.2.1), (eA0 (rf 32) (ck 32) 8 ut.2.2.2.2.2.2.2.2.2.2.2.2.2.2.2.1), (eA0 (rf 33) (ck 33) 12 ut.2.2.2.2.2.2.2.2.2.2.2.2.2.2.2.2.1), (eA1 (rf 34) (ck 34) 12 ut.2.2.2.2.2.2.2.2.2.2.2.2.2.2.2.2.2.1), (eA1 (rf 35) (ck 35) 12 ut.2.2.2.2.2.2.2.2.2.2.2.2.2.2.2.2.2.2.1), (eA0 (rf 36) (ck 36) 8 ut.2.2.2.2.2.2.2.2.2.2.2.2.2.2.2.2.2.2.2.1), (eA1 (rf 37) (ck 37) 8 ut.2.2.2.2.2.2.2.2.2.2.2.2.2.2.2.2.2.2.2.2.1), (eA0 (rf 38) (ck 38) 24 ut.2.2.2.2.2.2.2.2.2.2.2.2.2.2.2.2.2.2.2.2.2.1), (eA0 (rf 39) (ck 39) 12 ut.2.2.2.2.2.2.2.2.2.2.2.2.2.2.2.2.2.2.2.2.2.2.1), (eA0 (rf 40) (ck 40) 264 ut.2.2.2.2.2.2.2.2.2.2.2.2.2.2.2.2.2.2.2.2.2.2.2.1), (eA0 (rf 41) (ck 41) 128 ut.2.2.2.2.2.2.2.2.2.2.2.2.2.2.2.2.2.2.2.2.2.2.2.2.1), (eA0 (rf 42) (ck 42) 128 ut.2.2.2.2.2.2.2.2.2.2.2.2.2.2.2.2.2.2.2.2.2.2.2.2.2.1), (eA0 (rf 43) (ck 43) 128 ut.2.2.2.2.2.2.2.2.2.2.2.2.2.2.2.2.2.2.2.2.2.2.2.2.2.2)]) hP hD [31, 32, 2, 3, 4, 5, 6, 7, 8, 9, 10, 11, 12, 13, 14, 15, 16, 17] [0, 1, 18, 19, 20, 21, 22, 23, 24, 25, 26, 27, 28, 29, 30] hCc rfl (by decide +kernel) (by decide +kernel) hk1 hFc hP1 hD1
  generalize H1 = H at hP hS ⊢
  have hP : va_P (dC, dI) vwCl ((eA0 (rf 0) (ck 0) 900 (fun _ => 0)) :: [(eA0 (rf 3) (ck 3) 118 (ym_w 118)), (eA0 (rf 45) (ck 45) 96 (fun _ => 0)), (eA0 (rf 46) (ck 46) 96 (fun _ => 0)), (eA1 (rf 55) (ck 55) 6 (fun _ => 0)), (eA1 (rf 56) (ck 56) 64 (fun _ => 0)), (eA0 (rf 60) (ck 60) 128 (fun _ => 0)), (eA0 (rf 61) (ck 61) 240000 (fun _ => 0)), (eA0 (rf 65) (ck 65) 12 (fun _ => 0)), (eA0 (rf 66) (ck 66) 12 (fun _ => 0)), (eA0 (rf 68) (ck 68) 20 (fun _ => 0)), (eA0 (rf 69) (ck 69) 20 (fun _ => 0)), (eA0 (rf 73) (ck 73) 132 (fun _ => 0)), (eA0 (rf 74) (ck 74) 20 (fun _ => 0)), (eA0 (rf 75) (ck 75) 20 (fun _ => 0)), (mq, .inr (12, mF (upd (upd (upd (upd (upd (upd (upd (upd (upd (upd (upd (upd (upd (upd (upd (upd (upd (upd (upd (upd g 12 ut.1) 13 ut.2.1) 14 ut.2.2.1) 15 ut.2.2.2.1) 16 ut.2.2.2.2.1) 17 ut.2.2.2.2.2.1) 18 up.1) 19 up.2.1) 20 up.2.2.1) 21 up.2.2.2.1) 22 up.2.2.2.2.1) 23 up.2.2.2.2.2.1) 25 up.2.2.2.2.2.2.1) 26 up.2.2.2.2.2.2.2.1) 27 up.2.2.2.2.2.2.2.2.1) 50 up.2.2.2.2.2.2.2.2.2.1) 58 ut.2.2.2.2.2.2.1) 59 ut.2.2.2.2.2.2.2.1) 67 ut.2.2.2.2.2.2.2.2.1) 70 ut.2.2.2.2.2.2.2.2.2.1) gl rf)), (eA0 (rf 24) (ck 24) 14 ut.2.2.2.2.2.2.2.2.2.2.1), (eA0 (rf 28) (ck 28) 8 ut.2.2.2.2.2.2.2.2.2.2.2.1), (eA0 (rf 29) (ck 29) 24 ut.2.2.2.2.2.2.2.2.2.2.2.2.1), (eA0 (rf 30) (ck 30) 8 ut.2.2.2.2.2.2.2.2.2.2.2.2.2.1), (eA0 (rf 31) (ck 31) 8 ut.2.2.2.2.2.2.2.2.2.2.2.2.2.2.1), (eA0 (rf 32) (ck 32) 8 ut.2.2.2.2.2.2.2.2.2.2.2.2.2.2.2.1), (eA0 (rf 33) (ck 33) 12 ut.2.2.2.2.2.2.2.2.2.2.2.2.2.2.2.2.1), (eA1 (rf 34) (ck 34) 12 ut.2.2.2.2.2.2.2.2.2.2.2.2.2.2.2.2.2.1), (eA1 (rf 35) (ck 35) 12 ut.2.2.2.2.2.2.2.2.2.2.2.2.2.2.2.2.2.2.1), (eA0 (rf 36) (ck 36) 8 ut.2.2.2.2.2.2.2.2.2.2.2.2.2.2.2.2.2.2.2.1), (eA1 (rf 37) (ck 37) 8 ut.2.2.2.2.2.2.2.2.2.2.2.2.2.2.2.2.2.2.2.2.1), (eA0 (rf 38) (ck 38) 24 ut.2.2.2.2.2.2.2.2.2.2.2.2.2.2.2.2.2.2.2.2.2.1), (eA0 (rf 39) (ck 39) 12 ut.2.2.2.2.2.2.2.2.2.2.2.2.2.2.2.2.2.2.2.2.2.2.1), (eA0 (rf 40) (ck 40) 264 ut.2.2.2.2.2.2.2.2.2.2.2.2.2.2.2.2.2.2.2.2.2.2.2.1), (eA0 (rf 41) (ck 41) 128 ut.2.2.2.2.2.2.2.2.2.2.2.2.2.2.2.2.2.2.2.2.2.2.2.2.1), (eA0 (rf 42) (ck 42) 128 ut.2.2.2.2.2.2.2.2.2.2.2.2.2.2.2.2.2.2.2.2.2.2.2.2.2.1), (eA0 (rf 43) (ck 43) 128 ut.2.2.2.2.2.2.2.2.2.2.2.2.2.2.2.2.2.2.2.2.2.2.2.2.2.2)]) H := hP
  have hD : va_D A ((eA0 (rf 0) (ck 0) 900 (fun _ => 0)) :: [(eA0 (rf 3) (ck 3) 118 (ym_w 118)), (eA0 (rf 45) (ck 45) 96 (fun _ => 0)), (eA0 (rf 46) (ck 46) 96 (fun _ => 0)), (eA1 (rf 55) (ck 55) 6 (fun _ => 0)), (eA1 (rf 56) (ck 56) 64 (fun _ => 0)), (eA0 (rf 60) (ck 60) 128 (fun _ => 0)), (eA0 (rf 61) (ck 61) 240000 (fun _ => 0)), (eA0 (rf 65) (ck 65) 12 (fun _ => 0)), (eA0 (rf 66) (ck 66) 12 (fun _ => 0)), (eA0 (rf 68) (ck 68) 20 (fun _ => 0)), (eA0 (rf 69) (ck 69) 20 (fun _ => 0)), (eA0 (rf 73) (ck 73) 132 (fun _ => 0)), (eA0 (rf 74) (ck 74) 20 (fun _ => 0)), (eA0 (rf 75) (ck 75) 20 (fun _ => 0)), (mq, .inr (12, mF (upd (upd (upd (upd (upd (upd (upd (upd (upd (upd (upd (upd (upd (upd (upd (upd (upd (upd (upd (upd g 12 ut.1) 13 ut.2.1) 14 ut.2.2.1) 15 ut.2.2.2.1) 16 ut.2.2.2.2.1) 17 ut.2.2.2.2.2.1) 18 up.1) 19 up.2.1) 20 up.2.2.1) 21 up.2.2.2.1) 22 up.2.2.2.2.1) 23 up.2.2.2.2.2.1) 25 up.2.2.2.2.2.2.1) 26 up.2.2.2.2.2.2.2.1) 27 up.2.2.2.2.2.2.2.2.1) 50 up.2.2.2.2.2.2.2.2.2.1) 58 ut.2.2.2.2.2.2.1) 59 ut.2.2.2.2.2.2.2.1) 67 ut.2.2.2.2.2.2.2.2.1) 70 ut.2.2.2.2.2.2.2.2.2.1) gl rf)), (eA0 (rf 24) (ck 24) 14 ut.2.2.2.2.2.2.2.2.2.2.1), (eA0 (rf 28) (ck 28) 8 ut.2.2.2.2.2.2.2.2.2.2.2.1), (eA0 (rf 29) (ck 29) 24 ut.2.2.2.2.2.2.2.2.2.2.2.2.1), (eA0 (rf 30) (ck 30) 8 ut.2.2.2.2.2.2.2.2.2.2.2.2.2.1), (eA0 (rf 31) (ck 31) 8 ut.2.2.2.2.2.2.2.2.2.2.2.2.2.2.1), (eA0 (rf 32) (ck 32) 8 ut.2.2.2.2.2.2.2.2.2.2.2.2.2.2.2.1), (eA0 (rf 33) (ck 33) 12 ut.2.2.2.2.2.2.2.2.2.2.2.2.2.2.2.2.1), (eA1 (rf 34) (ck 34) 12 ut.2.2.2.2.2.2.2.2.2.2.2.2.2.2.2.2.2.1), (eA1 (rf 35) (ck 35) 12 ut.2.2.2.2.2.2.2.2.2.2.2.2.2.2.2.2.2.2.1), (eA0 (rf 36) (ck 36) 8 ut.2.2.2.2.2.2.2.2.2.2.2.2.2.2.2.2.2.2.2.1), (eA1 (rf 37) (ck 37) 8 ut.2.2.2.2.2.2.2.2.2.2.2.2.2.2.2.2.2.2.2.2.1), (eA0 (rf 38) (ck 38) 24 ut.2.2.2.2.2.2.2.2.2.2.2.2.2.2.2.2.2.2.2.2.2.1), (eA0 (rf 39) (ck 39) 12 ut.2.2.2.2.2.2.2.2.2.2.2.2.2.2.2.2.2.2.2.2.2.2.1), (eA0 (rf 40) (ck 40) 264 ut.2.2.2.2.2.2.2.2.2.2.2.2.2.2.2.2.2.2.2.2.2.2.2.1), (eA0 (rf 41) (ck 41) 128 ut.2.2.2.2.2.2.2.2.2.2.2.2.2.2.2.2.2.2.2.2.2.2.2.2.1), (eA0 (rf 42) (ck 42) 128 ut.2.2.2.2.2.2.2.2.2.2.2.2.2.2.2.2.2.2.2.2.2.2.2.2.2.1), (eA0 (rf 43) (ck 43) 128 ut.2.2.2.2.2.2.2.2.2.2.2.2.2.2.2.2.2.2.2.2.2.2.2.2.2.2)]) := hD
  refine W.widen (k := 32) (n := 242450) (by omega) (by omega) ?_
  have hq_ut : ut = (fq_keepText up.2.2.2.2.2.2.2.2.2.2 (fun _ => 0) (fun _ => 0) (fun _ => 0) (fun _ => 0) (fun _ => 0) (fun _ => 0) (fun _ => 0) (fun _ => 0) (fun _ => 0) (fun _ => 0) (fun _ => 0) (fun _ => 0) (fun _ => 0) (fun _ => 0) (fun _ => 0) (fun _ => 0) up.1 up.2.1 up.2.2.1 up.2.2.2.1 up.2.2.2.2.1 up.2.2.2.2.2.1) := hw
  refine W.widen (k := 32) (n := 242450) (by omega) (by omega) ?_
  have hP9 := hP.sub (ws' := ((mq, .inr (12, mF (upd (upd (upd (upd (upd (upd (upd (upd (upd (upd (upd (upd (upd (upd (upd (upd (upd (upd (upd (upd g 12 ut.1) 13 ut.2.1) 14 ut.2.2.1) 15 ut.2.2.2.1) 16 ut.2.2.2.2.1) 17 ut.2.2.2.2.2.1) 18 up.1) 19 up.2.1) 20 up.2.2.1) 21 up.2.2.2.1) 22 up.2.2.2.2.1) 23 up.2.2.2.2.2.1) 25 up.2.2.2.2.2.2.1) 26 up.2.2.2.2.2.2.2.1) 27 up.2.2.2.2.2.2.2.2.1) 50 up.2.2.2.2.2.2.2.2.2.1) 58 ut.2.2.2.2.2.2.1) 59 ut.2.2.2.2.2.2.2.1) 67 ut.2.2.2.2.2.2.2.2.1) 70 ut.2.2.2.2.2.2.2.2.2.1) gl rf)) :: [(eA0 (rf 0) (ck 0) 900 (fun _ => 0)), (eA0 (rf 3) (ck 3) 118 (ym_w 118)), (eA0 (rf 24) (ck 24) 14 ut.2.2.2.2.2.2.2.2.2.2.1), (eA0 (rf 28) (ck 28) 8 ut.2.2.2.2.2.2.2.2.2.2.2.1), (eA0 (rf 29) (ck 29) 24 ut.2.2.2.2.2.2.2.2.2.2.2.2.1), (eA0 (rf 30) (ck 30) 8 ut.2.2.2.2.2.2.2.2.2.2.2.2.2.1), (eA0 (rf 31) (ck 31) 8 ut.2.2.2.2.2.2.2.2.2.2.2.2.2.2.1), (eA0 (rf 32) (ck 32) 8 ut.2.2.2.2.2.2.2.2.2.2.2.2.2.2.2.1), (eA0 (rf 33) (ck 33) 12 ut.2.2.2.2.2.2.2.2.2.2.2.2.2.2.2.2.1), (eA1 (rf 34) (ck 34) 12 ut.2.2.2.2.2.2.2.2.2.2.2.2.2.2.2.2.2.1), (eA1 (rf 35) (ck 35) 12 ut.2.2.2.2.2.2.2.2.2.2.2.2.2.2.2.2.2.2.1), (eA0 (rf 36) (ck 36) 8 ut.2.2.2.2.2.2.2.2.2.2.2.2.2.2.2.2.2.2.2.1), (eA1 (rf 37) (ck 37) 8 ut.2.2.2.2.2.2.2.2.2.2.2.2.2.2.2.2.2.2.2.2.1), (eA0 (rf 38) (ck 38) 24 ut.2.2.2.2.2.2.2.2.2.2.2.2.2.2.2.2.2.2.2.2.2.1), (eA0 (rf 39) (ck 39) 12 ut.2.2.2.2.2.2.2.2.2.2.2.2.2.2.2.2.2.2.2.2.2.2.1), (eA0 (rf 40) (ck 40) 264 ut.2.2.2.2.2.2.2.2.2.2.2.2.2.2.2.2.2.2.2.2.2.2.2.1), (eA0 (rf 41) (ck 41) 128 ut.2.2.2.2.2.2.2.2.2.2.2.2.2.2.2.2.2.2.2.2.2.2.2.2.1), (eA0 (rf 42) (ck 42) 128 ut.2.2.2.2.2.2.2.2.2.2.2.2.2.2.2.2.2.2.2.2.2.2.2.2.2.1), (eA0 (rf 43) (ck 43) 128 ut.2.2.2.2.2.2.2.2.2.2.2.2.2.2.2.2.2.2.2.2.2.2.2.2.2.2), (eA0 (rf 45) (ck 45) 96 (fun _ => 0)), (eA0 (rf 46) (ck 46) 96 (fun _ => 0)), (eA1 (rf 55) (ck 55) 6 (fun _ => 0)), (eA1 (rf 56) (ck 56) 64 (fun _ => 0)), (eA0 (rf 60) (ck 60) 128 (fun _ => 0)), (eA0 (rf 61) (ck 61) 240000 (fun _ => 0)), (eA0 (rf 65) (ck 65) 12 (fun _ => 0)), (eA0 (rf 66) (ck 66) 12 (fun _ => 0)), (eA0 (rf 68) (ck 68) 20 (fun _ => 0)), (eA0 (rf 69) (ck 69) 20 (fun _ => 0)), (eA0 (rf 73) (ck 73) 132 (fun _ => 0)), (eA0 (rf 74) (ck 74) 20 (fun _ => 0)), (eA0 (rf 75) (ck 75) 20 (fun _ => 0))])) (15 :: [0, 1, 16, 17, 18, 19, 20, 21, 22, 23, 24, 25, 26, 27, 28, 29, 30, 31, 32, 2, 3, 4, 5, 6, 7, 8, 9, 10, 11, 12, 13, 14]) rfl
  have hD9 := hD.sub (ws' := ((mq, .inr (12, mF (upd (upd (upd (upd (upd (upd (upd (upd (upd (upd (upd (upd (upd (upd (upd (upd (upd (upd (upd (upd g 12 ut.1) 13 ut.2.1) 14 ut.2.2.1) 15 ut.2.2.2.1) 16 ut.2.2.2.2.1) 17 ut.2.2.2.2.2.1) 18 up.1) 19 up.2.1) 20 up.2.2.1) 21 up.2.2.2.1) 22 up.2.2.2.2.1) 23 up.2.2.2.2.2.1) 25 up.2.2.2.2.2.2.1) 26 up.2.2.2.2.2.2.2.1) 27 up.2.2.2.2.2.2.2.2.1) 50 up.2.2.2.2.2.2.2.2.2.1) 58 ut.2.2.2.2.2.2.1) 59 ut.2.2.2.2.2.2.2.1) 67 ut.2.2.2.2.2.2.2.2.1) 70 ut.2.2.2.2.2.2.2.2.2.1) gl rf)) :: [(eA0 (rf 0) (ck 0) 900 (fun _ => 0)), (eA0 (rf 3) (ck 3) 118 (ym_w 118)), (eA0 (rf 24) (ck 24) 14 ut.2.2.2.2.2.2.2.2.2.2.1), (eA0 (rf 28) (ck 28) 8 ut.2.2.2.2.2.2.2.2.2.2.2.1), (eA0 (rf 29) (ck 29) 24 ut.2.2.2.2.2.2.2.2.2.2.2.2.1), (eA0 (rf 30) (ck 30) 8 ut.2.2.2.2.2.2.2.2.2.2.2.2.2.1), (eA0 (rf 31) (ck 31) 8 ut.2.2.2.2.2.2.2.2.2.2.2.2.2.2.1), (eA0 (rf 32) (ck 32) 8 ut.2.2.2.2.2.2.2.2.2.2.2.2.2.2.2.1), (eA0 (rf 33) (ck 33) 12 ut.2.2.2.2.2.2.2.2.2.2.2.2.2.2.2.2.1), (eA1 (rf 34) (ck 34) 12 ut.2.2.2.2.2.2.2.2.2.2.2.2.2.2.2.2.2.1), (eA1 (rf 35) (ck 35) 12 ut.2.2.2.2.2.2.2.2.2.2.2.2.2.2.2.2.2.2.1), (eA0 (rf 36) (ck 36) 8 ut.2.2.2.2.2.2.2.2.2.2.2.2.2.2.2.2.2.2.2.1), (eA1 (rf 37) (ck 37) 8 ut.2.2.2.2.2.2.2.2.2.2.2.2.2.2.2.2.2.2.2.2.1), (eA0 (rf 38) (ck 38) 24 ut.2.2.2.2.2.2.2.2.2.2.2.2.2.2.2.2.2.2.2.2.2.1), (eA0 (rf 39) (ck 39) 12 ut.2.2.2.2.2.2.2.2.2.2.2.2.2.2.2.2.2.2.2.2.2.2.1), (eA0 (rf 40) (ck 40) 264 ut.2.2.2.2.2.2.2.2.2.2.2.2.2.2.2.2.2.2.2.2.2.2.2.1), (eA0 (rf 41) (ck 41) 128 ut.2.2.2.2.2.2.2.2.2.2.2.2.2.2.2.2.2.2.2.2.2.2.2.2.1), (eA0 (rf 42) (ck 42) 128 ut.2.2.2.2.2.2.2.2.2.2.2.2.2.2.2.2.2.2.2.2.2.2.2.2.2.1), (eA0 (rf 43) (ck 43) 128 ut.2.2.2.2.2.2.2.2.2.2.2.2.2.2.2.2.2.2.2.2.2.2.2.2.2.2), (eA0 (rf 45) (ck 45) 96 (fun _ => 0)), (eA0 (rf 46) (ck 46) 96 (fun _ => 0)), (eA1 (rf 55) (ck 55) 6 (fun _ => 0)), (eA1 (rf 56) (ck 56) 64 (fun _ => 0)), (eA0 (rf 60) (ck 60) 128 (fun _ => 0)), (eA0 (rf 61) (ck 61) 240000 (fun _ => 0)), (eA0 (rf 65) (ck 65) 12 (fun _ => 0)), (eA0 (rf 66) (ck 66) 12 (fun _ => 0)), (eA0 (rf 68) (ck 68) 20 (fun _ => 0)), (eA0 (rf 69) (ck 69) 20 (fun _ => 0)), (eA0 (rf 73) (ck 73) 132 (fun _ => 0)), (eA0 (rf 74) (ck 74) 20 (fun _ => 0)), (eA0 (rf 75) (ck 75) 20 (fun _ => 0))])) (15 :: [0, 1, 16, 17, 18, 19, 20, 21, 22, 23, 24, 25, 26, 27, 28, 29, 30, 31, 32, 2, 3, 4, 5, 6, 7, 8, 9, 10, 11, 12, 13, 14]) (by decide) rfl
  have hK9 := hK.sub (tys' := [((ck 0), .int), ((ck 3), .int), ((ck 24), .int), ((ck 28), .int), ((ck 29), .int), ((ck 30), .int), ((ck 31), .int), ((ck 32), .int), ((ck 33), .int), ((ck 34), .long), ((ck 35), .long), ((ck 36), .int), ((ck 37), .long), ((ck 38), .int), ((ck 39), .int), ((ck 40), .int), ((ck 41), .int), ((ck 42), .int), ((ck 43), .int), ((ck 45), .int), ((ck 46), .int), ((ck 55), .long), ((ck 56), .long), ((ck 60), .int), ((ck 61), .boolean), ((ck 65), .int), ((ck 66), .int), ((ck 68), .int), ((ck 69), .int), ((ck 73), .int), ((ck 74), .int), ((ck 75), .int)]) [0, 1, 2, 3, 4, 5, 6, 7, 8, 9, 10, 11, 12, 13, 14, 15, 16, 17, 18, 19, 20, 21, 22, 23, 24, 25, 26, 27, 28, 29, 30, 31] rfl
  exact W.vret hx hb hr (fun t ht hW => ⟨⟨(g, gl, rf, ck, up, ut), rfl, ⟨hg, hgl, hq_up, hq_ut⟩, by rw [ht]; exact hP9, va_K.moved hW.alike hK9, hD9⟩, hS.F ht⟩) hS.2.2 dX12_init_982
