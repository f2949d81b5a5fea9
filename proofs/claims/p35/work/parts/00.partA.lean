-- ===== PART A: goes FIRST, ahead of the names: the tables' words, and 'selects' of the private methods out of them =====
/-- a private method of a class that the tables say can be made, by its rows of tables_1 -/
def lw_okq (q : MethodName × Nat) : Prop := (q.1.cls ≠ "java/lang/invoke/MethodHandle" ∧ q.1.cls ≠ "java/lang/invoke/VarHandle") ∧ Cond.instantiable q.1.cls q.2 ∈ tables_1 ∧ Cond.privateMethod q.1 ∈ tables_1 ∧ Cond.instanceMethod q.1 ∈ tables_1
theorem lw_tb1 {w : Cond} (h : w ∈ tables_1_1) : w ∈ tables_1 := List.mem_append_left _ h
theorem lw_tb2 {w : Cond} (h : w ∈ tables_1_2) : w ∈ tables_1 := List.mem_append_right _ (List.mem_append_left _ h)
theorem lw_tb3 {w : Cond} (h : w ∈ tables_1_3) : w ∈ tables_1 := List.mem_append_right _ (List.mem_append_right _ (List.mem_append_left _ h))
theorem lw_tb4 {w : Cond} (h : w ∈ tables_1_4) : w ∈ tables_1 := List.mem_append_right _ (List.mem_append_right _ (List.mem_append_right _ (List.mem_append_left _ h)))
theorem lw_tb5 {w : Cond} (h : w ∈ tables_1_5) : w ∈ tables_1 := List.mem_append_right _ (List.mem_append_right _ (List.mem_append_right _ (List.mem_append_right _ (List.mem_append_left _ h))))
theorem lw_tb6 {w : Cond} (h : w ∈ tables_1_6) : w ∈ tables_1 := List.mem_append_right _ (List.mem_append_right _ (List.mem_append_right _ (List.mem_append_right _ (List.mem_append_right _ (List.mem_append_left _ h)))))
theorem lw_tb7 {w : Cond} (h : w ∈ tables_1_7) : w ∈ tables_1 := List.mem_append_right _ (List.mem_append_right _ (List.mem_append_right _ (List.mem_append_right _ (List.mem_append_right _ (List.mem_append_right _ (List.mem_append_left _ h))))))
theorem lw_tb8 {w : Cond} (h : w ∈ tables_1_8) : w ∈ tables_1 := List.mem_append_right _ (List.mem_append_right _ (List.mem_append_right _ (List.mem_append_right _ (List.mem_append_right _ (List.mem_append_right _ (List.mem_append_right _ (List.mem_append_left _ h)))))))
theorem lw_tb9 {w : Cond} (h : w ∈ tables_1_9) : w ∈ tables_1 := List.mem_append_right _ (List.mem_append_right _ (List.mem_append_right _ (List.mem_append_right _ (List.mem_append_right _ (List.mem_append_right _ (List.mem_append_right _ (List.mem_append_right _ (h))))))))
theorem lw_cn0 : ("LongYears" : String) ≠ "java/lang/invoke/MethodHandle" ∧ ("LongYears" : String) ≠ "java/lang/invoke/VarHandle" := ⟨by decide +kernel, by decide +kernel⟩
theorem lw_cn1 : ("LongYears$Lexer" : String) ≠ "java/lang/invoke/MethodHandle" ∧ ("LongYears$Lexer" : String) ≠ "java/lang/invoke/VarHandle" := ⟨by decide +kernel, by decide +kernel⟩
theorem lw_cn2 : ("LongYears$Moment" : String) ≠ "java/lang/invoke/MethodHandle" ∧ ("LongYears$Moment" : String) ≠ "java/lang/invoke/VarHandle" := ⟨by decide +kernel, by decide +kernel⟩
theorem lw_cn3 : ("LongYears$NoteDays" : String) ≠ "java/lang/invoke/MethodHandle" ∧ ("LongYears$NoteDays" : String) ≠ "java/lang/invoke/VarHandle" := ⟨by decide +kernel, by decide +kernel⟩
theorem lw_cn4 : ("LongYears$Parser" : String) ≠ "java/lang/invoke/MethodHandle" ∧ ("LongYears$Parser" : String) ≠ "java/lang/invoke/VarHandle" := ⟨by decide +kernel, by decide +kernel⟩
theorem lw_cn5 : ("LongYearsModel" : String) ≠ "java/lang/invoke/MethodHandle" ∧ ("LongYearsModel" : String) ≠ "java/lang/invoke/VarHandle" := ⟨by decide +kernel, by decide +kernel⟩
theorem lw_cn6 : ("java/lang/Throwable" : String) ≠ "java/lang/invoke/MethodHandle" ∧ ("java/lang/Throwable" : String) ≠ "java/lang/invoke/VarHandle" := ⟨by decide +kernel, by decide +kernel⟩
set_option maxRecDepth 100000 in
theorem lw_p0 : lw_okq (⟨"LongYears$Lexer", "readWord", "()V"⟩, 9) := ⟨lw_cn1, lw_tb1 (List.mem_of_getElem? (i := 45) rfl), lw_tb3 (List.mem_of_getElem? (i := 66) rfl), lw_tb3 (List.mem_of_getElem? (i := 67) rfl)⟩
set_option maxRecDepth 100000 in
theorem lw_p1 : lw_okq (⟨"LongYears$Lexer", "readNumber", "()V"⟩, 9) := ⟨lw_cn1, lw_tb1 (List.mem_of_getElem? (i := 45) rfl), lw_tb3 (List.mem_of_getElem? (i := 70) rfl), lw_tb3 (List.mem_of_getElem? (i := 71) rfl)⟩
set_option maxRecDepth 100000 in
theorem lw_p2 : lw_okq (⟨"LongYears$Lexer", "readSign", "(I)V"⟩, 9) := ⟨lw_cn1, lw_tb1 (List.mem_of_getElem? (i := 45) rfl), lw_tb3 (List.mem_of_getElem? (i := 75) rfl), lw_tb3 (List.mem_of_getElem? (i := 76) rfl)⟩
set_option maxRecDepth 100000 in
theorem lw_p3 : lw_okq (⟨"LongYears$Parser", "readLine", "()V"⟩, 9) := ⟨lw_cn4, lw_tb1 (List.mem_of_getElem? (i := 39) rfl), lw_tb3 (List.mem_of_getElem? (i := 79) rfl), lw_tb3 (List.mem_of_getElem? (i := 80) rfl)⟩
set_option maxRecDepth 100000 in
theorem lw_p4 : lw_okq (⟨"LongYears$Parser", "readLand", "()V"⟩, 9) := ⟨lw_cn4, lw_tb1 (List.mem_of_getElem? (i := 39) rfl), lw_tb3 (List.mem_of_getElem? (i := 83) rfl), lw_tb3 (List.mem_of_getElem? (i := 84) rfl)⟩
set_option maxRecDepth 100000 in
theorem lw_p5 : lw_okq (⟨"LongYears$Parser", "beginNamed", "(I)I"⟩, 9) := ⟨lw_cn4, lw_tb1 (List.mem_of_getElem? (i := 39) rfl), lw_tb3 (List.mem_of_getElem? (i := 87) rfl), lw_tb3 (List.mem_of_getElem? (i := 88) rfl)⟩
set_option maxRecDepth 100000 in
theorem lw_p6 : lw_okq (⟨"LongYears$Parser", "refuse", "(ZII)V"⟩, 9) := ⟨lw_cn4, lw_tb1 (List.mem_of_getElem? (i := 39) rfl), lw_tb3 (List.mem_of_getElem? (i := 92) rfl), lw_tb3 (List.mem_of_getElem? (i := 93) rfl)⟩
set_option maxRecDepth 100000 in
theorem lw_p7 : lw_okq (⟨"java/lang/Throwable", "fillInStackTrace", "(I)Ljava/lang/Throwable;"⟩, 6) := ⟨lw_cn6, lw_tb3 (List.mem_of_getElem? (i := 133) rfl), lw_tb3 (List.mem_of_getElem? (i := 131) rfl), lw_tb3 (List.mem_of_getElem? (i := 132) rfl)⟩
set_option maxRecDepth 100000 in
theorem lw_p8 : lw_okq (⟨"LongYears$Parser", "numberIn", "(II)I"⟩, 9) := ⟨lw_cn4, lw_tb1 (List.mem_of_getElem? (i := 39) rfl), lw_tb3 (List.mem_of_getElem? (i := 167) rfl), lw_tb3 (List.mem_of_getElem? (i := 168) rfl)⟩
set_option maxRecDepth 100000 in
theorem lw_p9 : lw_okq (⟨"LongYears$Parser", "signedUpTo", "(I)I"⟩, 9) := ⟨lw_cn4, lw_tb1 (List.mem_of_getElem? (i := 39) rfl), lw_tb3 (List.mem_of_getElem? (i := 171) rfl), lw_tb3 (List.mem_of_getElem? (i := 172) rfl)⟩
set_option maxRecDepth 100000 in
theorem lw_p10 : lw_okq (⟨"LongYears$Parser", "readWeek", "()V"⟩, 9) := ⟨lw_cn4, lw_tb1 (List.mem_of_getElem? (i := 39) rfl), lw_tb3 (List.mem_of_getElem? (i := 176) rfl), lw_tb3 (List.mem_of_getElem? (i := 177) rfl)⟩
set_option maxRecDepth 100000 in
theorem lw_p11 : lw_okq (⟨"LongYears$Parser", "beginSky", "(I)V"⟩, 9) := ⟨lw_cn4, lw_tb1 (List.mem_of_getElem? (i := 39) rfl), lw_tb3 (List.mem_of_getElem? (i := 180) rfl), lw_tb3 (List.mem_of_getElem? (i := 181) rfl)⟩
set_option maxRecDepth 100000 in
theorem lw_p12 : lw_okq (⟨"LongYears$Parser", "readMoon", "()V"⟩, 9) := ⟨lw_cn4, lw_tb1 (List.mem_of_getElem? (i := 39) rfl), lw_tb3 (List.mem_of_getElem? (i := 184) rfl), lw_tb3 (List.mem_of_getElem? (i := 185) rfl)⟩
set_option maxRecDepth 100000 in
theorem lw_p13 : lw_okq (⟨"LongYears$Parser", "latterParts", "(I)I"⟩, 9) := ⟨lw_cn4, lw_tb1 (List.mem_of_getElem? (i := 39) rfl), lw_tb3 (List.mem_of_getElem? (i := 188) rfl), lw_tb3 (List.mem_of_getElem? (i := 189) rfl)⟩
set_option maxRecDepth 100000 in
theorem lw_p14 : lw_okq (⟨"LongYears$Parser", "readSun", "()V"⟩, 9) := ⟨lw_cn4, lw_tb1 (List.mem_of_getElem? (i := 39) rfl), lw_tb3 (List.mem_of_getElem? (i := 192) rfl), lw_tb3 (List.mem_of_getElem? (i := 193) rfl)⟩
set_option maxRecDepth 100000 in
theorem lw_p15 : lw_okq (⟨"LongYears$Parser", "readFeast", "()V"⟩, 9) := ⟨lw_cn4, lw_tb1 (List.mem_of_getElem? (i := 39) rfl), lw_tb3 (List.mem_of_getElem? (i := 196) rfl), lw_tb3 (List.mem_of_getElem? (i := 197) rfl)⟩
def lw_privs_1 : List (MethodName × Nat) := [(⟨"LongYears$Lexer", "readWord", "()V"⟩, 9), (⟨"LongYears$Lexer", "readNumber", "()V"⟩, 9), (⟨"LongYears$Lexer", "readSign", "(I)V"⟩, 9), (⟨"LongYears$Parser", "readLine", "()V"⟩, 9), (⟨"LongYears$Parser", "readLand", "()V"⟩, 9), (⟨"LongYears$Parser", "beginNamed", "(I)I"⟩, 9), (⟨"LongYears$Parser", "refuse", "(ZII)V"⟩, 9), (⟨"java/lang/Throwable", "fillInStackTrace", "(I)Ljava/lang/Throwable;"⟩, 6), (⟨"LongYears$Parser", "numberIn", "(II)I"⟩, 9), (⟨"LongYears$Parser", "signedUpTo", "(I)I"⟩, 9), (⟨"LongYears$Parser", "readWeek", "()V"⟩, 9), (⟨"LongYears$Parser", "beginSky", "(I)V"⟩, 9), (⟨"LongYears$Parser", "readMoon", "()V"⟩, 9), (⟨"LongYears$Parser", "latterParts", "(I)I"⟩, 9), (⟨"LongYears$Parser", "readSun", "()V"⟩, 9), (⟨"LongYears$Parser", "readFeast", "()V"⟩, 9)]
theorem lw_r1 : ∀ q ∈ lw_privs_1, lw_okq q := List.forall_mem_cons.mpr ⟨lw_p0, List.forall_mem_cons.mpr ⟨lw_p1, List.forall_mem_cons.mpr ⟨lw_p2, List.forall_mem_cons.mpr ⟨lw_p3, List.forall_mem_cons.mpr ⟨lw_p4, List.forall_mem_cons.mpr ⟨lw_p5, List.forall_mem_cons.mpr ⟨lw_p6, List.forall_mem_cons.mpr ⟨lw_p7, List.forall_mem_cons.mpr ⟨lw_p8, List.forall_mem_cons.mpr ⟨lw_p9, List.forall_mem_cons.mpr ⟨lw_p10, List.forall_mem_cons.mpr ⟨lw_p11, List.forall_mem_cons.mpr ⟨lw_p12, List.forall_mem_cons.mpr ⟨lw_p13, List.forall_mem_cons.mpr ⟨lw_p14, List.forall_mem_cons.mpr ⟨lw_p15, fun _ h => absurd h List.not_mem_nil⟩⟩⟩⟩⟩⟩⟩⟩⟩⟩⟩⟩⟩⟩⟩⟩
set_option maxRecDepth 100000 in
theorem lw_p16 : lw_okq (⟨"LongYears$Parser", "readPart", "()Z"⟩, 9) := ⟨lw_cn4, lw_tb1 (List.mem_of_getElem? (i := 39) rfl), lw_tb3 (List.mem_of_getElem? (i := 200) rfl), lw_tb3 (List.mem_of_getElem? (i := 201) rfl)⟩
set_option maxRecDepth 100000 in
theorem lw_p17 : lw_okq (⟨"LongYears$Parser", "heldRank", "()I"⟩, 9) := ⟨lw_cn4, lw_tb1 (List.mem_of_getElem? (i := 39) rfl), lw_tb3 (List.mem_of_getElem? (i := 204) rfl), lw_tb3 (List.mem_of_getElem? (i := 205) rfl)⟩
set_option maxRecDepth 100000 in
theorem lw_p18 : lw_okq (⟨"LongYears$Parser", "hold", "(I)V"⟩, 9) := ⟨lw_cn4, lw_tb1 (List.mem_of_getElem? (i := 39) rfl), lw_tb3 (List.mem_of_getElem? (i := 211) rfl), lw_tb3 (List.mem_of_getElem? (i := 212) rfl)⟩
set_option maxRecDepth 100000 in
theorem lw_p19 : lw_okq (⟨"LongYears$Parser", "countKnot", "()V"⟩, 9) := ⟨lw_cn4, lw_tb1 (List.mem_of_getElem? (i := 39) rfl), lw_tb3 (List.mem_of_getElem? (i := 218) rfl), lw_tb3 (List.mem_of_getElem? (i := 219) rfl)⟩
set_option maxRecDepth 100000 in
theorem lw_p20 : lw_okq (⟨"LongYears$Parser", "close", "()V"⟩, 9) := ⟨lw_cn4, lw_tb1 (List.mem_of_getElem? (i := 39) rfl), lw_tb3 (List.mem_of_getElem? (i := 229) rfl), lw_tb3 (List.mem_of_getElem? (i := 230) rfl)⟩
set_option maxRecDepth 100000 in
theorem lw_p21 : lw_okq (⟨"LongYears$Parser", "release", "(I)V"⟩, 9) := ⟨lw_cn4, lw_tb1 (List.mem_of_getElem? (i := 39) rfl), lw_tb3 (List.mem_of_getElem? (i := 233) rfl), lw_tb3 (List.mem_of_getElem? (i := 234) rfl)⟩
set_option maxRecDepth 100000 in
theorem lw_p22 : lw_okq (⟨"LongYears$Parser", "readSign", "()V"⟩, 9) := ⟨lw_cn4, lw_tb1 (List.mem_of_getElem? (i := 39) rfl), lw_tb3 (List.mem_of_getElem? (i := 237) rfl), lw_tb3 (List.mem_of_getElem? (i := 238) rfl)⟩
set_option maxRecDepth 100000 in
theorem lw_p23 : lw_okq (⟨"LongYears$Parser", "readPerson", "()V"⟩, 9) := ⟨lw_cn4, lw_tb1 (List.mem_of_getElem? (i := 39) rfl), lw_tb4 (List.mem_of_getElem? (i := 5) rfl), lw_tb4 (List.mem_of_getElem? (i := 6) rfl)⟩
set_option maxRecDepth 100000 in
theorem lw_p24 : lw_okq (⟨"LongYears$Parser", "readDate", "(J)J"⟩, 9) := ⟨lw_cn4, lw_tb1 (List.mem_of_getElem? (i := 39) rfl), lw_tb4 (List.mem_of_getElem? (i := 9) rfl), lw_tb4 (List.mem_of_getElem? (i := 10) rfl)⟩
set_option maxRecDepth 100000 in
theorem lw_p25 : lw_okq (⟨"LongYears$Parser", "readDeed", "()V"⟩, 9) := ⟨lw_cn4, lw_tb1 (List.mem_of_getElem? (i := 39) rfl), lw_tb4 (List.mem_of_getElem? (i := 43) rfl), lw_tb4 (List.mem_of_getElem? (i := 44) rfl)⟩
set_option maxRecDepth 100000 in
theorem lw_p26 : lw_okq (⟨"LongYears$Parser", "known", "(I)I"⟩, 9) := ⟨lw_cn4, lw_tb1 (List.mem_of_getElem? (i := 39) rfl), lw_tb4 (List.mem_of_getElem? (i := 47) rfl), lw_tb4 (List.mem_of_getElem? (i := 48) rfl)⟩
set_option maxRecDepth 100000 in
theorem lw_p27 : lw_okq (⟨"LongYears$Parser", "take", "(I)V"⟩, 9) := ⟨lw_cn4, lw_tb1 (List.mem_of_getElem? (i := 39) rfl), lw_tb4 (List.mem_of_getElem? (i := 51) rfl), lw_tb4 (List.mem_of_getElem? (i := 52) rfl)⟩
set_option maxRecDepth 100000 in
theorem lw_p28 : lw_okq (⟨"LongYears$Parser", "readNote", "()V"⟩, 9) := ⟨lw_cn4, lw_tb1 (List.mem_of_getElem? (i := 39) rfl), lw_tb4 (List.mem_of_getElem? (i := 55) rfl), lw_tb4 (List.mem_of_getElem? (i := 56) rfl)⟩
set_option maxRecDepth 100000 in
theorem lw_p29 : lw_okq (⟨"LongYears$Parser", "readSaying", "(II)V"⟩, 9) := ⟨lw_cn4, lw_tb1 (List.mem_of_getElem? (i := 39) rfl), lw_tb4 (List.mem_of_getElem? (i := 70) rfl), lw_tb4 (List.mem_of_getElem? (i := 71) rfl)⟩
set_option maxRecDepth 100000 in
theorem lw_p30 : lw_okq (⟨"LongYears", "firstMet", "(J)J"⟩, 13) := ⟨lw_cn0, lw_tb1 (List.mem_of_getElem? (i := 31) rfl), lw_tb4 (List.mem_of_getElem? (i := 205) rfl), lw_tb4 (List.mem_of_getElem? (i := 206) rfl)⟩
set_option maxRecDepth 100000 in
theorem lw_p31 : lw_okq (⟨"LongYears$Moment", "beginYear", "(J)V"⟩, 5) := ⟨lw_cn2, lw_tb2 (List.mem_of_getElem? (i := 120) rfl), lw_tb4 (List.mem_of_getElem? (i := 221) rfl), lw_tb4 (List.mem_of_getElem? (i := 222) rfl)⟩
def lw_privs_2 : List (MethodName × Nat) := [(⟨"LongYears$Parser", "readPart", "()Z"⟩, 9), (⟨"LongYears$Parser", "heldRank", "()I"⟩, 9), (⟨"LongYears$Parser", "hold", "(I)V"⟩, 9), (⟨"LongYears$Parser", "countKnot", "()V"⟩, 9), (⟨"LongYears$Parser", "close", "()V"⟩, 9), (⟨"LongYears$Parser", "release", "(I)V"⟩, 9), (⟨"LongYears$Parser", "readSign", "()V"⟩, 9), (⟨"LongYears$Parser", "readPerson", "()V"⟩, 9), (⟨"LongYears$Parser", "readDate", "(J)J"⟩, 9), (⟨"LongYears$Parser", "readDeed", "()V"⟩, 9), (⟨"LongYears$Parser", "known", "(I)I"⟩, 9), (⟨"LongYears$Parser", "take", "(I)V"⟩, 9), (⟨"LongYears$Parser", "readNote", "()V"⟩, 9), (⟨"LongYears$Parser", "readSaying", "(II)V"⟩, 9), (⟨"LongYears", "firstMet", "(J)J"⟩, 13), (⟨"LongYears$Moment", "beginYear", "(J)V"⟩, 5)]
theorem lw_r2 : ∀ q ∈ lw_privs_2, lw_okq q := List.forall_mem_cons.mpr ⟨lw_p16, List.forall_mem_cons.mpr ⟨lw_p17, List.forall_mem_cons.mpr ⟨lw_p18, List.forall_mem_cons.mpr ⟨lw_p19, List.forall_mem_cons.mpr ⟨lw_p20, List.forall_mem_cons.mpr ⟨lw_p21, List.forall_mem_cons.mpr ⟨lw_p22, List.forall_mem_cons.mpr ⟨lw_p23, List.forall_mem_cons.mpr ⟨lw_p24, List.forall_mem_cons.mpr ⟨lw_p25, List.forall_mem_cons.mpr ⟨lw_p26, List.forall_mem_cons.mpr ⟨lw_p27, List.forall_mem_cons.mpr ⟨lw_p28, List.forall_mem_cons.mpr ⟨lw_p29, List.forall_mem_cons.mpr ⟨lw_p30, List.forall_mem_cons.mpr ⟨lw_p31, fun _ h => absurd h List.not_mem_nil⟩⟩⟩⟩⟩⟩⟩⟩⟩⟩⟩⟩⟩⟩⟩⟩
set_option maxRecDepth 100000 in
theorem lw_p32 : lw_okq (⟨"LongYears", "springsIn", "(LLongYears$Land;J)J"⟩, 13) := ⟨lw_cn0, lw_tb1 (List.mem_of_getElem? (i := 31) rfl), lw_tb5 (List.mem_of_getElem? (i := 29) rfl), lw_tb5 (List.mem_of_getElem? (i := 30) rfl)⟩
set_option maxRecDepth 100000 in
theorem lw_p33 : lw_okq (⟨"LongYears", "dueOf", "(ILLongYears$Land;)J"⟩, 13) := ⟨lw_cn0, lw_tb1 (List.mem_of_getElem? (i := 31) rfl), lw_tb5 (List.mem_of_getElem? (i := 55) rfl), lw_tb5 (List.mem_of_getElem? (i := 56) rfl)⟩
set_option maxRecDepth 100000 in
theorem lw_p34 : lw_okq (⟨"LongYears", "canBeSaid", "(IIII)Z"⟩, 13) := ⟨lw_cn0, lw_tb1 (List.mem_of_getElem? (i := 31) rfl), lw_tb5 (List.mem_of_getElem? (i := 94) rfl), lw_tb5 (List.mem_of_getElem? (i := 95) rfl)⟩
set_option maxRecDepth 100000 in
theorem lw_p35 : lw_okq (⟨"LongYears$NoteDays", "fill", "(ILLongYears$Book;)V"⟩, 6) := ⟨lw_cn3, lw_tb2 (List.mem_of_getElem? (i := 112) rfl), lw_tb5 (List.mem_of_getElem? (i := 120) rfl), lw_tb5 (List.mem_of_getElem? (i := 121) rfl)⟩
set_option maxRecDepth 100000 in
theorem lw_p36 : lw_okq (⟨"LongYears$NoteDays", "readWish", "(LLongYears$Notes;I)V"⟩, 6) := ⟨lw_cn3, lw_tb2 (List.mem_of_getElem? (i := 112) rfl), lw_tb5 (List.mem_of_getElem? (i := 156) rfl), lw_tb5 (List.mem_of_getElem? (i := 157) rfl)⟩
set_option maxRecDepth 100000 in
theorem lw_p37 : lw_okq (⟨"LongYears$NoteDays", "layOut", "(LLongYears$Notes;I)I"⟩, 6) := ⟨lw_cn3, lw_tb2 (List.mem_of_getElem? (i := 112) rfl), lw_tb5 (List.mem_of_getElem? (i := 182) rfl), lw_tb5 (List.mem_of_getElem? (i := 183) rfl)⟩
set_option maxRecDepth 100000 in
theorem lw_p38 : lw_okq (⟨"LongYears$NoteDays", "tell", "(III)I"⟩, 6) := ⟨lw_cn3, lw_tb2 (List.mem_of_getElem? (i := 112) rfl), lw_tb5 (List.mem_of_getElem? (i := 187) rfl), lw_tb5 (List.mem_of_getElem? (i := 188) rfl)⟩
set_option maxRecDepth 100000 in
theorem lw_p39 : lw_okq (⟨"LongYears$NoteDays", "topsIn", "(II)J"⟩, 6) := ⟨lw_cn3, lw_tb2 (List.mem_of_getElem? (i := 112) rfl), lw_tb5 (List.mem_of_getElem? (i := 191) rfl), lw_tb5 (List.mem_of_getElem? (i := 192) rfl)⟩
set_option maxRecDepth 100000 in
theorem lw_p40 : lw_okq (⟨"LongYears$NoteDays", "allHold", "(I)Z"⟩, 6) := ⟨lw_cn3, lw_tb2 (List.mem_of_getElem? (i := 112) rfl), lw_tb5 (List.mem_of_getElem? (i := 225) rfl), lw_tb5 (List.mem_of_getElem? (i := 226) rfl)⟩
set_option maxRecDepth 100000 in
theorem lw_p41 : lw_okq (⟨"LongYears$NoteDays", "treeOf", "(II)I"⟩, 6) := ⟨lw_cn3, lw_tb2 (List.mem_of_getElem? (i := 112) rfl), lw_tb5 (List.mem_of_getElem? (i := 229) rfl), lw_tb5 (List.mem_of_getElem? (i := 230) rfl)⟩
set_option maxRecDepth 100000 in
theorem lw_p42 : lw_okq (⟨"LongYears$NoteDays", "canHold", "(I)Z"⟩, 6) := ⟨lw_cn3, lw_tb2 (List.mem_of_getElem? (i := 112) rfl), lw_tb5 (List.mem_of_getElem? (i := 233) rfl), lw_tb5 (List.mem_of_getElem? (i := 234) rfl)⟩
set_option maxRecDepth 100000 in
theorem lw_p43 : lw_okq (⟨"LongYears", "canBeTold", "(I)Z"⟩, 13) := ⟨lw_cn0, lw_tb1 (List.mem_of_getElem? (i := 31) rfl), lw_tb6 (List.mem_of_getElem? (i := 23) rfl), lw_tb6 (List.mem_of_getElem? (i := 24) rfl)⟩
set_option maxRecDepth 100000 in
theorem lw_p44 : lw_okq (⟨"LongYearsModel", "plain", "()V"⟩, 76) := ⟨lw_cn5, lw_tb6 (List.mem_of_getElem? (i := 107) rfl), lw_tb6 (List.mem_of_getElem? (i := 114) rfl), lw_tb6 (List.mem_of_getElem? (i := 115) rfl)⟩
set_option maxRecDepth 100000 in
theorem lw_p45 : lw_okq (⟨"LongYearsModel", "keepText", "()V"⟩, 76) := ⟨lw_cn5, lw_tb6 (List.mem_of_getElem? (i := 107) rfl), lw_tb6 (List.mem_of_getElem? (i := 118) rfl), lw_tb6 (List.mem_of_getElem? (i := 119) rfl)⟩
set_option maxRecDepth 100000 in
theorem lw_p46 : lw_okq (⟨"LongYearsModel", "token", "()V"⟩, 76) := ⟨lw_cn5, lw_tb6 (List.mem_of_getElem? (i := 107) rfl), lw_tb7 (List.mem_of_getElem? (i := 126) rfl), lw_tb7 (List.mem_of_getElem? (i := 127) rfl)⟩
set_option maxRecDepth 100000 in
theorem lw_p47 : lw_okq (⟨"LongYearsModel", "isSmall", "(I)Z"⟩, 76) := ⟨lw_cn5, lw_tb6 (List.mem_of_getElem? (i := 107) rfl), lw_tb7 (List.mem_of_getElem? (i := 130) rfl), lw_tb7 (List.mem_of_getElem? (i := 131) rfl)⟩
def lw_privs_3 : List (MethodName × Nat) := [(⟨"LongYears", "springsIn", "(LLongYears$Land;J)J"⟩, 13), (⟨"LongYears", "dueOf", "(ILLongYears$Land;)J"⟩, 13), (⟨"LongYears", "canBeSaid", "(IIII)Z"⟩, 13), (⟨"LongYears$NoteDays", "fill", "(ILLongYears$Book;)V"⟩, 6), (⟨"LongYears$NoteDays", "readWish", "(LLongYears$Notes;I)V"⟩, 6), (⟨"LongYears$NoteDays", "layOut", "(LLongYears$Notes;I)I"⟩, 6), (⟨"LongYears$NoteDays", "tell", "(III)I"⟩, 6), (⟨"LongYears$NoteDays", "topsIn", "(II)J"⟩, 6), (⟨"LongYears$NoteDays", "allHold", "(I)Z"⟩, 6), (⟨"LongYears$NoteDays", "treeOf", "(II)I"⟩, 6), (⟨"LongYears$NoteDays", "canHold", "(I)Z"⟩, 6), (⟨"LongYears", "canBeTold", "(I)Z"⟩, 13), (⟨"LongYearsModel", "plain", "()V"⟩, 76), (⟨"LongYearsModel", "keepText", "()V"⟩, 76), (⟨"LongYearsModel", "token", "()V"⟩, 76), (⟨"LongYearsModel", "isSmall", "(I)Z"⟩, 76)]
theorem lw_r3 : ∀ q ∈ lw_privs_3, lw_okq q := List.forall_mem_cons.mpr ⟨lw_p32, List.forall_mem_cons.mpr ⟨lw_p33, List.forall_mem_cons.mpr ⟨lw_p34, List.forall_mem_cons.mpr ⟨lw_p35, List.forall_mem_cons.mpr ⟨lw_p36, List.forall_mem_cons.mpr ⟨lw_p37, List.forall_mem_cons.mpr ⟨lw_p38, List.forall_mem_cons.mpr ⟨lw_p39, List.forall_mem_cons.mpr ⟨lw_p40, List.forall_mem_cons.mpr ⟨lw_p41, List.forall_mem_cons.mpr ⟨lw_p42, List.forall_mem_cons.mpr ⟨lw_p43, List.forall_mem_cons.mpr ⟨lw_p44, List.forall_mem_cons.mpr ⟨lw_p45, List.forall_mem_cons.mpr ⟨lw_p46, List.forall_mem_cons.mpr ⟨lw_p47, fun _ h => absurd h List.not_mem_nil⟩⟩⟩⟩⟩⟩⟩⟩⟩⟩⟩⟩⟩⟩⟩⟩
set_option maxRecDepth 100000 in
theorem lw_p48 : lw_okq (⟨"LongYearsModel", "wordAt", "(II)I"⟩, 76) := ⟨lw_cn5, lw_tb6 (List.mem_of_getElem? (i := 107) rfl), lw_tb7 (List.mem_of_getElem? (i := 134) rfl), lw_tb7 (List.mem_of_getElem? (i := 135) rfl)⟩
set_option maxRecDepth 100000 in
theorem lw_p49 : lw_okq (⟨"LongYearsModel", "packed", "(II)I"⟩, 76) := ⟨lw_cn5, lw_tb6 (List.mem_of_getElem? (i := 107) rfl), lw_tb7 (List.mem_of_getElem? (i := 138) rfl), lw_tb7 (List.mem_of_getElem? (i := 139) rfl)⟩
set_option maxRecDepth 100000 in
theorem lw_p50 : lw_okq (⟨"LongYearsModel", "isDigit", "(I)Z"⟩, 76) := ⟨lw_cn5, lw_tb6 (List.mem_of_getElem? (i := 107) rfl), lw_tb7 (List.mem_of_getElem? (i := 142) rfl), lw_tb7 (List.mem_of_getElem? (i := 143) rfl)⟩
set_option maxRecDepth 100000 in
theorem lw_p51 : lw_okq (⟨"LongYearsModel", "signToken", "()V"⟩, 76) := ⟨lw_cn5, lw_tb6 (List.mem_of_getElem? (i := 107) rfl), lw_tb7 (List.mem_of_getElem? (i := 147) rfl), lw_tb7 (List.mem_of_getElem? (i := 148) rfl)⟩
set_option maxRecDepth 100000 in
theorem lw_p52 : lw_okq (⟨"LongYearsModel", "lineRead", "()Z"⟩, 76) := ⟨lw_cn5, lw_tb6 (List.mem_of_getElem? (i := 107) rfl), lw_tb7 (List.mem_of_getElem? (i := 151) rfl), lw_tb7 (List.mem_of_getElem? (i := 152) rfl)⟩
set_option maxRecDepth 100000 in
theorem lw_p53 : lw_okq (⟨"LongYearsModel", "wrong", "(I)Z"⟩, 76) := ⟨lw_cn5, lw_tb6 (List.mem_of_getElem? (i := 107) rfl), lw_tb7 (List.mem_of_getElem? (i := 155) rfl), lw_tb7 (List.mem_of_getElem? (i := 156) rfl)⟩
set_option maxRecDepth 100000 in
theorem lw_p54 : lw_okq (⟨"LongYearsModel", "landLine", "()Z"⟩, 76) := ⟨lw_cn5, lw_tb6 (List.mem_of_getElem? (i := 107) rfl), lw_tb7 (List.mem_of_getElem? (i := 159) rfl), lw_tb7 (List.mem_of_getElem? (i := 160) rfl)⟩
set_option maxRecDepth 100000 in
theorem lw_p55 : lw_okq (⟨"LongYearsModel", "newName", "([III)Z"⟩, 76) := ⟨lw_cn5, lw_tb6 (List.mem_of_getElem? (i := 107) rfl), lw_tb7 (List.mem_of_getElem? (i := 163) rfl), lw_tb7 (List.mem_of_getElem? (i := 164) rfl)⟩
set_option maxRecDepth 100000 in
theorem lw_p56 : lw_okq (⟨"LongYearsModel", "number", "(II)Z"⟩, 76) := ⟨lw_cn5, lw_tb6 (List.mem_of_getElem? (i := 107) rfl), lw_tb7 (List.mem_of_getElem? (i := 170) rfl), lw_tb7 (List.mem_of_getElem? (i := 171) rfl)⟩
set_option maxRecDepth 100000 in
theorem lw_p57 : lw_okq (⟨"LongYearsModel", "signed", "(I)Z"⟩, 76) := ⟨lw_cn5, lw_tb6 (List.mem_of_getElem? (i := 107) rfl), lw_tb7 (List.mem_of_getElem? (i := 177) rfl), lw_tb7 (List.mem_of_getElem? (i := 178) rfl)⟩
set_option maxRecDepth 100000 in
theorem lw_p58 : lw_okq (⟨"LongYearsModel", "isSign", "(I)Z"⟩, 76) := ⟨lw_cn5, lw_tb6 (List.mem_of_getElem? (i := 107) rfl), lw_tb7 (List.mem_of_getElem? (i := 181) rfl), lw_tb7 (List.mem_of_getElem? (i := 182) rfl)⟩
set_option maxRecDepth 100000 in
theorem lw_p59 : lw_okq (⟨"LongYearsModel", "isKey", "(I)Z"⟩, 76) := ⟨lw_cn5, lw_tb6 (List.mem_of_getElem? (i := 107) rfl), lw_tb7 (List.mem_of_getElem? (i := 185) rfl), lw_tb7 (List.mem_of_getElem? (i := 186) rfl)⟩
set_option maxRecDepth 100000 in
theorem lw_p60 : lw_okq (⟨"LongYearsModel", "feastLine", "()Z"⟩, 76) := ⟨lw_cn5, lw_tb6 (List.mem_of_getElem? (i := 107) rfl), lw_tb7 (List.mem_of_getElem? (i := 189) rfl), lw_tb7 (List.mem_of_getElem? (i := 190) rfl)⟩
set_option maxRecDepth 100000 in
theorem lw_p61 : lw_okq (⟨"LongYearsModel", "sumRead", "()Z"⟩, 76) := ⟨lw_cn5, lw_tb6 (List.mem_of_getElem? (i := 107) rfl), lw_tb7 (List.mem_of_getElem? (i := 193) rfl), lw_tb7 (List.mem_of_getElem? (i := 194) rfl)⟩
set_option maxRecDepth 100000 in
theorem lw_p62 : lw_okq (⟨"LongYearsModel", "leafRead", "()Z"⟩, 76) := ⟨lw_cn5, lw_tb6 (List.mem_of_getElem? (i := 107) rfl), lw_tb7 (List.mem_of_getElem? (i := 197) rfl), lw_tb7 (List.mem_of_getElem? (i := 198) rfl)⟩
set_option maxRecDepth 100000 in
theorem lw_p63 : lw_okq (⟨"LongYearsModel", "waitsFor", "(I)V"⟩, 76) := ⟨lw_cn5, lw_tb6 (List.mem_of_getElem? (i := 107) rfl), lw_tb7 (List.mem_of_getElem? (i := 201) rfl), lw_tb7 (List.mem_of_getElem? (i := 202) rfl)⟩
def lw_privs_4 : List (MethodName × Nat) := [(⟨"LongYearsModel", "wordAt", "(II)I"⟩, 76), (⟨"LongYearsModel", "packed", "(II)I"⟩, 76), (⟨"LongYearsModel", "isDigit", "(I)Z"⟩, 76), (⟨"LongYearsModel", "signToken", "()V"⟩, 76), (⟨"LongYearsModel", "lineRead", "()Z"⟩, 76), (⟨"LongYearsModel", "wrong", "(I)Z"⟩, 76), (⟨"LongYearsModel", "landLine", "()Z"⟩, 76), (⟨"LongYearsModel", "newName", "([III)Z"⟩, 76), (⟨"LongYearsModel", "number", "(II)Z"⟩, 76), (⟨"LongYearsModel", "signed", "(I)Z"⟩, 76), (⟨"LongYearsModel", "isSign", "(I)Z"⟩, 76), (⟨"LongYearsModel", "isKey", "(I)Z"⟩, 76), (⟨"LongYearsModel", "feastLine", "()Z"⟩, 76), (⟨"LongYearsModel", "sumRead", "()Z"⟩, 76), (⟨"LongYearsModel", "leafRead", "()Z"⟩, 76), (⟨"LongYearsModel", "waitsFor", "(I)V"⟩, 76)]
theorem lw_r4 : ∀ q ∈ lw_privs_4, lw_okq q := List.forall_mem_cons.mpr ⟨lw_p48, List.forall_mem_cons.mpr ⟨lw_p49, List.forall_mem_cons.mpr ⟨lw_p50, List.forall_mem_cons.mpr ⟨lw_p51, List.forall_mem_cons.mpr ⟨lw_p52, List.forall_mem_cons.mpr ⟨lw_p53, List.forall_mem_cons.mpr ⟨lw_p54, List.forall_mem_cons.mpr ⟨lw_p55, List.forall_mem_cons.mpr ⟨lw_p56, List.forall_mem_cons.mpr ⟨lw_p57, List.forall_mem_cons.mpr ⟨lw_p58, List.forall_mem_cons.mpr ⟨lw_p59, List.forall_mem_cons.mpr ⟨lw_p60, List.forall_mem_cons.mpr ⟨lw_p61, List.forall_mem_cons.mpr ⟨lw_p62, List.forall_mem_cons.mpr ⟨lw_p63, fun _ h => absurd h List.not_mem_nil⟩⟩⟩⟩⟩⟩⟩⟩⟩⟩⟩⟩⟩⟩⟩⟩
set_option maxRecDepth 100000 in
theorem lw_p64 : lw_okq (⟨"LongYearsModel", "isCounted", "()Z"⟩, 76) := ⟨lw_cn5, lw_tb6 (List.mem_of_getElem? (i := 107) rfl), lw_tb7 (List.mem_of_getElem? (i := 205) rfl), lw_tb7 (List.mem_of_getElem? (i := 206) rfl)⟩
set_option maxRecDepth 100000 in
theorem lw_p65 : lw_okq (⟨"LongYearsModel", "nameMet", "()I"⟩, 76) := ⟨lw_cn5, lw_tb6 (List.mem_of_getElem? (i := 107) rfl), lw_tb7 (List.mem_of_getElem? (i := 209) rfl), lw_tb7 (List.mem_of_getElem? (i := 210) rfl)⟩
set_option maxRecDepth 100000 in
theorem lw_p66 : lw_okq (⟨"LongYearsModel", "grown", "(III)V"⟩, 76) := ⟨lw_cn5, lw_tb6 (List.mem_of_getElem? (i := 107) rfl), lw_tb7 (List.mem_of_getElem? (i := 213) rfl), lw_tb7 (List.mem_of_getElem? (i := 214) rfl)⟩
set_option maxRecDepth 100000 in
theorem lw_p67 : lw_okq (⟨"LongYearsModel", "signs", "()Z"⟩, 76) := ⟨lw_cn5, lw_tb6 (List.mem_of_getElem? (i := 107) rfl), lw_tb7 (List.mem_of_getElem? (i := 217) rfl), lw_tb7 (List.mem_of_getElem? (i := 218) rfl)⟩
set_option maxRecDepth 100000 in
theorem lw_p68 : lw_okq (⟨"LongYearsModel", "bind", "(I)V"⟩, 76) := ⟨lw_cn5, lw_tb6 (List.mem_of_getElem? (i := 107) rfl), lw_tb7 (List.mem_of_getElem? (i := 221) rfl), lw_tb7 (List.mem_of_getElem? (i := 222) rfl)⟩
set_option maxRecDepth 100000 in
theorem lw_p69 : lw_okq (⟨"LongYearsModel", "dropHeld", "()I"⟩, 76) := ⟨lw_cn5, lw_tb6 (List.mem_of_getElem? (i := 107) rfl), lw_tb7 (List.mem_of_getElem? (i := 228) rfl), lw_tb7 (List.mem_of_getElem? (i := 229) rfl)⟩
set_option maxRecDepth 100000 in
theorem lw_p70 : lw_okq (⟨"LongYearsModel", "personLine", "()Z"⟩, 76) := ⟨lw_cn5, lw_tb6 (List.mem_of_getElem? (i := 107) rfl), lw_tb7 (List.mem_of_getElem? (i := 232) rfl), lw_tb7 (List.mem_of_getElem? (i := 233) rfl)⟩
set_option maxRecDepth 100000 in
theorem lw_p71 : lw_okq (⟨"LongYearsModel", "dateRead", "(J)Z"⟩, 76) := ⟨lw_cn5, lw_tb6 (List.mem_of_getElem? (i := 107) rfl), lw_tb7 (List.mem_of_getElem? (i := 236) rfl), lw_tb7 (List.mem_of_getElem? (i := 237) rfl)⟩
set_option maxRecDepth 100000 in
theorem lw_p72 : lw_okq (⟨"LongYearsModel", "countOf", "(IJJ)J"⟩, 76) := ⟨lw_cn5, lw_tb6 (List.mem_of_getElem? (i := 107) rfl), lw_tb8 (List.mem_of_getElem? (i := 1) rfl), lw_tb8 (List.mem_of_getElem? (i := 2) rfl)⟩
set_option maxRecDepth 100000 in
theorem lw_p73 : lw_okq (⟨"LongYearsModel", "isYear", "(IJ)Z"⟩, 76) := ⟨lw_cn5, lw_tb6 (List.mem_of_getElem? (i := 107) rfl), lw_tb8 (List.mem_of_getElem? (i := 5) rfl), lw_tb8 (List.mem_of_getElem? (i := 6) rfl)⟩
set_option maxRecDepth 100000 in
theorem lw_p74 : lw_okq (⟨"LongYearsModel", "lengthOf", "(IJ)J"⟩, 76) := ⟨lw_cn5, lw_tb6 (List.mem_of_getElem? (i := 107) rfl), lw_tb8 (List.mem_of_getElem? (i := 9) rfl), lw_tb8 (List.mem_of_getElem? (i := 10) rfl)⟩
set_option maxRecDepth 100000 in
theorem lw_p75 : lw_okq (⟨"LongYearsModel", "beginOf", "(IJ)J"⟩, 76) := ⟨lw_cn5, lw_tb6 (List.mem_of_getElem? (i := 107) rfl), lw_tb8 (List.mem_of_getElem? (i := 13) rfl), lw_tb8 (List.mem_of_getElem? (i := 14) rfl)⟩
set_option maxRecDepth 100000 in
theorem lw_p76 : lw_okq (⟨"LongYearsModel", "deedLine", "()Z"⟩, 76) := ⟨lw_cn5, lw_tb6 (List.mem_of_getElem? (i := 107) rfl), lw_tb8 (List.mem_of_getElem? (i := 21) rfl), lw_tb8 (List.mem_of_getElem? (i := 22) rfl)⟩
set_option maxRecDepth 100000 in
theorem lw_p77 : lw_okq (⟨"LongYearsModel", "oldName", "([III)Z"⟩, 76) := ⟨lw_cn5, lw_tb6 (List.mem_of_getElem? (i := 107) rfl), lw_tb8 (List.mem_of_getElem? (i := 25) rfl), lw_tb8 (List.mem_of_getElem? (i := 26) rfl)⟩
set_option maxRecDepth 100000 in
theorem lw_p78 : lw_okq (⟨"LongYearsModel", "keyRead", "(I)Z"⟩, 76) := ⟨lw_cn5, lw_tb6 (List.mem_of_getElem? (i := 107) rfl), lw_tb8 (List.mem_of_getElem? (i := 29) rfl), lw_tb8 (List.mem_of_getElem? (i := 30) rfl)⟩
set_option maxRecDepth 100000 in
theorem lw_p79 : lw_okq (⟨"LongYearsModel", "noteLine", "()Z"⟩, 76) := ⟨lw_cn5, lw_tb6 (List.mem_of_getElem? (i := 107) rfl), lw_tb8 (List.mem_of_getElem? (i := 33) rfl), lw_tb8 (List.mem_of_getElem? (i := 34) rfl)⟩
def lw_privs_5 : List (MethodName × Nat) := [(⟨"LongYearsModel", "isCounted", "()Z"⟩, 76), (⟨"LongYearsModel", "nameMet", "()I"⟩, 76), (⟨"LongYearsModel", "grown", "(III)V"⟩, 76), (⟨"LongYearsModel", "signs", "()Z"⟩, 76), (⟨"LongYearsModel", "bind", "(I)V"⟩, 76), (⟨"LongYearsModel", "dropHeld", "()I"⟩, 76), (⟨"LongYearsModel", "personLine", "()Z"⟩, 76), (⟨"LongYearsModel", "dateRead", "(J)Z"⟩, 76), (⟨"LongYearsModel", "countOf", "(IJJ)J"⟩, 76), (⟨"LongYearsModel", "isYear", "(IJ)Z"⟩, 76), (⟨"LongYearsModel", "lengthOf", "(IJ)J"⟩, 76), (⟨"LongYearsModel", "beginOf", "(IJ)J"⟩, 76), (⟨"LongYearsModel", "deedLine", "()Z"⟩, 76), (⟨"LongYearsModel", "oldName", "([III)Z"⟩, 76), (⟨"LongYearsModel", "keyRead", "(I)Z"⟩, 76), (⟨"LongYearsModel", "noteLine", "()Z"⟩, 76)]
theorem lw_r5 : ∀ q ∈ lw_privs_5, lw_okq q := List.forall_mem_cons.mpr ⟨lw_p64, List.forall_mem_cons.mpr ⟨lw_p65, List.forall_mem_cons.mpr ⟨lw_p66, List.forall_mem_cons.mpr ⟨lw_p67, List.forall_mem_cons.mpr ⟨lw_p68, List.forall_mem_cons.mpr ⟨lw_p69, List.forall_mem_cons.mpr ⟨lw_p70, List.forall_mem_cons.mpr ⟨lw_p71, List.forall_mem_cons.mpr ⟨lw_p72, List.forall_mem_cons.mpr ⟨lw_p73, List.forall_mem_cons.mpr ⟨lw_p74, List.forall_mem_cons.mpr ⟨lw_p75, List.forall_mem_cons.mpr ⟨lw_p76, List.forall_mem_cons.mpr ⟨lw_p77, List.forall_mem_cons.mpr ⟨lw_p78, List.forall_mem_cons.mpr ⟨lw_p79, fun _ h => absurd h List.not_mem_nil⟩⟩⟩⟩⟩⟩⟩⟩⟩⟩⟩⟩⟩⟩⟩⟩
set_option maxRecDepth 100000 in
theorem lw_p80 : lw_okq (⟨"LongYearsModel", "noteWord", "()I"⟩, 76) := ⟨lw_cn5, lw_tb6 (List.mem_of_getElem? (i := 107) rfl), lw_tb8 (List.mem_of_getElem? (i := 37) rfl), lw_tb8 (List.mem_of_getElem? (i := 38) rfl)⟩
set_option maxRecDepth 100000 in
theorem lw_p81 : lw_okq (⟨"LongYearsModel", "saysRead", "(II)Z"⟩, 76) := ⟨lw_cn5, lw_tb6 (List.mem_of_getElem? (i := 107) rfl), lw_tb8 (List.mem_of_getElem? (i := 44) rfl), lw_tb8 (List.mem_of_getElem? (i := 45) rfl)⟩
set_option maxRecDepth 100000 in
theorem lw_p82 : lw_okq (⟨"LongYearsModel", "sunLine", "()Z"⟩, 76) := ⟨lw_cn5, lw_tb6 (List.mem_of_getElem? (i := 107) rfl), lw_tb8 (List.mem_of_getElem? (i := 48) rfl), lw_tb8 (List.mem_of_getElem? (i := 49) rfl)⟩
set_option maxRecDepth 100000 in
theorem lw_p83 : lw_okq (⟨"LongYearsModel", "roundRead", "(I)Z"⟩, 76) := ⟨lw_cn5, lw_tb6 (List.mem_of_getElem? (i := 107) rfl), lw_tb8 (List.mem_of_getElem? (i := 52) rfl), lw_tb8 (List.mem_of_getElem? (i := 53) rfl)⟩
set_option maxRecDepth 100000 in
theorem lw_p84 : lw_okq (⟨"LongYearsModel", "weekLine", "()Z"⟩, 76) := ⟨lw_cn5, lw_tb6 (List.mem_of_getElem? (i := 107) rfl), lw_tb8 (List.mem_of_getElem? (i := 56) rfl), lw_tb8 (List.mem_of_getElem? (i := 57) rfl)⟩
set_option maxRecDepth 100000 in
theorem lw_p85 : lw_okq (⟨"LongYearsModel", "moonLine", "()Z"⟩, 76) := ⟨lw_cn5, lw_tb6 (List.mem_of_getElem? (i := 107) rfl), lw_tb8 (List.mem_of_getElem? (i := 60) rfl), lw_tb8 (List.mem_of_getElem? (i := 61) rfl)⟩
set_option maxRecDepth 100000 in
theorem lw_p86 : lw_okq (⟨"LongYearsModel", "isLand", "(I)Z"⟩, 76) := ⟨lw_cn5, lw_tb6 (List.mem_of_getElem? (i := 107) rfl), lw_tb8 (List.mem_of_getElem? (i := 76) rfl), lw_tb8 (List.mem_of_getElem? (i := 77) rfl)⟩
set_option maxRecDepth 100000 in
theorem lw_p87 : lw_okq (⟨"LongYearsModel", "fails", "(I)I"⟩, 76) := ⟨lw_cn5, lw_tb6 (List.mem_of_getElem? (i := 107) rfl), lw_tb8 (List.mem_of_getElem? (i := 80) rfl), lw_tb8 (List.mem_of_getElem? (i := 81) rfl)⟩
set_option maxRecDepth 100000 in
theorem lw_p88 : lw_okq (⟨"LongYearsModel", "isAsked", "(IJ)Z"⟩, 76) := ⟨lw_cn5, lw_tb6 (List.mem_of_getElem? (i := 107) rfl), lw_tb8 (List.mem_of_getElem? (i := 88) rfl), lw_tb8 (List.mem_of_getElem? (i := 89) rfl)⟩
set_option maxRecDepth 100000 in
theorem lw_p89 : lw_okq (⟨"LongYearsModel", "date1", "(IJ)Z"⟩, 76) := ⟨lw_cn5, lw_tb6 (List.mem_of_getElem? (i := 107) rfl), lw_tb8 (List.mem_of_getElem? (i := 100) rfl), lw_tb8 (List.mem_of_getElem? (i := 101) rfl)⟩
set_option maxRecDepth 100000 in
theorem lw_p90 : lw_okq (⟨"LongYearsModel", "endYear", "(I)J"⟩, 76) := ⟨lw_cn5, lw_tb6 (List.mem_of_getElem? (i := 107) rfl), lw_tb8 (List.mem_of_getElem? (i := 104) rfl), lw_tb8 (List.mem_of_getElem? (i := 105) rfl)⟩
set_option maxRecDepth 100000 in
theorem lw_p91 : lw_okq (⟨"LongYearsModel", "roundOf", "(JI)I"⟩, 76) := ⟨lw_cn5, lw_tb6 (List.mem_of_getElem? (i := 107) rfl), lw_tb8 (List.mem_of_getElem? (i := 117) rfl), lw_tb8 (List.mem_of_getElem? (i := 118) rfl)⟩
set_option maxRecDepth 100000 in
theorem lw_p92 : lw_okq (⟨"LongYearsModel", "isFeast", "(I)Z"⟩, 76) := ⟨lw_cn5, lw_tb6 (List.mem_of_getElem? (i := 107) rfl), lw_tb8 (List.mem_of_getElem? (i := 127) rfl), lw_tb8 (List.mem_of_getElem? (i := 128) rfl)⟩
set_option maxRecDepth 100000 in
theorem lw_p93 : lw_okq (⟨"LongYearsModel", "sumOf", "(IJ)J"⟩, 76) := ⟨lw_cn5, lw_tb6 (List.mem_of_getElem? (i := 107) rfl), lw_tb8 (List.mem_of_getElem? (i := 131) rfl), lw_tb8 (List.mem_of_getElem? (i := 132) rfl)⟩
set_option maxRecDepth 100000 in
theorem lw_p94 : lw_okq (⟨"LongYearsModel", "valueOf", "(I)J"⟩, 76) := ⟨lw_cn5, lw_tb6 (List.mem_of_getElem? (i := 107) rfl), lw_tb8 (List.mem_of_getElem? (i := 135) rfl), lw_tb8 (List.mem_of_getElem? (i := 136) rfl)⟩
set_option maxRecDepth 100000 in
theorem lw_p95 : lw_okq (⟨"LongYearsModel", "bounded", "(J)J"⟩, 76) := ⟨lw_cn5, lw_tb6 (List.mem_of_getElem? (i := 107) rfl), lw_tb8 (List.mem_of_getElem? (i := 139) rfl), lw_tb8 (List.mem_of_getElem? (i := 140) rfl)⟩
def lw_privs_6 : List (MethodName × Nat) := [(⟨"LongYearsModel", "noteWord", "()I"⟩, 76), (⟨"LongYearsModel", "saysRead", "(II)Z"⟩, 76), (⟨"LongYearsModel", "sunLine", "()Z"⟩, 76), (⟨"LongYearsModel", "roundRead", "(I)Z"⟩, 76), (⟨"LongYearsModel", "weekLine", "()Z"⟩, 76), (⟨"LongYearsModel", "moonLine", "()Z"⟩, 76), (⟨"LongYearsModel", "isLand", "(I)Z"⟩, 76), (⟨"LongYearsModel", "fails", "(I)I"⟩, 76), (⟨"LongYearsModel", "isAsked", "(IJ)Z"⟩, 76), (⟨"LongYearsModel", "date1", "(IJ)Z"⟩, 76), (⟨"LongYearsModel", "endYear", "(I)J"⟩, 76), (⟨"LongYearsModel", "roundOf", "(JI)I"⟩, 76), (⟨"LongYearsModel", "isFeast", "(I)Z"⟩, 76), (⟨"LongYearsModel", "sumOf", "(IJ)J"⟩, 76), (⟨"LongYearsModel", "valueOf", "(I)J"⟩, 76), (⟨"LongYearsModel", "bounded", "(J)J"⟩, 76)]
theorem lw_r6 : ∀ q ∈ lw_privs_6, lw_okq q := List.forall_mem_cons.mpr ⟨lw_p80, List.forall_mem_cons.mpr ⟨lw_p81, List.forall_mem_cons.mpr ⟨lw_p82, List.forall_mem_cons.mpr ⟨lw_p83, List.forall_mem_cons.mpr ⟨lw_p84, List.forall_mem_cons.mpr ⟨lw_p85, List.forall_mem_cons.mpr ⟨lw_p86, List.forall_mem_cons.mpr ⟨lw_p87, List.forall_mem_cons.mpr ⟨lw_p88, List.forall_mem_cons.mpr ⟨lw_p89, List.forall_mem_cons.mpr ⟨lw_p90, List.forall_mem_cons.mpr ⟨lw_p91, List.forall_mem_cons.mpr ⟨lw_p92, List.forall_mem_cons.mpr ⟨lw_p93, List.forall_mem_cons.mpr ⟨lw_p94, List.forall_mem_cons.mpr ⟨lw_p95, fun _ h => absurd h List.not_mem_nil⟩⟩⟩⟩⟩⟩⟩⟩⟩⟩⟩⟩⟩⟩⟩⟩
set_option maxRecDepth 100000 in
theorem lw_p96 : lw_okq (⟨"LongYearsModel", "times", "(JJ)J"⟩, 76) := ⟨lw_cn5, lw_tb6 (List.mem_of_getElem? (i := 107) rfl), lw_tb8 (List.mem_of_getElem? (i := 144) rfl), lw_tb8 (List.mem_of_getElem? (i := 145) rfl)⟩
set_option maxRecDepth 100000 in
theorem lw_p97 : lw_okq (⟨"LongYearsModel", "festiveOf", "(IJ)J"⟩, 76) := ⟨lw_cn5, lw_tb6 (List.mem_of_getElem? (i := 107) rfl), lw_tb8 (List.mem_of_getElem? (i := 155) rfl), lw_tb8 (List.mem_of_getElem? (i := 156) rfl)⟩
set_option maxRecDepth 100000 in
theorem lw_p98 : lw_okq (⟨"LongYearsModel", "isPerson", "(I)Z"⟩, 76) := ⟨lw_cn5, lw_tb6 (List.mem_of_getElem? (i := 107) rfl), lw_tb8 (List.mem_of_getElem? (i := 170) rfl), lw_tb8 (List.mem_of_getElem? (i := 171) rfl)⟩
set_option maxRecDepth 100000 in
theorem lw_p99 : lw_okq (⟨"LongYearsModel", "begins", "(IJ)Z"⟩, 76) := ⟨lw_cn5, lw_tb6 (List.mem_of_getElem? (i := 107) rfl), lw_tb8 (List.mem_of_getElem? (i := 190) rfl), lw_tb8 (List.mem_of_getElem? (i := 191) rfl)⟩
set_option maxRecDepth 100000 in
theorem lw_p100 : lw_okq (⟨"LongYearsModel", "springsOf", "(IJ)J"⟩, 76) := ⟨lw_cn5, lw_tb6 (List.mem_of_getElem? (i := 107) rfl), lw_tb8 (List.mem_of_getElem? (i := 194) rfl), lw_tb8 (List.mem_of_getElem? (i := 195) rfl)⟩
set_option maxRecDepth 100000 in
theorem lw_p101 : lw_okq (⟨"LongYearsModel", "dueOf", "(II)J"⟩, 76) := ⟨lw_cn5, lw_tb6 (List.mem_of_getElem? (i := 107) rfl), lw_tb8 (List.mem_of_getElem? (i := 218) rfl), lw_tb8 (List.mem_of_getElem? (i := 219) rfl)⟩
set_option maxRecDepth 100000 in
theorem lw_p102 : lw_okq (⟨"LongYearsModel", "yearsLater", "(IJJ)J"⟩, 76) := ⟨lw_cn5, lw_tb6 (List.mem_of_getElem? (i := 107) rfl), lw_tb8 (List.mem_of_getElem? (i := 222) rfl), lw_tb8 (List.mem_of_getElem? (i := 223) rfl)⟩
set_option maxRecDepth 100000 in
theorem lw_p103 : lw_okq (⟨"LongYearsModel", "endedBy", "(IJ)J"⟩, 76) := ⟨lw_cn5, lw_tb6 (List.mem_of_getElem? (i := 107) rfl), lw_tb8 (List.mem_of_getElem? (i := 226) rfl), lw_tb8 (List.mem_of_getElem? (i := 227) rfl)⟩
set_option maxRecDepth 100000 in
theorem lw_p104 : lw_okq (⟨"LongYearsModel", "canSay", "(IIII)Z"⟩, 76) := ⟨lw_cn5, lw_tb6 (List.mem_of_getElem? (i := 107) rfl), lw_tb9 (List.mem_of_getElem? (i := 17) rfl), lw_tb9 (List.mem_of_getElem? (i := 18) rfl)⟩
set_option maxRecDepth 100000 in
theorem lw_p105 : lw_okq (⟨"LongYearsModel", "isNote", "(I)Z"⟩, 76) := ⟨lw_cn5, lw_tb6 (List.mem_of_getElem? (i := 107) rfl), lw_tb9 (List.mem_of_getElem? (i := 29) rfl), lw_tb9 (List.mem_of_getElem? (i := 30) rfl)⟩
set_option maxRecDepth 100000 in
theorem lw_p106 : lw_okq (⟨"LongYearsModel", "layCan", "(I)V"⟩, 76) := ⟨lw_cn5, lw_tb6 (List.mem_of_getElem? (i := 107) rfl), lw_tb9 (List.mem_of_getElem? (i := 33) rfl), lw_tb9 (List.mem_of_getElem? (i := 34) rfl)⟩
set_option maxRecDepth 100000 in
theorem lw_p107 : lw_okq (⟨"LongYearsModel", "canBe", "(II)Z"⟩, 76) := ⟨lw_cn5, lw_tb6 (List.mem_of_getElem? (i := 107) rfl), lw_tb9 (List.mem_of_getElem? (i := 37) rfl), lw_tb9 (List.mem_of_getElem? (i := 38) rfl)⟩
set_option maxRecDepth 100000 in
theorem lw_p108 : lw_okq (⟨"LongYearsModel", "told3", "(I)I"⟩, 76) := ⟨lw_cn5, lw_tb6 (List.mem_of_getElem? (i := 107) rfl), lw_tb9 (List.mem_of_getElem? (i := 41) rfl), lw_tb9 (List.mem_of_getElem? (i := 42) rfl)⟩
set_option maxRecDepth 100000 in
theorem lw_p109 : lw_okq (⟨"LongYearsModel", "layAllCan", "()V"⟩, 76) := ⟨lw_cn5, lw_tb6 (List.mem_of_getElem? (i := 107) rfl), lw_tb9 (List.mem_of_getElem? (i := 49) rfl), lw_tb9 (List.mem_of_getElem? (i := 50) rfl)⟩
set_option maxRecDepth 100000 in
theorem lw_p110 : lw_okq (⟨"LongYearsModel", "allNotes", "()I"⟩, 76) := ⟨lw_cn5, lw_tb6 (List.mem_of_getElem? (i := 107) rfl), lw_tb9 (List.mem_of_getElem? (i := 53) rfl), lw_tb9 (List.mem_of_getElem? (i := 54) rfl)⟩
set_option maxRecDepth 100000 in
theorem lw_p111 : lw_okq (⟨"LongYearsModel", "layRoots", "(I)V"⟩, 76) := ⟨lw_cn5, lw_tb6 (List.mem_of_getElem? (i := 107) rfl), lw_tb9 (List.mem_of_getElem? (i := 57) rfl), lw_tb9 (List.mem_of_getElem? (i := 58) rfl)⟩
def lw_privs_7 : List (MethodName × Nat) := [(⟨"LongYearsModel", "times", "(JJ)J"⟩, 76), (⟨"LongYearsModel", "festiveOf", "(IJ)J"⟩, 76), (⟨"LongYearsModel", "isPerson", "(I)Z"⟩, 76), (⟨"LongYearsModel", "begins", "(IJ)Z"⟩, 76), (⟨"LongYearsModel", "springsOf", "(IJ)J"⟩, 76), (⟨"LongYearsModel", "dueOf", "(II)J"⟩, 76), (⟨"LongYearsModel", "yearsLater", "(IJJ)J"⟩, 76), (⟨"LongYearsModel", "endedBy", "(IJ)J"⟩, 76), (⟨"LongYearsModel", "canSay", "(IIII)Z"⟩, 76), (⟨"LongYearsModel", "isNote", "(I)Z"⟩, 76), (⟨"LongYearsModel", "layCan", "(I)V"⟩, 76), (⟨"LongYearsModel", "canBe", "(II)Z"⟩, 76), (⟨"LongYearsModel", "told3", "(I)I"⟩, 76), (⟨"LongYearsModel", "layAllCan", "()V"⟩, 76), (⟨"LongYearsModel", "allNotes", "()I"⟩, 76), (⟨"LongYearsModel", "layRoots", "(I)V"⟩, 76)]
theorem lw_r7 : ∀ q ∈ lw_privs_7, lw_okq q := List.forall_mem_cons.mpr ⟨lw_p96, List.forall_mem_cons.mpr ⟨lw_p97, List.forall_mem_cons.mpr ⟨lw_p98, List.forall_mem_cons.mpr ⟨lw_p99, List.forall_mem_cons.mpr ⟨lw_p100, List.forall_mem_cons.mpr ⟨lw_p101, List.forall_mem_cons.mpr ⟨lw_p102, List.forall_mem_cons.mpr ⟨lw_p103, List.forall_mem_cons.mpr ⟨lw_p104, List.forall_mem_cons.mpr ⟨lw_p105, List.forall_mem_cons.mpr ⟨lw_p106, List.forall_mem_cons.mpr ⟨lw_p107, List.forall_mem_cons.mpr ⟨lw_p108, List.forall_mem_cons.mpr ⟨lw_p109, List.forall_mem_cons.mpr ⟨lw_p110, List.forall_mem_cons.mpr ⟨lw_p111, fun _ h => absurd h List.not_mem_nil⟩⟩⟩⟩⟩⟩⟩⟩⟩⟩⟩⟩⟩⟩⟩⟩
set_option maxRecDepth 100000 in
theorem lw_p112 : lw_okq (⟨"LongYearsModel", "layRoot", "(IIZ)V"⟩, 76) := ⟨lw_cn5, lw_tb6 (List.mem_of_getElem? (i := 107) rfl), lw_tb9 (List.mem_of_getElem? (i := 61) rfl), lw_tb9 (List.mem_of_getElem? (i := 62) rfl)⟩
set_option maxRecDepth 100000 in
theorem lw_p113 : lw_okq (⟨"LongYearsModel", "allCan", "(III)Z"⟩, 76) := ⟨lw_cn5, lw_tb6 (List.mem_of_getElem? (i := 107) rfl), lw_tb9 (List.mem_of_getElem? (i := 65) rfl), lw_tb9 (List.mem_of_getElem? (i := 66) rfl)⟩
set_option maxRecDepth 100000 in
theorem lw_p114 : lw_okq (⟨"LongYearsModel", "isGap", "(I)Z"⟩, 76) := ⟨lw_cn5, lw_tb6 (List.mem_of_getElem? (i := 107) rfl), lw_tb9 (List.mem_of_getElem? (i := 76) rfl), lw_tb9 (List.mem_of_getElem? (i := 77) rfl)⟩
set_option maxRecDepth 100000 in
theorem lw_p115 : lw_okq (⟨"LongYearsModel", "isSo", "(I)Z"⟩, 76) := ⟨lw_cn5, lw_tb6 (List.mem_of_getElem? (i := 107) rfl), lw_tb9 (List.mem_of_getElem? (i := 88) rfl), lw_tb9 (List.mem_of_getElem? (i := 89) rfl)⟩
def lw_privs_8 : List (MethodName × Nat) := [(⟨"LongYearsModel", "layRoot", "(IIZ)V"⟩, 76), (⟨"LongYearsModel", "allCan", "(III)Z"⟩, 76), (⟨"LongYearsModel", "isGap", "(I)Z"⟩, 76), (⟨"LongYearsModel", "isSo", "(I)Z"⟩, 76)]
theorem lw_r8 : ∀ q ∈ lw_privs_8, lw_okq q := List.forall_mem_cons.mpr ⟨lw_p112, List.forall_mem_cons.mpr ⟨lw_p113, List.forall_mem_cons.mpr ⟨lw_p114, List.forall_mem_cons.mpr ⟨lw_p115, fun _ h => absurd h List.not_mem_nil⟩⟩⟩⟩
def lw_privs : List (MethodName × Nat) := lw_privs_1 ++ (lw_privs_2 ++ (lw_privs_3 ++ (lw_privs_4 ++ (lw_privs_5 ++ (lw_privs_6 ++ (lw_privs_7 ++ (lw_privs_8)))))))
def lw_tbl : List Cond := k2_sels lw_privs ++ tables_1
theorem lw_privs_ok : ∀ q ∈ lw_privs, lw_okq q := by
  show ∀ q ∈ lw_privs_1 ++ (lw_privs_2 ++ (lw_privs_3 ++ (lw_privs_4 ++ (lw_privs_5 ++ (lw_privs_6 ++ (lw_privs_7 ++ (lw_privs_8))))))), lw_okq q
  exact List.forall_mem_append.mpr ⟨lw_r1, List.forall_mem_append.mpr ⟨lw_r2, List.forall_mem_append.mpr ⟨lw_r3, List.forall_mem_append.mpr ⟨lw_r4, List.forall_mem_append.mpr ⟨lw_r5, List.forall_mem_append.mpr ⟨lw_r6, List.forall_mem_append.mpr ⟨lw_r7, lw_r8⟩⟩⟩⟩⟩⟩⟩
