/-! ===== BEGIN words of one list among another's, by their places ===== -/
theorem goodIn_r {big : List Cond} (ws : List Cond) (ps : List Nat) (hp : ws = ps.filterMap (fun i => big[i]?)) (h : ws.all goodWord = true) : GoodIn big ws := by
  intro w hw
  have h1 := List.all_eq_true.mp h w hw
  rw [hp] at hw
  obtain ⟨i, -, hi⟩ := List.mem_filterMap.mp hw
  have hm : w ∈ big := by first | exact List.mem_of_getElem? hi | exact List.getElem?_mem hi
  exact ⟨hm, good_of_word h1⟩
theorem goodIn_app {big a b : List Cond} (ha : GoodIn big a) (hb : GoodIn big b) : GoodIn big (a ++ b) := fun w h => (List.mem_append.mp h).elim (ha w) (hb w)
theorem goodIn_ca {big a b : List Cond} {c : Cond} (ha : GoodIn big (c :: a)) (hb : GoodIn big b) : GoodIn big (c :: (a ++ b)) := fun w h => (List.mem_cons.mp h).elim (fun e => ha w (List.mem_cons.mpr (Or.inl e))) (fun h => (List.mem_append.mp h).elim (fun h => ha w (List.mem_cons.mpr (Or.inr h))) (hb w))
theorem goodIn_sub {big ws : List Cond} (hm : ∀ w ∈ ws, w ∈ big) (h : ws.all goodWord = true) : GoodIn big ws := fun w hw => ⟨hm w hw, good_of_word (List.all_eq_true.mp h w hw)⟩
/-! ===== END ===== -/
/-! ===== BEGIN printed: names, fields, word lists, decode rows ===== -/
def RX0 : String := "LongYears$Book"
def TX0 : u_T := fun k => match k with
  | 0 => ("LongYears$Book", "told", "[I", true)
  | 1 => ("LongYears$Book", "names", "[[I", true)
  | 2 => ("LongYears$Book", "lands", "[LLongYears$Land;", true)
  | 3 => ("LongYears$Book", "sky", "LLongYears$Sky;", true)
  | 4 => ("LongYears$Book", "rules", "LLongYears$Rules;", true)
  | 5 => ("LongYears$Book", "born", "[J", true)
  | 6 => ("LongYears$Book", "died", "[J", true)
  | 7 => ("LongYears$Book", "deedAt", "[J", true)
  | 8 => ("LongYears$Book", "deedKind", "[I", true)
  | 9 => ("LongYears$Book", "deedTerm", "[I", true)
  | 10 => ("LongYears$Book", "deedPay", "[I", true)
  | _ => ("LongYears$Book", "notes", "LLongYears$Notes;", true)
def tyX0 : Nat → FieldType := fun k => match k with
  | 0 => .array .int
  | 1 => .array (.array .int)
  | 2 => .array (.object "LongYears$Land")
  | 3 => .object "LongYears$Sky"
  | 4 => .object "LongYears$Rules"
  | 5 => .array .long
  | 6 => .array .long
  | 7 => .array .long
  | 8 => .array .int
  | 9 => .array .int
  | 10 => .array .int
  | _ => .object "LongYears$Notes"
abbrev wsX00 : List Cond := u_ws RX0 TX0 12
theorem nmX0 : ∀ a, a < 12 → ∀ b, b < 12 → a ≠ b → (TX0 a).2.1 ≠ (TX0 b).2.1 := by decide +kernel
theorem tyX0_ok : ∀ k, k < 12 → parseFieldDescriptor (TX0 k).2.2.1 = some (tyX0 k) := by decide +kernel
abbrev cX0_init : ByteArray := prog_2_method_1_code
def yX0_init : MethodName := ⟨RX0, "<init>", "()V"⟩
abbrev cX0_clear : ByteArray := prog_2_method_2_code
def yX0_clear : MethodName := ⟨RX0, "clear", "()V"⟩
abbrev cX0_has : ByteArray := prog_2_method_3_code
def yX0_has : MethodName := ⟨RX0, "has", "(II)Z"⟩
abbrev cX0_landAt : ByteArray := prog_2_method_4_code
def yX0_landAt : MethodName := ⟨RX0, "landAt", "(I)LLongYears$Land;"⟩
abbrev cX0_find : ByteArray := prog_2_method_5_code
def yX0_find : MethodName := ⟨RX0, "find", "(II)I"⟩
abbrev cX0_earliestOf : ByteArray := prog_2_method_6_code
def yX0_earliestOf : MethodName := ⟨RX0, "earliestOf", "(I)J"⟩
abbrev cX0_latestOf : ByteArray := prog_2_method_7_code
def yX0_latestOf : MethodName := ⟨RX0, "latestOf", "(I)J"⟩
def RX1 : String := "LongYears$Land"
def TX1 : u_T := fun k => match k with
  | 0 => ("LongYears$Land", "first", "I", false)
  | 1 => ("LongYears$Land", "growth", "I", false)
  | _ => ("LongYears$Land", "from", "I", false)
def tyX1 : Nat → FieldType := fun k => match k with
  | 0 => .int
  | 1 => .int
  | _ => .int
abbrev wsX10 : List Cond := u_ws RX1 TX1 3
theorem nmX1 : ∀ a, a < 3 → ∀ b, b < 3 → a ≠ b → (TX1 a).2.1 ≠ (TX1 b).2.1 := by decide +kernel
theorem tyX1_ok : ∀ k, k < 3 → parseFieldDescriptor (TX1 k).2.2.1 = some (tyX1 k) := by decide +kernel
abbrev cX1_init : ByteArray := prog_3_method_1_code
def yX1_init : MethodName := ⟨RX1, "<init>", "()V"⟩
abbrev cX1_isThere : ByteArray := prog_3_method_2_code
def yX1_isThere : MethodName := ⟨RX1, "isThere", "(J)Z"⟩
abbrev cX1_canBeAsked : ByteArray := prog_3_method_3_code
def yX1_canBeAsked : MethodName := ⟨RX1, "canBeAsked", "(J)Z"⟩
abbrev cX1_lengthOf : ByteArray := prog_3_method_4_code
def yX1_lengthOf : MethodName := ⟨RX1, "lengthOf", "(J)J"⟩
abbrev cX1_beginOf : ByteArray := prog_3_method_5_code
def yX1_beginOf : MethodName := ⟨RX1, "beginOf", "(J)J"⟩
abbrev cX1_lastYear : ByteArray := prog_3_method_6_code
def yX1_lastYear : MethodName := ⟨RX1, "lastYear", "()J"⟩
abbrev cX1_yearOf : ByteArray := prog_3_method_7_code
def yX1_yearOf : MethodName := ⟨RX1, "yearOf", "(J)J"⟩
abbrev cX1_countOf : ByteArray := prog_3_method_8_code
def yX1_countOf : MethodName := ⟨RX1, "countOf", "(JJ)J"⟩
abbrev cX1_endedBy : ByteArray := prog_3_method_9_code
def yX1_endedBy : MethodName := ⟨RX1, "endedBy", "(J)J"⟩
abbrev cX1_yearsKept : ByteArray := prog_3_method_10_code
def yX1_yearsKept : MethodName := ⟨RX1, "yearsKept", "(JJ)J"⟩
abbrev cX1_yearsWithDay : ByteArray := prog_3_method_11_code
def yX1_yearsWithDay : MethodName := ⟨RX1, "yearsWithDay", "(JJJ)J"⟩
abbrev cX1_yearsLater : ByteArray := prog_3_method_12_code
def yX1_yearsLater : MethodName := ⟨RX1, "yearsLater", "(JI)J"⟩
def RX2 : String := "LongYears$Ledger"
def TX2 : u_T := fun k => match k with
  | 0 => ("LongYears$Ledger", "size", "I", false)
  | 1 => ("LongYears$Ledger", "notes", "[I", true)
  | _ => ("LongYears$Ledger", "counts", "[I", true)
def tyX2 : Nat → FieldType := fun k => match k with
  | 0 => .int
  | 1 => .array .int
  | _ => .array .int
abbrev wsX20 : List Cond := u_ws RX2 TX2 3
theorem nmX2 : ∀ a, a < 3 → ∀ b, b < 3 → a ≠ b → (TX2 a).2.1 ≠ (TX2 b).2.1 := by decide +kernel
theorem tyX2_ok : ∀ k, k < 3 → parseFieldDescriptor (TX2 k).2.2.1 = some (tyX2 k) := by decide +kernel
abbrev cX2_init : ByteArray := prog_4_method_1_code
def yX2_init : MethodName := ⟨RX2, "<init>", "()V"⟩
abbrev cX2_add : ByteArray := prog_4_method_2_code
def yX2_add : MethodName := ⟨RX2, "add", "(II)V"⟩
abbrev cX2_latestAhead : ByteArray := prog_4_method_3_code
def yX2_latestAhead : MethodName := ⟨RX2, "latestAhead", "(II)I"⟩
abbrev cX2_copy : ByteArray := prog_4_method_4_code
def yX2_copy : MethodName := ⟨RX2, "copy", "(LLongYears$Ledger;)V"⟩
def RX3 : String := "LongYears$Lexer"
def TX3 : u_T := fun k => match k with
  | 0 => ("LongYears$Lexer", "bytes", "[B", true)
  | 1 => ("LongYears$Lexer", "filled", "I", false)
  | 2 => ("LongYears$Lexer", "codes", "[I", true)
  | 3 => ("LongYears$Lexer", "end", "I", false)
  | 4 => ("LongYears$Lexer", "at", "I", false)
  | 5 => ("LongYears$Lexer", "token", "I", false)
  | 6 => ("LongYears$Lexer", "place", "I", false)
  | 7 => ("LongYears$Lexer", "number", "I", false)
  | _ => ("LongYears$Lexer", "letters", "I", false)
def tyX3 : Nat → FieldType := fun k => match k with
  | 0 => .array .byte
  | 1 => .int
  | 2 => .array .int
  | 3 => .int
  | 4 => .int
  | 5 => .int
  | 6 => .int
  | 7 => .int
  | _ => .int
abbrev wsX30 : List Cond := u_ws RX3 TX3 9
theorem nmX3 : ∀ a, a < 9 → ∀ b, b < 9 → a ≠ b → (TX3 a).2.1 ≠ (TX3 b).2.1 := by decide +kernel
theorem tyX3_ok : ∀ k, k < 9 → parseFieldDescriptor (TX3 k).2.2.1 = some (tyX3 k) := by decide +kernel
abbrev cX3_init : ByteArray := prog_5_method_1_code
def yX3_init : MethodName := ⟨RX3, "<init>", "()V"⟩
abbrev cX3_putFour : ByteArray := prog_5_method_2_code
def yX3_putFour : MethodName := ⟨RX3, "putFour", "(I)V"⟩
abbrev cX3_start : ByteArray := prog_5_method_3_code
def yX3_start : MethodName := ⟨RX3, "start", "(I)V"⟩
abbrev cX3_advance : ByteArray := prog_5_method_4_code
def yX3_advance : MethodName := ⟨RX3, "advance", "()V"⟩
abbrev cX3_readWord : ByteArray := prog_5_method_5_code
def yX3_readWord : MethodName := ⟨RX3, "readWord", "()V"⟩
abbrev cX3_readNumber : ByteArray := prog_5_method_6_code
def yX3_readNumber : MethodName := ⟨RX3, "readNumber", "()V"⟩
abbrev cX3_readSign : ByteArray := prog_5_method_7_code
def yX3_readSign : MethodName := ⟨RX3, "readSign", "(I)V"⟩
def RX4 : String := "LongYears$Moment"
def TX4 : u_T := fun k => match k with
  | 0 => ("LongYears$Moment", "land", "LLongYears$Land;", false)
  | 1 => ("LongYears$Moment", "count", "J", false)
  | 2 => ("LongYears$Moment", "year", "J", false)
  | 3 => ("LongYears$Moment", "day", "J", false)
  | _ => ("LongYears$Moment", "length", "J", false)
def tyX4 : Nat → FieldType := fun k => match k with
  | 0 => .object "LongYears$Land"
  | 1 => .long
  | 2 => .long
  | 3 => .long
  | _ => .long
abbrev wsX40 : List Cond := u_ws RX4 TX4 5
theorem nmX4 : ∀ a, a < 5 → ∀ b, b < 5 → a ≠ b → (TX4 a).2.1 ≠ (TX4 b).2.1 := by decide +kernel
theorem tyX4_ok : ∀ k, k < 5 → parseFieldDescriptor (TX4 k).2.2.1 = some (tyX4 k) := by decide +kernel
abbrev cX4_init : ByteArray := prog_6_method_1_code
def yX4_init : MethodName := ⟨RX4, "<init>", "()V"⟩
abbrev cX4_seek : ByteArray := prog_6_method_2_code
def yX4_seek : MethodName := ⟨RX4, "seek", "(LLongYears$Land;J)V"⟩
abbrev cX4_step : ByteArray := prog_6_method_3_code
def yX4_step : MethodName := ⟨RX4, "step", "()V"⟩
abbrev cX4_beginYear : ByteArray := prog_6_method_4_code
def yX4_beginYear : MethodName := ⟨RX4, "beginYear", "(J)V"⟩
def RX5 : String := "LongYears$NoteDays"
def TX5 : u_T := fun k => match k with
  | 0 => ("LongYears$NoteDays", "rows", "[[J", true)
  | 1 => ("LongYears$NoteDays", "fresh", "I", false)
  | 2 => ("LongYears$NoteDays", "shifts", "[I", true)
  | 3 => ("LongYears$NoteDays", "tops", "[I", true)
  | 4 => ("LongYears$NoteDays", "moment", "LLongYears$Moment;", true)
  | _ => ("LongYears$NoteDays", "wish", "LLongYears$Wish;", true)
def tyX5 : Nat → FieldType := fun k => match k with
  | 0 => .array (.array .long)
  | 1 => .int
  | 2 => .array .int
  | 3 => .array .int
  | 4 => .object "LongYears$Moment"
  | _ => .object "LongYears$Wish"
abbrev wsX50 : List Cond := u_ws RX5 TX5 6
theorem nmX5 : ∀ a, a < 6 → ∀ b, b < 6 → a ≠ b → (TX5 a).2.1 ≠ (TX5 b).2.1 := by decide +kernel
theorem tyX5_ok : ∀ k, k < 6 → parseFieldDescriptor (TX5 k).2.2.1 = some (tyX5 k) := by decide +kernel
abbrev cX5_init : ByteArray := prog_7_method_1_code
def yX5_init : MethodName := ⟨RX5, "<init>", "()V"⟩
abbrev cX5_staleFrom : ByteArray := prog_7_method_2_code
def yX5_staleFrom : MethodName := ⟨RX5, "staleFrom", "(I)V"⟩
abbrev cX5_refresh : ByteArray := prog_7_method_3_code
def yX5_refresh : MethodName := ⟨RX5, "refresh", "(LLongYears$Book;)V"⟩
abbrev cX5_fill : ByteArray := prog_7_method_4_code
def yX5_fill : MethodName := ⟨RX5, "fill", "(ILLongYears$Book;)V"⟩
abbrev cX5_readWish : ByteArray := prog_7_method_5_code
def yX5_readWish : MethodName := ⟨RX5, "readWish", "(LLongYears$Notes;I)V"⟩
abbrev cX5_fillAll : ByteArray := prog_7_method_6_code
def yX5_fillAll : MethodName := ⟨RX5, "fillAll", "([JII)V"⟩
abbrev cX5_isOn : ByteArray := prog_7_method_7_code
def yX5_isOn : MethodName := ⟨RX5, "isOn", "(II)Z"⟩
abbrev cX5_tellAlone : ByteArray := prog_7_method_8_code
def yX5_tellAlone : MethodName := ⟨RX5, "tellAlone", "(LLongYears$Notes;II)I"⟩
abbrev cX5_tellTogether : ByteArray := prog_7_method_9_code
def yX5_tellTogether : MethodName := ⟨RX5, "tellTogether", "(LLongYears$Notes;II)I"⟩
abbrev cX5_layOut : ByteArray := prog_7_method_10_code
def yX5_layOut : MethodName := ⟨RX5, "layOut", "(LLongYears$Notes;I)I"⟩
abbrev cX5_treeOf : ByteArray := prog_7_method_11_code
def yX5_treeOf : MethodName := ⟨RX5, "treeOf", "(II)I"⟩
abbrev cX5_allHold : ByteArray := prog_7_method_12_code
def yX5_allHold : MethodName := ⟨RX5, "allHold", "(I)Z"⟩
abbrev cX5_leastGap : ByteArray := prog_7_method_13_code
def yX5_leastGap : MethodName := ⟨RX5, "leastGap", "(LLongYears$Notes;)I"⟩
abbrev cX5_canHold : ByteArray := prog_7_method_14_code
def yX5_canHold : MethodName := ⟨RX5, "canHold", "(I)Z"⟩
abbrev cX5_topsIn : ByteArray := prog_7_method_15_code
def yX5_topsIn : MethodName := ⟨RX5, "topsIn", "(II)J"⟩
abbrev cX5_bitsFrom : ByteArray := prog_7_method_16_code
def yX5_bitsFrom : MethodName := ⟨RX5, "bitsFrom", "([JI)J"⟩
abbrev cX5_tell : ByteArray := prog_7_method_17_code
def yX5_tell : MethodName := ⟨RX5, "tell", "(III)I"⟩
def RX6 : String := "LongYears$Notes"
def TX6 : u_T := fun k => match k with
  | 0 => ("LongYears$Notes", "size", "I", false)
  | 1 => ("LongYears$Notes", "said", "[I", true)
  | 2 => ("LongYears$Notes", "firsts", "[I", true)
  | _ => ("LongYears$Notes", "seconds", "[I", true)
def tyX6 : Nat → FieldType := fun k => match k with
  | 0 => .int
  | 1 => .array .int
  | 2 => .array .int
  | _ => .array .int
abbrev wsX60 : List Cond := u_ws RX6 TX6 4
theorem nmX6 : ∀ a, a < 4 → ∀ b, b < 4 → a ≠ b → (TX6 a).2.1 ≠ (TX6 b).2.1 := by decide +kernel
theorem tyX6_ok : ∀ k, k < 4 → parseFieldDescriptor (TX6 k).2.2.1 = some (tyX6 k) := by decide +kernel
abbrev cX6_init : ByteArray := prog_8_method_1_code
def yX6_init : MethodName := ⟨RX6, "<init>", "()V"⟩
abbrev cX6_begin : ByteArray := prog_8_method_2_code
def yX6_begin : MethodName := ⟨RX6, "begin", "(I)V"⟩
abbrev cX6_does : ByteArray := prog_8_method_3_code
def yX6_does : MethodName := ⟨RX6, "does", "(II)Z"⟩
abbrev cX6_add : ByteArray := prog_8_method_4_code
def yX6_add : MethodName := ⟨RX6, "add", "(IIII)V"⟩
abbrev cX6_drop : ByteArray := prog_8_method_5_code
def yX6_drop : MethodName := ⟨RX6, "drop", "(II)V"⟩
abbrev cX6_firstOf : ByteArray := prog_8_method_6_code
def yX6_firstOf : MethodName := ⟨RX6, "firstOf", "(II)I"⟩
abbrev cX6_secondOf : ByteArray := prog_8_method_7_code
def yX6_secondOf : MethodName := ⟨RX6, "secondOf", "(II)I"⟩
abbrev cX6_askedOf : ByteArray := prog_8_method_8_code
def yX6_askedOf : MethodName := ⟨RX6, "askedOf", "(II)I"⟩
abbrev cX6_slotOf : ByteArray := prog_8_method_9_code
def yX6_slotOf : MethodName := ⟨RX6, "slotOf", "(II)I"⟩
abbrev cX6_copy : ByteArray := prog_8_method_10_code
def yX6_copy : MethodName := ⟨RX6, "copy", "(LLongYears$Notes;)V"⟩
def RX7 : String := "LongYears$Parser"
def TX7 : u_T := fun k => match k with
  | 0 => ("LongYears$Parser", "lexer", "LLongYears$Lexer;", true)
  | 1 => ("LongYears$Parser", "book", "LLongYears$Book;", false)
  | 2 => ("LongYears$Parser", "fault", "I", false)
  | 3 => ("LongYears$Parser", "faultPlace", "I", false)
  | 4 => ("LongYears$Parser", "skyTold", "I", false)
  | 5 => ("LongYears$Parser", "held", "[I", true)
  | 6 => ("LongYears$Parser", "heldRanks", "[I", true)
  | 7 => ("LongYears$Parser", "heldSize", "I", false)
  | _ => ("LongYears$Parser", "open", "I", false)
def tyX7 : Nat → FieldType := fun k => match k with
  | 0 => .object "LongYears$Lexer"
  | 1 => .object "LongYears$Book"
  | 2 => .int
  | 3 => .int
  | 4 => .int
  | 5 => .array .int
  | 6 => .array .int
  | 7 => .int
  | _ => .int
abbrev wsX70 : List Cond := u_ws RX7 TX7 9
theorem nmX7 : ∀ a, a < 9 → ∀ b, b < 9 → a ≠ b → (TX7 a).2.1 ≠ (TX7 b).2.1 := by decide +kernel
theorem tyX7_ok : ∀ k, k < 9 → parseFieldDescriptor (TX7 k).2.2.1 = some (tyX7 k) := by decide +kernel
abbrev cX7_init : ByteArray := prog_9_method_1_code
def yX7_init : MethodName := ⟨RX7, "<init>", "()V"⟩
abbrev cX7_read : ByteArray := prog_9_method_2_code
def yX7_read : MethodName := ⟨RX7, "read", "(LLongYears$Book;I)I"⟩
abbrev cX7_refuse : ByteArray := prog_9_method_3_code
def yX7_refuse : MethodName := ⟨RX7, "refuse", "(ZII)V"⟩
abbrev cX7_readLine : ByteArray := prog_9_method_4_code
def yX7_readLine : MethodName := ⟨RX7, "readLine", "()V"⟩
abbrev cX7_readLand : ByteArray := prog_9_method_5_code
def yX7_readLand : MethodName := ⟨RX7, "readLand", "()V"⟩
abbrev cX7_readWeek : ByteArray := prog_9_method_6_code
def yX7_readWeek : MethodName := ⟨RX7, "readWeek", "()V"⟩
abbrev cX7_readMoon : ByteArray := prog_9_method_7_code
def yX7_readMoon : MethodName := ⟨RX7, "readMoon", "()V"⟩
abbrev cX7_readSun : ByteArray := prog_9_method_8_code
def yX7_readSun : MethodName := ⟨RX7, "readSun", "()V"⟩
abbrev cX7_beginSky : ByteArray := prog_9_method_9_code
def yX7_beginSky : MethodName := ⟨RX7, "beginSky", "(I)V"⟩
abbrev cX7_latterParts : ByteArray := prog_9_method_10_code
def yX7_latterParts : MethodName := ⟨RX7, "latterParts", "(I)I"⟩
abbrev cX7_readPerson : ByteArray := prog_9_method_11_code
def yX7_readPerson : MethodName := ⟨RX7, "readPerson", "()V"⟩
abbrev cX7_readDate : ByteArray := prog_9_method_12_code
def yX7_readDate : MethodName := ⟨RX7, "readDate", "(J)J"⟩
abbrev cX7_readDeed : ByteArray := prog_9_method_13_code
def yX7_readDeed : MethodName := ⟨RX7, "readDeed", "()V"⟩
abbrev cX7_readNote : ByteArray := prog_9_method_14_code
def yX7_readNote : MethodName := ⟨RX7, "readNote", "()V"⟩
abbrev cX7_readSaying : ByteArray := prog_9_method_15_code
def yX7_readSaying : MethodName := ⟨RX7, "readSaying", "(II)V"⟩
abbrev cX7_sayingOf : ByteArray := prog_9_method_16_code
def yX7_sayingOf : MethodName := ⟨RX7, "sayingOf", "(I)I"⟩
abbrev cX7_readFeast : ByteArray := prog_9_method_17_code
def yX7_readFeast : MethodName := ⟨RX7, "readFeast", "()V"⟩
abbrev cX7_readPart : ByteArray := prog_9_method_18_code
def yX7_readPart : MethodName := ⟨RX7, "readPart", "()Z"⟩
abbrev cX7_readSign : ByteArray := prog_9_method_19_code
def yX7_readSign : MethodName := ⟨RX7, "readSign", "()V"⟩
abbrev cX7_close : ByteArray := prog_9_method_20_code
def yX7_close : MethodName := ⟨RX7, "close", "()V"⟩
abbrev cX7_countKnot : ByteArray := prog_9_method_21_code
def yX7_countKnot : MethodName := ⟨RX7, "countKnot", "()V"⟩
abbrev cX7_hold : ByteArray := prog_9_method_22_code
def yX7_hold : MethodName := ⟨RX7, "hold", "(I)V"⟩
abbrev cX7_heldRank : ByteArray := prog_9_method_23_code
def yX7_heldRank : MethodName := ⟨RX7, "heldRank", "()I"⟩
abbrev cX7_release : ByteArray := prog_9_method_24_code
def yX7_release : MethodName := ⟨RX7, "release", "(I)V"⟩
abbrev cX7_take : ByteArray := prog_9_method_25_code
def yX7_take : MethodName := ⟨RX7, "take", "(I)V"⟩
abbrev cX7_beginNamed : ByteArray := prog_9_method_26_code
def yX7_beginNamed : MethodName := ⟨RX7, "beginNamed", "(I)I"⟩
abbrev cX7_known : ByteArray := prog_9_method_27_code
def yX7_known : MethodName := ⟨RX7, "known", "(I)I"⟩
abbrev cX7_numberIn : ByteArray := prog_9_method_28_code
def yX7_numberIn : MethodName := ⟨RX7, "numberIn", "(II)I"⟩
abbrev cX7_signedUpTo : ByteArray := prog_9_method_29_code
def yX7_signedUpTo : MethodName := ⟨RX7, "signedUpTo", "(I)I"⟩
def RX8 : String := "LongYears$Rules"
def TX8 : u_T := fun k => match k with
  | 0 => ("LongYears$Rules", "code", "[I", true)
  | 1 => ("LongYears$Rules", "codeSize", "I", false)
  | 2 => ("LongYears$Rules", "ends", "[I", true)
  | 3 => ("LongYears$Rules", "stack", "[J", true)
  | _ => ("LongYears$Rules", "knots", "I", false)
def tyX8 : Nat → FieldType := fun k => match k with
  | 0 => .array .int
  | 1 => .int
  | 2 => .array .int
  | 3 => .array .long
  | _ => .int
abbrev wsX80 : List Cond := u_ws RX8 TX8 5
theorem nmX8 : ∀ a, a < 5 → ∀ b, b < 5 → a ≠ b → (TX8 a).2.1 ≠ (TX8 b).2.1 := by decide +kernel
theorem tyX8_ok : ∀ k, k < 5 → parseFieldDescriptor (TX8 k).2.2.1 = some (tyX8 k) := by decide +kernel
abbrev cX8_init : ByteArray := prog_10_method_1_code
def yX8_init : MethodName := ⟨RX8, "<init>", "()V"⟩
abbrev cX8_clear : ByteArray := prog_10_method_2_code
def yX8_clear : MethodName := ⟨RX8, "clear", "()V"⟩
abbrev cX8_knotOf : ByteArray := prog_10_method_3_code
def yX8_knotOf : MethodName := ⟨RX8, "knotOf", "(I)I"⟩
abbrev cX8_put : ByteArray := prog_10_method_4_code
def yX8_put : MethodName := ⟨RX8, "put", "(I)V"⟩
abbrev cX8_endRule : ByteArray := prog_10_method_5_code
def yX8_endRule : MethodName := ⟨RX8, "endRule", "(I)V"⟩
abbrev cX8_isFeast : ByteArray := prog_10_method_6_code
def yX8_isFeast : MethodName := ⟨RX8, "isFeast", "(ILLongYears$Moment;LLongYears$Sky;)Z"⟩
abbrev cX8_valueOf : ByteArray := prog_10_method_7_code
def yX8_valueOf : MethodName := ⟨RX8, "valueOf", "(ILLongYears$Moment;LLongYears$Sky;)J"⟩
abbrev cX8_takenBy : ByteArray := prog_10_method_8_code
def yX8_takenBy : MethodName := ⟨RX8, "takenBy", "(I)I"⟩
abbrev cX8_rankOf : ByteArray := prog_10_method_9_code
def yX8_rankOf : MethodName := ⟨RX8, "rankOf", "(I)I"⟩
abbrev cX8_isName : ByteArray := prog_10_method_10_code
def yX8_isName : MethodName := ⟨RX8, "isName", "(I)Z"⟩
abbrev cX8_nameOf : ByteArray := prog_10_method_11_code
def yX8_nameOf : MethodName := ⟨RX8, "nameOf", "(ILLongYears$Moment;LLongYears$Sky;)J"⟩
abbrev cX8_joined : ByteArray := prog_10_method_12_code
def yX8_joined : MethodName := ⟨RX8, "joined", "(IJJ)J"⟩
abbrev cX8_holds : ByteArray := prog_10_method_13_code
def yX8_holds : MethodName := ⟨RX8, "holds", "(IJJ)Z"⟩
abbrev cX8_product : ByteArray := prog_10_method_14_code
def yX8_product : MethodName := ⟨RX8, "product", "(JJ)J"⟩
def RX9 : String := "LongYears$Sky"
def TX9 : u_T := fun k => match k with
  | 0 => ("LongYears$Sky", "weekDays", "I", false)
  | 1 => ("LongYears$Sky", "weekFirst", "I", false)
  | 2 => ("LongYears$Sky", "moonParts", "I", false)
  | 3 => ("LongYears$Sky", "moonBy", "I", false)
  | 4 => ("LongYears$Sky", "moonOver", "I", false)
  | 5 => ("LongYears$Sky", "sunParts", "I", false)
  | _ => ("LongYears$Sky", "sunBy", "I", false)
def tyX9 : Nat → FieldType := fun k => match k with
  | 0 => .int
  | 1 => .int
  | 2 => .int
  | 3 => .int
  | 4 => .int
  | 5 => .int
  | _ => .int
abbrev wsX90 : List Cond := u_ws RX9 TX9 7
theorem nmX9 : ∀ a, a < 7 → ∀ b, b < 7 → a ≠ b → (TX9 a).2.1 ≠ (TX9 b).2.1 := by decide +kernel
theorem tyX9_ok : ∀ k, k < 7 → parseFieldDescriptor (TX9 k).2.2.1 = some (tyX9 k) := by decide +kernel
abbrev cX9_init : ByteArray := prog_11_method_1_code
def yX9_init : MethodName := ⟨RX9, "<init>", "()V"⟩
abbrev cX9_clear : ByteArray := prog_11_method_2_code
def yX9_clear : MethodName := ⟨RX9, "clear", "()V"⟩
abbrev cX9_weekDayOf : ByteArray := prog_11_method_3_code
def yX9_weekDayOf : MethodName := ⟨RX9, "weekDayOf", "(J)I"⟩
abbrev cX9_moonOf : ByteArray := prog_11_method_4_code
def yX9_moonOf : MethodName := ⟨RX9, "moonOf", "(J)I"⟩
abbrev cX9_seasonOf : ByteArray := prog_11_method_5_code
def yX9_seasonOf : MethodName := ⟨RX9, "seasonOf", "(J)I"⟩
abbrev cX9_springsBy : ByteArray := prog_11_method_6_code
def yX9_springsBy : MethodName := ⟨RX9, "springsBy", "(J)J"⟩
def RX10 : String := "LongYears$Wish"
def TX10 : u_T := fun k => match k with
  | 0 => ("LongYears$Wish", "day", "I", false)
  | 1 => ("LongYears$Wish", "week", "I", false)
  | 2 => ("LongYears$Wish", "moon", "I", false)
  | 3 => ("LongYears$Wish", "season", "I", false)
  | _ => ("LongYears$Wish", "feast", "I", false)
def tyX10 : Nat → FieldType := fun k => match k with
  | 0 => .int
  | 1 => .int
  | 2 => .int
  | 3 => .int
  | _ => .int
abbrev wsX100 : List Cond := u_ws RX10 TX10 5
theorem nmX10 : ∀ a, a < 5 → ∀ b, b < 5 → a ≠ b → (TX10 a).2.1 ≠ (TX10 b).2.1 := by decide +kernel
theorem tyX10_ok : ∀ k, k < 5 → parseFieldDescriptor (TX10 k).2.2.1 = some (tyX10 k) := by decide +kernel
abbrev cX10_init : ByteArray := prog_12_method_1_code
def yX10_init : MethodName := ⟨RX10, "<init>", "()V"⟩
abbrev cX10_clear : ByteArray := prog_12_method_2_code
def yX10_clear : MethodName := ⟨RX10, "clear", "()V"⟩
abbrev cX10_isEmpty : ByteArray := prog_12_method_3_code
def yX10_isEmpty : MethodName := ⟨RX10, "isEmpty", "()Z"⟩
abbrev cX10_isMet : ByteArray := prog_12_method_4_code
def yX10_isMet : MethodName := ⟨RX10, "isMet", "(LLongYears$Moment;LLongYears$Book;)Z"⟩
def RX11 : String := "LongYears"
def TX11 : u_T := fun k => match k with
  | 0 => ("LongYears", "parser", "LLongYears$Parser;", true)
  | 1 => ("LongYears", "book", "LLongYears$Book;", false)
  | 2 => ("LongYears", "spare", "LLongYears$Book;", false)
  | 3 => ("LongYears", "days", "LLongYears$NoteDays;", true)
  | 4 => ("LongYears", "ledger", "LLongYears$Ledger;", true)
  | 5 => ("LongYears", "steps", "[I", true)
  | 6 => ("LongYears", "stepCount", "I", false)
  | 7 => ("LongYears", "imageNotes", "LLongYears$Notes;", true)
  | 8 => ("LongYears", "imageLedger", "LLongYears$Ledger;", true)
  | 9 => ("LongYears", "imageKept", "Z", false)
  | 10 => ("LongYears", "moment", "LLongYears$Moment;", true)
  | 11 => ("LongYears", "otherMoment", "LLongYears$Moment;", true)
  | _ => ("LongYears", "wish", "LLongYears$Wish;", true)
def tyX11 : Nat → FieldType := fun k => match k with
  | 0 => .object "LongYears$Parser"
  | 1 => .object "LongYears$Book"
  | 2 => .object "LongYears$Book"
  | 3 => .object "LongYears$NoteDays"
  | 4 => .object "LongYears$Ledger"
  | 5 => .array .int
  | 6 => .int
  | 7 => .object "LongYears$Notes"
  | 8 => .object "LongYears$Ledger"
  | 9 => .boolean
  | 10 => .object "LongYears$Moment"
  | 11 => .object "LongYears$Moment"
  | _ => .object "LongYears$Wish"
abbrev wsX110 : List Cond := u_ws RX11 TX11 13
theorem nmX11 : ∀ a, a < 13 → ∀ b, b < 13 → a ≠ b → (TX11 a).2.1 ≠ (TX11 b).2.1 := by decide +kernel
theorem tyX11_ok : ∀ k, k < 13 → parseFieldDescriptor (TX11 k).2.2.1 = some (tyX11 k) := by decide +kernel
abbrev cX11_init : ByteArray := prog_1_method_1_code
def yX11_init : MethodName := ⟨RX11, "<init>", "()V"⟩
abbrev cX11_feed : ByteArray := prog_1_method_2_code
def yX11_feed : MethodName := ⟨RX11, "feed", "(IIIII)I"⟩
abbrev cX11_text : ByteArray := prog_1_method_3_code
def yX11_text : MethodName := ⟨RX11, "text", "(I)I"⟩
abbrev cX11_fault : ByteArray := prog_1_method_4_code
def yX11_fault : MethodName := ⟨RX11, "fault", "(I)I"⟩
abbrev cX11_named : ByteArray := prog_1_method_5_code
def yX11_named : MethodName := ⟨RX11, "named", "(II)I"⟩
abbrev cX11_look : ByteArray := prog_1_method_6_code
def yX11_look : MethodName := ⟨RX11, "look", "(II)I"⟩
abbrev cX11_length : ByteArray := prog_1_method_7_code
def yX11_length : MethodName := ⟨RX11, "length", "(II)J"⟩
abbrev cX11_date : ByteArray := prog_1_method_8_code
def yX11_date : MethodName := ⟨RX11, "date", "(IJI)J"⟩
abbrev cX11_count : ByteArray := prog_1_method_9_code
def yX11_count : MethodName := ⟨RX11, "count", "(IIJ)J"⟩
abbrev cX11_round : ByteArray := prog_1_method_10_code
def yX11_round : MethodName := ⟨RX11, "round", "(JI)I"⟩
abbrev cX11_feast : ByteArray := prog_1_method_11_code
def yX11_feast : MethodName := ⟨RX11, "feast", "(IJ)I"⟩
abbrev cX11_festive : ByteArray := prog_1_method_12_code
def yX11_festive : MethodName := ⟨RX11, "festive", "(IJ)J"⟩
abbrev cX11_firstMet : ByteArray := prog_1_method_13_code
def yX11_firstMet : MethodName := ⟨RX11, "firstMet", "(J)J"⟩
abbrev cX11_rule : ByteArray := prog_1_method_14_code
def yX11_rule : MethodName := ⟨RX11, "rule", "(IJ)J"⟩
abbrev cX11_life : ByteArray := prog_1_method_15_code
def yX11_life : MethodName := ⟨RX11, "life", "(II)J"⟩
abbrev cX11_age : ByteArray := prog_1_method_16_code
def yX11_age : MethodName := ⟨RX11, "age", "(IJI)J"⟩
abbrev cX11_elder : ByteArray := prog_1_method_17_code
def yX11_elder : MethodName := ⟨RX11, "elder", "(II)I"⟩
abbrev cX11_often : ByteArray := prog_1_method_18_code
def yX11_often : MethodName := ⟨RX11, "often", "(IIIJ)J"⟩
abbrev cX11_springs : ByteArray := prog_1_method_19_code
def yX11_springs : MethodName := ⟨RX11, "springs", "(II)J"⟩
abbrev cX11_springsIn : ByteArray := prog_1_method_20_code
def yX11_springsIn : MethodName := ⟨RX11, "springsIn", "(LLongYears$Land;J)J"⟩
abbrev cX11_many : ByteArray := prog_1_method_21_code
def yX11_many : MethodName := ⟨RX11, "many", "(III)I"⟩
abbrev cX11_next : ByteArray := prog_1_method_22_code
def yX11_next : MethodName := ⟨RX11, "next", "(JIII)J"⟩
abbrev cX11_alike : ByteArray := prog_1_method_23_code
def yX11_alike : MethodName := ⟨RX11, "alike", "(IIJZ)J"⟩
abbrev cX11_deed : ByteArray := prog_1_method_24_code
def yX11_deed : MethodName := ⟨RX11, "deed", "(III)J"⟩
abbrev cX11_dueOf : ByteArray := prog_1_method_25_code
def yX11_dueOf : MethodName := ⟨RX11, "dueOf", "(ILLongYears$Land;)J"⟩
abbrev cX11_ends : ByteArray := prog_1_method_26_code
def yX11_ends : MethodName := ⟨RX11, "ends", "(IJI)I"⟩
abbrev cX11_hire : ByteArray := prog_1_method_27_code
def yX11_hire : MethodName := ⟨RX11, "hire", "(IJII)J"⟩
abbrev cX11_parts : ByteArray := prog_1_method_28_code
def yX11_parts : MethodName := ⟨RX11, "parts", "(III)I"⟩
abbrev cX11_months : ByteArray := prog_1_method_29_code
def yX11_months : MethodName := ⟨RX11, "months", "(III)I"⟩
abbrev cX11_note : ByteArray := prog_1_method_30_code
def yX11_note : MethodName := ⟨RX11, "note", "()I"⟩
abbrev cX11_says : ByteArray := prog_1_method_31_code
def yX11_says : MethodName := ⟨RX11, "says", "(III)Z"⟩
abbrev cX11_canBeSaid : ByteArray := prog_1_method_32_code
def yX11_canBeSaid : MethodName := ⟨RX11, "canBeSaid", "(IIII)Z"⟩
abbrev cX11_undo : ByteArray := prog_1_method_33_code
def yX11_undo : MethodName := ⟨RX11, "undo", "()I"⟩
abbrev cX11_alone : ByteArray := prog_1_method_34_code
def yX11_alone : MethodName := ⟨RX11, "alone", "(II)I"⟩
abbrev cX11_fits : ByteArray := prog_1_method_35_code
def yX11_fits : MethodName := ⟨RX11, "fits", "(II)I"⟩
abbrev cX11_gap : ByteArray := prog_1_method_36_code
def yX11_gap : MethodName := ⟨RX11, "gap", "()I"⟩
abbrev cX11_told : ByteArray := prog_1_method_37_code
def yX11_told : MethodName := ⟨RX11, "told", "(II)I"⟩
abbrev cX11_judged : ByteArray := prog_1_method_38_code
def yX11_judged : MethodName := ⟨RX11, "judged", "()I"⟩
abbrev cX11_canBeTold : ByteArray := prog_1_method_39_code
def yX11_canBeTold : MethodName := ⟨RX11, "canBeTold", "(I)Z"⟩
abbrev cX11_forget : ByteArray := prog_1_method_40_code
def yX11_forget : MethodName := ⟨RX11, "forget", "()I"⟩
abbrev cX11_keep : ByteArray := prog_1_method_41_code
def yX11_keep : MethodName := ⟨RX11, "keep", "()I"⟩
abbrev cX11_back : ByteArray := prog_1_method_42_code
def yX11_back : MethodName := ⟨RX11, "back", "()I"⟩
abbrev cX11_size : ByteArray := prog_1_method_43_code
def yX11_size : MethodName := ⟨RX11, "size", "(I)I"⟩
abbrev cX11_isCount : ByteArray := prog_1_method_44_code
def yX11_isCount : MethodName := ⟨RX11, "isCount", "(J)Z"⟩
abbrev cX11_cut : ByteArray := prog_1_method_45_code
def yX11_cut : MethodName := ⟨RX11, "cut", "(JJ)J"⟩
def RX12 : String := "LongYearsModel"
def TX12 : u_T := fun k => match k with
  | 0 => ("LongYearsModel", "tape", "[I", true)
  | 1 => ("LongYearsModel", "tapeSize", "I", false)
  | 2 => ("LongYearsModel", "thrown", "I", false)
  | 3 => ("LongYearsModel", "words", "[I", true)
  | 4 => ("LongYearsModel", "fault", "I", false)
  | 5 => ("LongYearsModel", "faultPlace", "I", false)
  | 6 => ("LongYearsModel", "stop", "I", false)
  | 7 => ("LongYearsModel", "next", "I", false)
  | 8 => ("LongYearsModel", "kind", "I", false)
  | 9 => ("LongYearsModel", "which", "I", false)
  | 10 => ("LongYearsModel", "at", "I", false)
  | 11 => ("LongYearsModel", "got", "I", false)
  | 12 => ("LongYearsModel", "lands", "I", false)
  | 13 => ("LongYearsModel", "feasts", "I", false)
  | 14 => ("LongYearsModel", "people", "I", false)
  | 15 => ("LongYearsModel", "deeds", "I", false)
  | 16 => ("LongYearsModel", "notes", "I", false)
  | 17 => ("LongYearsModel", "knots", "I", false)
  | 18 => ("LongYearsModel", "landsRead", "I", false)
  | 19 => ("LongYearsModel", "feastsRead", "I", false)
  | 20 => ("LongYearsModel", "peopleRead", "I", false)
  | 21 => ("LongYearsModel", "deedsRead", "I", false)
  | 22 => ("LongYearsModel", "notesRead", "I", false)
  | 23 => ("LongYearsModel", "knotsRead", "I", false)
  | 24 => ("LongYearsModel", "sky", "[I", true)
  | 25 => ("LongYearsModel", "weekTold", "Z", false)
  | 26 => ("LongYearsModel", "moonTold", "Z", false)
  | 27 => ("LongYearsModel", "sunTold", "Z", false)
  | 28 => ("LongYearsModel", "landName", "[I", true)
  | 29 => ("LongYearsModel", "landHas", "[I", true)
  | 30 => ("LongYearsModel", "feastName", "[I", true)
  | 31 => ("LongYearsModel", "first", "[I", true)
  | 32 => ("LongYearsModel", "last", "[I", true)
  | 33 => ("LongYearsModel", "personName", "[I", true)
  | 34 => ("LongYearsModel", "born", "[J", true)
  | 35 => ("LongYearsModel", "died", "[J", true)
  | 36 => ("LongYearsModel", "deedName", "[I", true)
  | 37 => ("LongYearsModel", "deedOn", "[J", true)
  | 38 => ("LongYearsModel", "deedHas", "[I", true)
  | 39 => ("LongYearsModel", "noteName", "[I", true)
  | 40 => ("LongYearsModel", "noteHas", "[I", true)
  | 41 => ("LongYearsModel", "knot", "[I", true)
  | 42 => ("LongYearsModel", "part", "[I", true)
  | 43 => ("LongYearsModel", "other", "[I", true)
  | 44 => ("LongYearsModel", "gotCount", "J", false)
  | 45 => ("LongYearsModel", "wait", "[I", true)
  | 46 => ("LongYearsModel", "held", "[I", true)
  | 47 => ("LongYearsModel", "waits", "I", false)
  | 48 => ("LongYearsModel", "helds", "I", false)
  | 49 => ("LongYearsModel", "brackets", "I", false)
  | 50 => ("LongYearsModel", "counted", "I", false)
  | 51 => ("LongYearsModel", "wants", "Z", false)
  | 52 => ("LongYearsModel", "mayNot", "Z", false)
  | 53 => ("LongYearsModel", "gotYear", "J", false)
  | 54 => ("LongYearsModel", "gotDay", "J", false)
  | 55 => ("LongYearsModel", "names", "[J", true)
  | 56 => ("LongYearsModel", "value", "[J", true)
  | 57 => ("LongYearsModel", "isError", "Z", false)
  | 58 => ("LongYearsModel", "named1", "I", false)
  | 59 => ("LongYearsModel", "undos", "I", false)
  | 60 => ("LongYearsModel", "undo", "[I", true)
  | 61 => ("LongYearsModel", "can", "[Z", true)
  | 62 => ("LongYearsModel", "manyGot", "I", false)
  | 63 => ("LongYearsModel", "firstGot", "I", false)
  | 64 => ("LongYearsModel", "lastGot", "I", false)
  | 65 => ("LongYearsModel", "root", "[I", true)
  | 66 => ("LongYearsModel", "off", "[I", true)
  | 67 => ("LongYearsModel", "tolds", "I", false)
  | 68 => ("LongYearsModel", "toldNote", "[I", true)
  | 69 => ("LongYearsModel", "toldCount", "[I", true)
  | 70 => ("LongYearsModel", "hasImage", "Z", false)
  | 71 => ("LongYearsModel", "keptNotes", "I", false)
  | 72 => ("LongYearsModel", "keptTolds", "I", false)
  | 73 => ("LongYearsModel", "keptHas", "[I", true)
  | 74 => ("LongYearsModel", "keptNote", "[I", true)
  | _ => ("LongYearsModel", "keptCount", "[I", true)
def tyX12 : Nat → FieldType := fun k => match k with
  | 0 => .array .int
  | 1 => .int
  | 2 => .int
  | 3 => .array .int
  | 4 => .int
  | 5 => .int
  | 6 => .int
  | 7 => .int
  | 8 => .int
  | 9 => .int
  | 10 => .int
  | 11 => .int
  | 12 => .int
  | 13 => .int
  | 14 => .int
  | 15 => .int
  | 16 => .int
  | 17 => .int
  | 18 => .int
  | 19 => .int
  | 20 => .int
  | 21 => .int
  | 22 => .int
  | 23 => .int
  | 24 => .array .int
  | 25 => .boolean
  | 26 => .boolean
  | 27 => .boolean
  | 28 => .array .int
  | 29 => .array .int
  | 30 => .array .int
  | 31 => .array .int
  | 32 => .array .int
  | 33 => .array .int
  | 34 => .array .long
  | 35 => .array .long
  | 36 => .array .int
  | 37 => .array .long
  | 38 => .array .int
  | 39 => .array .int
  | 40 => .array .int
  | 41 => .array .int
  | 42 => .array .int
  | 43 => .array .int
  | 44 => .long
  | 45 => .array .int
  | 46 => .array .int
  | 47 => .int
  | 48 => .int
  | 49 => .int
  | 50 => .int
  | 51 => .boolean
  | 52 => .boolean
  | 53 => .long
  | 54 => .long
  | 55 => .array .long
  | 56 => .array .long
  | 57 => .boolean
  | 58 => .int
  | 59 => .int
  | 60 => .array .int
  | 61 => .array .boolean
  | 62 => .int
  | 63 => .int
  | 64 => .int
  | 65 => .array .int
  | 66 => .array .int
  | 67 => .int
  | 68 => .array .int
  | 69 => .array .int
  | 70 => .boolean
  | 71 => .int
  | 72 => .int
  | 73 => .array .int
  | 74 => .array .int
  | _ => .array .int
abbrev wsX120 : List Cond := u_ws RX12 TX12 76
theorem nmX12 : ∀ a, a < 76 → ∀ b, b < 76 → a ≠ b → (TX12 a).2.1 ≠ (TX12 b).2.1 := by decide +kernel
theorem tyX12_ok : ∀ k, k < 76 → parseFieldDescriptor (TX12 k).2.2.1 = some (tyX12 k) := by decide +kernel
abbrev cX12_init : ByteArray := prog_14_method_1_code
def yX12_init : MethodName := ⟨RX12, "<init>", "()V"⟩
abbrev cX12_feed : ByteArray := prog_14_method_3_code
def yX12_feed : MethodName := ⟨RX12, "feed", "(IIIII)I"⟩
abbrev cX12_isIn : ByteArray := prog_14_method_4_code
def yX12_isIn : MethodName := ⟨RX12, "isIn", "(III)Z"⟩
abbrev cX12_isOf : ByteArray := prog_14_method_5_code
def yX12_isOf : MethodName := ⟨RX12, "isOf", "(II)Z"⟩
abbrev cX12_isCount : ByteArray := prog_14_method_6_code
def yX12_isCount : MethodName := ⟨RX12, "isCount", "(J)Z"⟩
abbrev cX12_wrong : ByteArray := prog_14_method_7_code
def yX12_wrong : MethodName := ⟨RX12, "wrong", "(I)Z"⟩
abbrev cX12_wordAt : ByteArray := prog_14_method_8_code
def yX12_wordAt : MethodName := ⟨RX12, "wordAt", "(II)I"⟩
abbrev cX12_isSmall : ByteArray := prog_14_method_9_code
def yX12_isSmall : MethodName := ⟨RX12, "isSmall", "(I)Z"⟩
abbrev cX12_isDigit : ByteArray := prog_14_method_10_code
def yX12_isDigit : MethodName := ⟨RX12, "isDigit", "(I)Z"⟩
abbrev cX12_token : ByteArray := prog_14_method_11_code
def yX12_token : MethodName := ⟨RX12, "token", "()V"⟩
abbrev cX12_signToken : ByteArray := prog_14_method_12_code
def yX12_signToken : MethodName := ⟨RX12, "signToken", "()V"⟩
abbrev cX12_packed : ByteArray := prog_14_method_13_code
def yX12_packed : MethodName := ⟨RX12, "packed", "(II)I"⟩
abbrev cX12_isKey : ByteArray := prog_14_method_14_code
def yX12_isKey : MethodName := ⟨RX12, "isKey", "(I)Z"⟩
abbrev cX12_isSign : ByteArray := prog_14_method_15_code
def yX12_isSign : MethodName := ⟨RX12, "isSign", "(I)Z"⟩
abbrev cX12_number : ByteArray := prog_14_method_16_code
def yX12_number : MethodName := ⟨RX12, "number", "(II)Z"⟩
abbrev cX12_signed : ByteArray := prog_14_method_17_code
def yX12_signed : MethodName := ⟨RX12, "signed", "(I)Z"⟩
abbrev cX12_keyRead : ByteArray := prog_14_method_18_code
def yX12_keyRead : MethodName := ⟨RX12, "keyRead", "(I)Z"⟩
abbrev cX12_plain : ByteArray := prog_14_method_19_code
def yX12_plain : MethodName := ⟨RX12, "plain", "()V"⟩
abbrev cX12_copies : ByteArray := prog_14_method_20_code
def yX12_copies : MethodName := ⟨RX12, "copies", "([II)V"⟩
abbrev cX12_copiesLong : ByteArray := prog_14_method_21_code
def yX12_copiesLong : MethodName := ⟨RX12, "copiesLong", "([JI)V"⟩
abbrev cX12_keepText : ByteArray := prog_14_method_22_code
def yX12_keepText : MethodName := ⟨RX12, "keepText", "()V"⟩
abbrev cX12_find : ByteArray := prog_14_method_23_code
def yX12_find : MethodName := ⟨RX12, "find", "([IIII)I"⟩
abbrev cX12_newName : ByteArray := prog_14_method_24_code
def yX12_newName : MethodName := ⟨RX12, "newName", "([III)Z"⟩
abbrev cX12_oldName : ByteArray := prog_14_method_25_code
def yX12_oldName : MethodName := ⟨RX12, "oldName", "([III)Z"⟩
abbrev cX12_landLine : ByteArray := prog_14_method_26_code
def yX12_landLine : MethodName := ⟨RX12, "landLine", "()Z"⟩
abbrev cX12_weekLine : ByteArray := prog_14_method_27_code
def yX12_weekLine : MethodName := ⟨RX12, "weekLine", "()Z"⟩
abbrev cX12_roundRead : ByteArray := prog_14_method_28_code
def yX12_roundRead : MethodName := ⟨RX12, "roundRead", "(I)Z"⟩
abbrev cX12_moonLine : ByteArray := prog_14_method_29_code
def yX12_moonLine : MethodName := ⟨RX12, "moonLine", "()Z"⟩
abbrev cX12_sunLine : ByteArray := prog_14_method_30_code
def yX12_sunLine : MethodName := ⟨RX12, "sunLine", "()Z"⟩
abbrev cX12_feastLine : ByteArray := prog_14_method_31_code
def yX12_feastLine : MethodName := ⟨RX12, "feastLine", "()Z"⟩
abbrev cX12_dateRead : ByteArray := prog_14_method_32_code
def yX12_dateRead : MethodName := ⟨RX12, "dateRead", "(J)Z"⟩
abbrev cX12_personLine : ByteArray := prog_14_method_33_code
def yX12_personLine : MethodName := ⟨RX12, "personLine", "()Z"⟩
abbrev cX12_deedLine : ByteArray := prog_14_method_34_code
def yX12_deedLine : MethodName := ⟨RX12, "deedLine", "()Z"⟩
abbrev cX12_noteWord : ByteArray := prog_14_method_35_code
def yX12_noteWord : MethodName := ⟨RX12, "noteWord", "()I"⟩
abbrev cX12_noteLine : ByteArray := prog_14_method_36_code
def yX12_noteLine : MethodName := ⟨RX12, "noteLine", "()Z"⟩
abbrev cX12_saysRead : ByteArray := prog_14_method_37_code
def yX12_saysRead : MethodName := ⟨RX12, "saysRead", "(II)Z"⟩
abbrev cX12_lineRead : ByteArray := prog_14_method_38_code
def yX12_lineRead : MethodName := ⟨RX12, "lineRead", "()Z"⟩
abbrev cX12_text : ByteArray := prog_14_method_39_code
def yX12_text : MethodName := ⟨RX12, "text", "(I)I"⟩
abbrev cX12_fault : ByteArray := prog_14_method_40_code
def yX12_fault : MethodName := ⟨RX12, "fault", "(I)I"⟩
abbrev cX12_named : ByteArray := prog_14_method_41_code
def yX12_named : MethodName := ⟨RX12, "named", "(II)I"⟩
abbrev cX12_rank : ByteArray := prog_14_method_42_code
def yX12_rank : MethodName := ⟨RX12, "rank", "(I)I"⟩
abbrev cX12_grown : ByteArray := prog_14_method_43_code
def yX12_grown : MethodName := ⟨RX12, "grown", "(III)V"⟩
abbrev cX12_dropHeld : ByteArray := prog_14_method_44_code
def yX12_dropHeld : MethodName := ⟨RX12, "dropHeld", "()I"⟩
abbrev cX12_bind : ByteArray := prog_14_method_45_code
def yX12_bind : MethodName := ⟨RX12, "bind", "(I)V"⟩
abbrev cX12_isCounted : ByteArray := prog_14_method_46_code
def yX12_isCounted : MethodName := ⟨RX12, "isCounted", "()Z"⟩
abbrev cX12_waitsFor : ByteArray := prog_14_method_47_code
def yX12_waitsFor : MethodName := ⟨RX12, "waitsFor", "(I)V"⟩
abbrev cX12_nameMet : ByteArray := prog_14_method_48_code
def yX12_nameMet : MethodName := ⟨RX12, "nameMet", "()I"⟩
abbrev cX12_leafRead : ByteArray := prog_14_method_49_code
def yX12_leafRead : MethodName := ⟨RX12, "leafRead", "()Z"⟩
abbrev cX12_signs : ByteArray := prog_14_method_50_code
def yX12_signs : MethodName := ⟨RX12, "signs", "()Z"⟩
abbrev cX12_sumRead : ByteArray := prog_14_method_51_code
def yX12_sumRead : MethodName := ⟨RX12, "sumRead", "()Z"⟩
abbrev cX12_lengthOf : ByteArray := prog_14_method_52_code
def yX12_lengthOf : MethodName := ⟨RX12, "lengthOf", "(IJ)J"⟩
abbrev cX12_isYear : ByteArray := prog_14_method_53_code
def yX12_isYear : MethodName := ⟨RX12, "isYear", "(IJ)Z"⟩
abbrev cX12_beginOf : ByteArray := prog_14_method_54_code
def yX12_beginOf : MethodName := ⟨RX12, "beginOf", "(IJ)J"⟩
abbrev cX12_endYear : ByteArray := prog_14_method_55_code
def yX12_endYear : MethodName := ⟨RX12, "endYear", "(I)J"⟩
abbrev cX12_countOf : ByteArray := prog_14_method_56_code
def yX12_countOf : MethodName := ⟨RX12, "countOf", "(IJJ)J"⟩
abbrev cX12_date1 : ByteArray := prog_14_method_57_code
def yX12_date1 : MethodName := ⟨RX12, "date1", "(IJ)Z"⟩
abbrev cX12_isLand : ByteArray := prog_14_method_58_code
def yX12_isLand : MethodName := ⟨RX12, "isLand", "(I)Z"⟩
abbrev cX12_isAsked : ByteArray := prog_14_method_59_code
def yX12_isAsked : MethodName := ⟨RX12, "isAsked", "(IJ)Z"⟩
abbrev cX12_fails : ByteArray := prog_14_method_60_code
def yX12_fails : MethodName := ⟨RX12, "fails", "(I)I"⟩
abbrev cX12_look : ByteArray := prog_14_method_61_code
def yX12_look : MethodName := ⟨RX12, "look", "(II)I"⟩
abbrev cX12_length : ByteArray := prog_14_method_62_code
def yX12_length : MethodName := ⟨RX12, "length", "(II)J"⟩
abbrev cX12_date : ByteArray := prog_14_method_63_code
def yX12_date : MethodName := ⟨RX12, "date", "(IJI)J"⟩
abbrev cX12_count : ByteArray := prog_14_method_64_code
def yX12_count : MethodName := ⟨RX12, "count", "(IIJ)J"⟩
abbrev cX12_roundOf : ByteArray := prog_14_method_65_code
def yX12_roundOf : MethodName := ⟨RX12, "roundOf", "(JI)I"⟩
abbrev cX12_round : ByteArray := prog_14_method_66_code
def yX12_round : MethodName := ⟨RX12, "round", "(JI)I"⟩
abbrev cX12_bounded : ByteArray := prog_14_method_67_code
def yX12_bounded : MethodName := ⟨RX12, "bounded", "(J)J"⟩
abbrev cX12_compares : ByteArray := prog_14_method_68_code
def yX12_compares : MethodName := ⟨RX12, "compares", "(IJJ)Z"⟩
abbrev cX12_times : ByteArray := prog_14_method_69_code
def yX12_times : MethodName := ⟨RX12, "times", "(JJ)J"⟩
abbrev cX12_valueOf : ByteArray := prog_14_method_70_code
def yX12_valueOf : MethodName := ⟨RX12, "valueOf", "(I)J"⟩
abbrev cX12_sumOf : ByteArray := prog_14_method_71_code
def yX12_sumOf : MethodName := ⟨RX12, "sumOf", "(IJ)J"⟩
abbrev cX12_isFeast : ByteArray := prog_14_method_72_code
def yX12_isFeast : MethodName := ⟨RX12, "isFeast", "(I)Z"⟩
abbrev cX12_feast : ByteArray := prog_14_method_73_code
def yX12_feast : MethodName := ⟨RX12, "feast", "(IJ)I"⟩
abbrev cX12_festiveOf : ByteArray := prog_14_method_74_code
def yX12_festiveOf : MethodName := ⟨RX12, "festiveOf", "(IJ)J"⟩
abbrev cX12_festive : ByteArray := prog_14_method_75_code
def yX12_festive : MethodName := ⟨RX12, "festive", "(IJ)J"⟩
abbrev cX12_rule : ByteArray := prog_14_method_76_code
def yX12_rule : MethodName := ⟨RX12, "rule", "(IJ)J"⟩
abbrev cX12_isPerson : ByteArray := prog_14_method_77_code
def yX12_isPerson : MethodName := ⟨RX12, "isPerson", "(I)Z"⟩
abbrev cX12_life : ByteArray := prog_14_method_78_code
def yX12_life : MethodName := ⟨RX12, "life", "(II)J"⟩
abbrev cX12_age : ByteArray := prog_14_method_79_code
def yX12_age : MethodName := ⟨RX12, "age", "(IJI)J"⟩
abbrev cX12_elder : ByteArray := prog_14_method_80_code
def yX12_elder : MethodName := ⟨RX12, "elder", "(II)I"⟩
abbrev cX12_often : ByteArray := prog_14_method_81_code
def yX12_often : MethodName := ⟨RX12, "often", "(IIIJ)J"⟩
abbrev cX12_floor : ByteArray := prog_14_method_82_code
def yX12_floor : MethodName := ⟨RX12, "floor", "(JJ)J"⟩
abbrev cX12_begins : ByteArray := prog_14_method_83_code
def yX12_begins : MethodName := ⟨RX12, "begins", "(IJ)Z"⟩
abbrev cX12_springsOf : ByteArray := prog_14_method_84_code
def yX12_springsOf : MethodName := ⟨RX12, "springsOf", "(IJ)J"⟩
abbrev cX12_springs : ByteArray := prog_14_method_85_code
def yX12_springs : MethodName := ⟨RX12, "springs", "(II)J"⟩
abbrev cX12_many : ByteArray := prog_14_method_86_code
def yX12_many : MethodName := ⟨RX12, "many", "(III)I"⟩
abbrev cX12_next : ByteArray := prog_14_method_87_code
def yX12_next : MethodName := ⟨RX12, "next", "(JIII)J"⟩
abbrev cX12_alike : ByteArray := prog_14_method_88_code
def yX12_alike : MethodName := ⟨RX12, "alike", "(IIJZ)J"⟩
abbrev cX12_endedBy : ByteArray := prog_14_method_89_code
def yX12_endedBy : MethodName := ⟨RX12, "endedBy", "(IJ)J"⟩
abbrev cX12_yearsLater : ByteArray := prog_14_method_90_code
def yX12_yearsLater : MethodName := ⟨RX12, "yearsLater", "(IJJ)J"⟩
abbrev cX12_dueOf : ByteArray := prog_14_method_91_code
def yX12_dueOf : MethodName := ⟨RX12, "dueOf", "(II)J"⟩
abbrev cX12_deed : ByteArray := prog_14_method_92_code
def yX12_deed : MethodName := ⟨RX12, "deed", "(III)J"⟩
abbrev cX12_isDays : ByteArray := prog_14_method_93_code
def yX12_isDays : MethodName := ⟨RX12, "isDays", "(I)Z"⟩
abbrev cX12_ends : ByteArray := prog_14_method_94_code
def yX12_ends : MethodName := ⟨RX12, "ends", "(IJI)I"⟩
abbrev cX12_hire : ByteArray := prog_14_method_95_code
def yX12_hire : MethodName := ⟨RX12, "hire", "(IJII)J"⟩
abbrev cX12_parts : ByteArray := prog_14_method_96_code
def yX12_parts : MethodName := ⟨RX12, "parts", "(III)I"⟩
abbrev cX12_months : ByteArray := prog_14_method_97_code
def yX12_months : MethodName := ⟨RX12, "months", "(III)I"⟩
abbrev cX12_note : ByteArray := prog_14_method_98_code
def yX12_note : MethodName := ⟨RX12, "note", "()I"⟩
abbrev cX12_canSay : ByteArray := prog_14_method_99_code
def yX12_canSay : MethodName := ⟨RX12, "canSay", "(IIII)Z"⟩
abbrev cX12_says : ByteArray := prog_14_method_100_code
def yX12_says : MethodName := ⟨RX12, "says", "(III)Z"⟩
abbrev cX12_undo : ByteArray := prog_14_method_101_code
def yX12_undo : MethodName := ⟨RX12, "undo", "()I"⟩
abbrev cX12_isNote : ByteArray := prog_14_method_102_code
def yX12_isNote : MethodName := ⟨RX12, "isNote", "(I)Z"⟩
abbrev cX12_canBe : ByteArray := prog_14_method_103_code
def yX12_canBe : MethodName := ⟨RX12, "canBe", "(II)Z"⟩
abbrev cX12_layCan : ByteArray := prog_14_method_104_code
def yX12_layCan : MethodName := ⟨RX12, "layCan", "(I)V"⟩
abbrev cX12_told3 : ByteArray := prog_14_method_105_code
def yX12_told3 : MethodName := ⟨RX12, "told3", "(I)I"⟩
abbrev cX12_alone : ByteArray := prog_14_method_106_code
def yX12_alone : MethodName := ⟨RX12, "alone", "(II)I"⟩
abbrev cX12_layRoots : ByteArray := prog_14_method_107_code
def yX12_layRoots : MethodName := ⟨RX12, "layRoots", "(I)V"⟩
abbrev cX12_allCan : ByteArray := prog_14_method_108_code
def yX12_allCan : MethodName := ⟨RX12, "allCan", "(III)Z"⟩
abbrev cX12_layRoot : ByteArray := prog_14_method_109_code
def yX12_layRoot : MethodName := ⟨RX12, "layRoot", "(IIZ)V"⟩
abbrev cX12_layAllCan : ByteArray := prog_14_method_110_code
def yX12_layAllCan : MethodName := ⟨RX12, "layAllCan", "()V"⟩
abbrev cX12_allNotes : ByteArray := prog_14_method_111_code
def yX12_allNotes : MethodName := ⟨RX12, "allNotes", "()I"⟩
abbrev cX12_fits : ByteArray := prog_14_method_112_code
def yX12_fits : MethodName := ⟨RX12, "fits", "(II)I"⟩
abbrev cX12_isGap : ByteArray := prog_14_method_113_code
def yX12_isGap : MethodName := ⟨RX12, "isGap", "(I)Z"⟩
abbrev cX12_manyOf : ByteArray := prog_14_method_114_code
def yX12_manyOf : MethodName := ⟨RX12, "manyOf", "(I)I"⟩
abbrev cX12_gap : ByteArray := prog_14_method_115_code
def yX12_gap : MethodName := ⟨RX12, "gap", "()I"⟩
abbrev cX12_told : ByteArray := prog_14_method_116_code
def yX12_told : MethodName := ⟨RX12, "told", "(II)I"⟩
abbrev cX12_isSo : ByteArray := prog_14_method_117_code
def yX12_isSo : MethodName := ⟨RX12, "isSo", "(I)Z"⟩
abbrev cX12_judged : ByteArray := prog_14_method_118_code
def yX12_judged : MethodName := ⟨RX12, "judged", "()I"⟩
abbrev cX12_forget : ByteArray := prog_14_method_119_code
def yX12_forget : MethodName := ⟨RX12, "forget", "()I"⟩
abbrev cX12_keep : ByteArray := prog_14_method_120_code
def yX12_keep : MethodName := ⟨RX12, "keep", "()I"⟩
abbrev cX12_back : ByteArray := prog_14_method_121_code
def yX12_back : MethodName := ⟨RX12, "back", "()I"⟩
abbrev cX12_size : ByteArray := prog_14_method_122_code
def yX12_size : MethodName := ⟨RX12, "size", "(I)I"⟩
def RJx145de : String := "java/io/Serializable"
def TJx145de : u_T := fun k => match k with
  | _ => ("", "", "", false)
def tyJx145de : Nat → FieldType := fun k => match k with
  | _ => .int
abbrev wsJx145de0 : List Cond := u_ws RJx145de TJx145de 0
theorem nmJx145de : ∀ a, a < 0 → ∀ b, b < 0 → a ≠ b → (TJx145de a).2.1 ≠ (TJx145de b).2.1 := by decide +kernel
theorem tyJx145de_ok : ∀ k, k < 0 → parseFieldDescriptor (TJx145de k).2.2.1 = some (tyJx145de k) := by decide +kernel
def RJx9f9b0 : String := "java/lang/CharSequence"
def TJx9f9b0 : u_T := fun k => match k with
  | _ => ("", "", "", false)
def tyJx9f9b0 : Nat → FieldType := fun k => match k with
  | _ => .int
abbrev wsJx9f9b00 : List Cond := u_ws RJx9f9b0 TJx9f9b0 0
theorem nmJx9f9b0 : ∀ a, a < 0 → ∀ b, b < 0 → a ≠ b → (TJx9f9b0 a).2.1 ≠ (TJx9f9b0 b).2.1 := by decide +kernel
theorem tyJx9f9b0_ok : ∀ k, k < 0 → parseFieldDescriptor (TJx9f9b0 k).2.2.1 = some (tyJx9f9b0 k) := by decide +kernel
def RJxb160c : String := "java/lang/Comparable"
def TJxb160c : u_T := fun k => match k with
  | _ => ("", "", "", false)
def tyJxb160c : Nat → FieldType := fun k => match k with
  | _ => .int
abbrev wsJxb160c0 : List Cond := u_ws RJxb160c TJxb160c 0
theorem nmJxb160c : ∀ a, a < 0 → ∀ b, b < 0 → a ≠ b → (TJxb160c a).2.1 ≠ (TJxb160c b).2.1 := by decide +kernel
theorem tyJxb160c_ok : ∀ k, k < 0 → parseFieldDescriptor (TJxb160c k).2.2.1 = some (tyJxb160c k) := by decide +kernel
def RJ6 : String := "java/lang/Integer"
def TJ6 : u_T := fun k => match k with
  | _ => ("", "", "", false)
def tyJ6 : Nat → FieldType := fun k => match k with
  | _ => .int
abbrev wsJ60 : List Cond := u_ws RJ6 TJ6 0
theorem nmJ6 : ∀ a, a < 0 → ∀ b, b < 0 → a ≠ b → (TJ6 a).2.1 ≠ (TJ6 b).2.1 := by decide +kernel
theorem tyJ6_ok : ∀ k, k < 0 → parseFieldDescriptor (TJ6 k).2.2.1 = some (tyJ6 k) := by decide +kernel
abbrev cJ6_numberOfLeadingZeros_0f7a4 : ByteArray := prog_21_method_47_code
def yJ6_numberOfLeadingZeros_0f7a4 : MethodName := ⟨RJ6, "numberOfLeadingZeros", "(I)I"⟩
abbrev cJ6_numberOfTrailingZeros_0f7a4 : ByteArray := prog_21_method_48_code
def yJ6_numberOfTrailingZeros_0f7a4 : MethodName := ⟨RJ6, "numberOfTrailingZeros", "(I)I"⟩
abbrev cJ6_bitCount_0f7a4 : ByteArray := prog_21_method_49_code
def yJ6_bitCount_0f7a4 : MethodName := ⟨RJ6, "bitCount", "(I)I"⟩
def RJ13 : String := "java/lang/Long"
def TJ13 : u_T := fun k => match k with
  | _ => ("", "", "", false)
def tyJ13 : Nat → FieldType := fun k => match k with
  | _ => .int
abbrev wsJ130 : List Cond := u_ws RJ13 TJ13 0
theorem nmJ13 : ∀ a, a < 0 → ∀ b, b < 0 → a ≠ b → (TJ13 a).2.1 ≠ (TJ13 b).2.1 := by decide +kernel
theorem tyJ13_ok : ∀ k, k < 0 → parseFieldDescriptor (TJ13 k).2.2.1 = some (tyJ13 k) := by decide +kernel
abbrev cJ13_numberOfLeadingZeros_95d88 : ByteArray := prog_22_method_48_code
def yJ13_numberOfLeadingZeros_95d88 : MethodName := ⟨RJ13, "numberOfLeadingZeros", "(J)I"⟩
abbrev cJ13_numberOfTrailingZeros_95d88 : ByteArray := prog_22_method_49_code
def yJ13_numberOfTrailingZeros_95d88 : MethodName := ⟨RJ13, "numberOfTrailingZeros", "(J)I"⟩
abbrev cJ13_bitCount_95d88 : ByteArray := prog_22_method_50_code
def yJ13_bitCount_95d88 : MethodName := ⟨RJ13, "bitCount", "(J)I"⟩
def RJ9 : String := "java/lang/Math"
def TJ9 : u_T := fun k => match k with
  | _ => ("", "", "", false)
def tyJ9 : Nat → FieldType := fun k => match k with
  | _ => .int
abbrev wsJ90 : List Cond := u_ws RJ9 TJ9 0
theorem nmJ9 : ∀ a, a < 0 → ∀ b, b < 0 → a ≠ b → (TJ9 a).2.1 ≠ (TJ9 b).2.1 := by decide +kernel
theorem tyJ9_ok : ∀ k, k < 0 → parseFieldDescriptor (TJ9 k).2.2.1 = some (tyJ9 k) := by decide +kernel
abbrev cJ9_max_7cf53 : ByteArray := prog_23_method_65_code
def yJ9_max_7cf53 : MethodName := ⟨RJ9, "max", "(II)I"⟩
abbrev cJ9_max_f86c9 : ByteArray := prog_23_method_66_code
def yJ9_max_f86c9 : MethodName := ⟨RJ9, "max", "(JJ)J"⟩
abbrev cJ9_min_7cf53 : ByteArray := prog_23_method_69_code
def yJ9_min_7cf53 : MethodName := ⟨RJ9, "min", "(II)I"⟩
abbrev cJ9_min_f86c9 : ByteArray := prog_23_method_70_code
def yJ9_min_f86c9 : MethodName := ⟨RJ9, "min", "(JJ)J"⟩
def RJxd2413 : String := "java/lang/Number"
def TJxd2413 : u_T := fun k => match k with
  | _ => ("", "", "", false)
def tyJxd2413 : Nat → FieldType := fun k => match k with
  | _ => .int
abbrev wsJxd24130 : List Cond := u_ws RJxd2413 TJxd2413 0
theorem nmJxd2413 : ∀ a, a < 0 → ∀ b, b < 0 → a ≠ b → (TJxd2413 a).2.1 ≠ (TJxd2413 b).2.1 := by decide +kernel
theorem tyJxd2413_ok : ∀ k, k < 0 → parseFieldDescriptor (TJxd2413 k).2.2.1 = some (tyJxd2413 k) := by decide +kernel
def RJ0 : String := "java/lang/String"
def TJ0 : u_T := fun k => match k with
  | _ => ("", "", "", false)
def tyJ0 : Nat → FieldType := fun k => match k with
  | _ => .int
abbrev wsJ00 : List Cond := u_ws RJ0 TJ0 0
theorem nmJ0 : ∀ a, a < 0 → ∀ b, b < 0 → a ≠ b → (TJ0 a).2.1 ≠ (TJ0 b).2.1 := by decide +kernel
theorem tyJ0_ok : ∀ k, k < 0 → parseFieldDescriptor (TJ0 k).2.2.1 = some (tyJ0 k) := by decide +kernel
abbrev cJ0_length_8abf5 : ByteArray := prog_26_method_54_code
def yJ0_length_8abf5 : MethodName := ⟨RJ0, "length", "()I"⟩
abbrev cJ0_charAt_5068e : ByteArray := prog_26_method_56_code
def yJ0_charAt_5068e : MethodName := ⟨RJ0, "charAt", "(I)C"⟩
abbrev cJ0_coder_7d493 : ByteArray := prog_26_method_152_code
def yJ0_coder_7d493 : MethodName := ⟨RJ0, "coder", "()B"⟩
abbrev cJ0_isLatin1_aae02 : ByteArray := prog_26_method_154_code
def yJ0_isLatin1_aae02 : MethodName := ⟨RJ0, "isLatin1", "()Z"⟩
abbrev cJ0_checkIndex_df160 : ByteArray := prog_26_method_155_code
def yJ0_checkIndex_df160 : MethodName := ⟨RJ0, "checkIndex", "(II)V"⟩
def RJ1 : String := "java/lang/StringLatin1"
def TJ1 : u_T := fun k => match k with
  | _ => ("", "", "", false)
def tyJ1 : Nat → FieldType := fun k => match k with
  | _ => .int
abbrev wsJ10 : List Cond := u_ws RJ1 TJ1 0
theorem nmJ1 : ∀ a, a < 0 → ∀ b, b < 0 → a ≠ b → (TJ1 a).2.1 ≠ (TJ1 b).2.1 := by decide +kernel
theorem tyJ1_ok : ∀ k, k < 0 → parseFieldDescriptor (TJ1 k).2.2.1 = some (tyJ1 k) := by decide +kernel
abbrev cJ1_charAt_3b067 : ByteArray := prog_27_method_2_code
def yJ1_charAt_3b067 : MethodName := ⟨RJ1, "charAt", "([BI)C"⟩
def RJ2 : String := "java/lang/StringUTF16"
def TJ2 : u_T := fun k => match k with
  | _ => ("", "", "", false)
def tyJ2 : Nat → FieldType := fun k => match k with
  | _ => .int
abbrev wsJ20 : List Cond := u_ws RJ2 TJ2 0
theorem nmJ2 : ∀ a, a < 0 → ∀ b, b < 0 → a ≠ b → (TJ2 a).2.1 ≠ (TJ2 b).2.1 := by decide +kernel
theorem tyJ2_ok : ∀ k, k < 0 → parseFieldDescriptor (TJ2 k).2.2.1 = some (tyJ2 k) := by decide +kernel
abbrev cJ2_getChar_3b067 : ByteArray := prog_28_method_5_code
def yJ2_getChar_3b067 : MethodName := ⟨RJ2, "getChar", "([BI)C"⟩
abbrev cJ2_length_9d52b : ByteArray := prog_28_method_6_code
def yJ2_length_9d52b : MethodName := ⟨RJ2, "length", "([B)I"⟩
abbrev cJ2_charAt_3b067 : ByteArray := prog_28_method_83_code
def yJ2_charAt_3b067 : MethodName := ⟨RJ2, "charAt", "([BI)C"⟩
abbrev cJ2_checkIndex_2214a : ByteArray := prog_28_method_91_code
def yJ2_checkIndex_2214a : MethodName := ⟨RJ2, "checkIndex", "(I[B)V"⟩
def RJ10 : String := "java/lang/System"
def TJ10 : u_T := fun k => match k with
  | _ => ("", "", "", false)
def tyJ10 : Nat → FieldType := fun k => match k with
  | _ => .int
abbrev wsJ100 : List Cond := u_ws RJ10 TJ10 0
theorem nmJ10 : ∀ a, a < 0 → ∀ b, b < 0 → a ≠ b → (TJ10 a).2.1 ≠ (TJ10 b).2.1 := by decide +kernel
theorem tyJ10_ok : ∀ k, k < 0 → parseFieldDescriptor (TJ10 k).2.2.1 = some (tyJ10 k) := by decide +kernel
def RJxfd54e : String := "java/lang/constant/Constable"
def TJxfd54e : u_T := fun k => match k with
  | _ => ("", "", "", false)
def tyJxfd54e : Nat → FieldType := fun k => match k with
  | _ => .int
abbrev wsJxfd54e0 : List Cond := u_ws RJxfd54e TJxfd54e 0
theorem nmJxfd54e : ∀ a, a < 0 → ∀ b, b < 0 → a ≠ b → (TJxfd54e a).2.1 ≠ (TJxfd54e b).2.1 := by decide +kernel
theorem tyJxfd54e_ok : ∀ k, k < 0 → parseFieldDescriptor (TJxfd54e k).2.2.1 = some (tyJxfd54e k) := by decide +kernel
def RJx3cf43 : String := "java/lang/constant/ConstantDesc"
def TJx3cf43 : u_T := fun k => match k with
  | _ => ("", "", "", false)
def tyJx3cf43 : Nat → FieldType := fun k => match k with
  | _ => .int
abbrev wsJx3cf430 : List Cond := u_ws RJx3cf43 TJx3cf43 0
theorem nmJx3cf43 : ∀ a, a < 0 → ∀ b, b < 0 → a ≠ b → (TJx3cf43 a).2.1 ≠ (TJx3cf43 b).2.1 := by decide +kernel
theorem tyJx3cf43_ok : ∀ k, k < 0 → parseFieldDescriptor (TJx3cf43 k).2.2.1 = some (tyJx3cf43 k) := by decide +kernel
def RJ7 : String := "java/util/Arrays"
def TJ7 : u_T := fun k => match k with
  | _ => ("", "", "", false)
def tyJ7 : Nat → FieldType := fun k => match k with
  | _ => .int
abbrev wsJ70 : List Cond := u_ws RJ7 TJ7 0
theorem nmJ7 : ∀ a, a < 0 → ∀ b, b < 0 → a ≠ b → (TJ7 a).2.1 ≠ (TJ7 b).2.1 := by decide +kernel
theorem tyJ7_ok : ∀ k, k < 0 → parseFieldDescriptor (TJ7 k).2.2.1 = some (tyJ7 k) := by decide +kernel
abbrev cJ7_fill_d0a16 : ByteArray := prog_33_method_101_code
def yJ7_fill_d0a16 : MethodName := ⟨RJ7, "fill", "([JJ)V"⟩
abbrev cJ7_fill_53178 : ByteArray := prog_33_method_103_code
def yJ7_fill_53178 : MethodName := ⟨RJ7, "fill", "([II)V"⟩
def RJ3 : String := "jdk/internal/util/Preconditions"
def TJ3 : u_T := fun k => match k with
  | _ => ("", "", "", false)
def tyJ3 : Nat → FieldType := fun k => match k with
  | _ => .int
abbrev wsJ30 : List Cond := u_ws RJ3 TJ3 0
theorem nmJ3 : ∀ a, a < 0 → ∀ b, b < 0 → a ≠ b → (TJ3 a).2.1 ≠ (TJ3 b).2.1 := by decide +kernel
theorem tyJ3_ok : ∀ k, k < 0 → parseFieldDescriptor (TJ3 k).2.2.1 = some (tyJ3 k) := by decide +kernel
abbrev cJ3_checkIndex_8e157 : ByteArray := prog_35_method_11_code
def yJ3_checkIndex_8e157 : MethodName := ⟨RJ3, "checkIndex", "(IILjava/util/function/BiFunction;)I"⟩
def RL : String := "LongYearsLaw"
abbrev cL_look : ByteArray := method_3_code
def yL_look : MethodName := ⟨RL, "look", "(LLongYears;II[J)I"⟩
abbrev cL_law : ByteArray := code
def yL_law : MethodName := ⟨RL, "law", "([I)Z"⟩
theorem hdc_0 : RX1 ≠ "java/lang/invoke/MethodHandle" ∧ RX1 ≠ "java/lang/invoke/VarHandle" := ⟨by decide +kernel, by decide +kernel⟩
theorem hdc_1 : RX8 ≠ "java/lang/invoke/MethodHandle" ∧ RX8 ≠ "java/lang/invoke/VarHandle" := ⟨by decide +kernel, by decide +kernel⟩
theorem hdc_2 : RX9 ≠ "java/lang/invoke/MethodHandle" ∧ RX9 ≠ "java/lang/invoke/VarHandle" := ⟨by decide +kernel, by decide +kernel⟩
theorem hdc_3 : RX6 ≠ "java/lang/invoke/MethodHandle" ∧ RX6 ≠ "java/lang/invoke/VarHandle" := ⟨by decide +kernel, by decide +kernel⟩
theorem hdc_4 : RX3 ≠ "java/lang/invoke/MethodHandle" ∧ RX3 ≠ "java/lang/invoke/VarHandle" := ⟨by decide +kernel, by decide +kernel⟩
theorem hdc_5 : RJ7 ≠ "java/lang/invoke/MethodHandle" ∧ RJ7 ≠ "java/lang/invoke/VarHandle" := ⟨by decide +kernel, by decide +kernel⟩
theorem hdc_6 : RX0 ≠ "java/lang/invoke/MethodHandle" ∧ RX0 ≠ "java/lang/invoke/VarHandle" := ⟨by decide +kernel, by decide +kernel⟩
theorem hdc_7 : RX4 ≠ "java/lang/invoke/MethodHandle" ∧ RX4 ≠ "java/lang/invoke/VarHandle" := ⟨by decide +kernel, by decide +kernel⟩
theorem hdc_8 : RX11 ≠ "java/lang/invoke/MethodHandle" ∧ RX11 ≠ "java/lang/invoke/VarHandle" := ⟨by decide +kernel, by decide +kernel⟩
theorem hdc_9 : RX10 ≠ "java/lang/invoke/MethodHandle" ∧ RX10 ≠ "java/lang/invoke/VarHandle" := ⟨by decide +kernel, by decide +kernel⟩
theorem hdc_10 : RX5 ≠ "java/lang/invoke/MethodHandle" ∧ RX5 ≠ "java/lang/invoke/VarHandle" := ⟨by decide +kernel, by decide +kernel⟩
theorem hdc_11 : RX2 ≠ "java/lang/invoke/MethodHandle" ∧ RX2 ≠ "java/lang/invoke/VarHandle" := ⟨by decide +kernel, by decide +kernel⟩
theorem hdc_12 : RJ6 ≠ "java/lang/invoke/MethodHandle" ∧ RJ6 ≠ "java/lang/invoke/VarHandle" := ⟨by decide +kernel, by decide +kernel⟩
theorem hdc_13 : RJ13 ≠ "java/lang/invoke/MethodHandle" ∧ RJ13 ≠ "java/lang/invoke/VarHandle" := ⟨by decide +kernel, by decide +kernel⟩
theorem hdc_14 : RX12 ≠ "java/lang/invoke/MethodHandle" ∧ RX12 ≠ "java/lang/invoke/VarHandle" := ⟨by decide +kernel, by decide +kernel⟩
theorem hdc_15 : RX7 ≠ "java/lang/invoke/MethodHandle" ∧ RX7 ≠ "java/lang/invoke/VarHandle" := ⟨by decide +kernel, by decide +kernel⟩
theorem hdc_16 : RJ0 ≠ "java/lang/invoke/MethodHandle" ∧ RJ0 ≠ "java/lang/invoke/VarHandle" := ⟨by decide +kernel, by decide +kernel⟩
theorem hdc_17 : RJ3 ≠ "java/lang/invoke/MethodHandle" ∧ RJ3 ≠ "java/lang/invoke/VarHandle" := ⟨by decide +kernel, by decide +kernel⟩
theorem hdc_18 : RJ1 ≠ "java/lang/invoke/MethodHandle" ∧ RJ1 ≠ "java/lang/invoke/VarHandle" := ⟨by decide +kernel, by decide +kernel⟩
theorem hdd_0 : (parseMethodDescriptor "(J)J").map (fun d => d.parameters.length) = some 1 := by decide +kernel
theorem hdd_1 : (parseMethodDescriptor "(J)Z").map (fun d => d.parameters.length) = some 1 := by decide +kernel
theorem hdd_2 : (parseMethodDescriptor "(I)I").map (fun d => d.parameters.length) = some 1 := by decide +kernel
theorem hdd_3 : (parseMethodDescriptor "()J").map (fun d => d.parameters.length) = some 0 := by decide +kernel
theorem hdd_4 : (parseMethodDescriptor "(JJ)J").map (fun d => d.parameters.length) = some 2 := by decide +kernel
theorem hdd_5 : (parseMethodDescriptor "(IJJ)Z").map (fun d => d.parameters.length) = some 3 := by decide +kernel
theorem hdd_6 : (parseMethodDescriptor "(J)I").map (fun d => d.parameters.length) = some 1 := by decide +kernel
theorem hdd_7 : (parseMethodDescriptor "(II)I").map (fun d => d.parameters.length) = some 2 := by decide +kernel
theorem hdd_8 : (parseMethodDescriptor "(II)Z").map (fun d => d.parameters.length) = some 2 := by decide +kernel
theorem hdd_9 : (parseMethodDescriptor "(I)V").map (fun d => d.parameters.length) = some 1 := by decide +kernel
theorem hdd_10 : (parseMethodDescriptor "(ILLongYears$Moment;LLongYears$Sky;)J").map (fun d => d.parameters.length) = some 3 := by decide +kernel
theorem hdd_11 : (parseMethodDescriptor "(IJJ)J").map (fun d => d.parameters.length) = some 3 := by decide +kernel
theorem hdd_12 : (parseMethodDescriptor "(ILLongYears$Moment;LLongYears$Sky;)Z").map (fun d => d.parameters.length) = some 3 := by decide +kernel
theorem hdd_13 : (parseMethodDescriptor "()V").map (fun d => d.parameters.length) = some 0 := by decide +kernel
theorem hdd_14 : (parseMethodDescriptor "([II)V").map (fun d => d.parameters.length) = some 2 := by decide +kernel
theorem hdd_15 : (parseMethodDescriptor "(I)LLongYears$Land;").map (fun d => d.parameters.length) = some 1 := by decide +kernel
theorem hdd_16 : (parseMethodDescriptor "(J)V").map (fun d => d.parameters.length) = some 1 := by decide +kernel
theorem hdd_17 : (parseMethodDescriptor "(JJJ)J").map (fun d => d.parameters.length) = some 3 := by decide +kernel
theorem hdd_18 : (parseMethodDescriptor "(LLongYears$Land;J)J").map (fun d => d.parameters.length) = some 2 := by decide +kernel
theorem hdd_19 : (parseMethodDescriptor "(LLongYears$Land;J)V").map (fun d => d.parameters.length) = some 2 := by decide +kernel
theorem hdd_20 : (parseMethodDescriptor "(LLongYears$Moment;LLongYears$Book;)Z").map (fun d => d.parameters.length) = some 2 := by decide +kernel
theorem hdd_21 : (parseMethodDescriptor "(II)V").map (fun d => d.parameters.length) = some 2 := by decide +kernel
theorem hdd_22 : (parseMethodDescriptor "(LLongYears$Notes;)V").map (fun d => d.parameters.length) = some 1 := by decide +kernel
theorem hdd_23 : (parseMethodDescriptor "(LLongYears$Ledger;)V").map (fun d => d.parameters.length) = some 1 := by decide +kernel
theorem hdd_24 : (parseMethodDescriptor "([JI)J").map (fun d => d.parameters.length) = some 2 := by decide +kernel
theorem hdd_25 : (parseMethodDescriptor "(II)J").map (fun d => d.parameters.length) = some 2 := by decide +kernel
theorem hdd_26 : (parseMethodDescriptor "(I)Z").map (fun d => d.parameters.length) = some 1 := by decide +kernel
theorem hdd_27 : (parseMethodDescriptor "(LLongYears$Notes;I)I").map (fun d => d.parameters.length) = some 2 := by decide +kernel
theorem hdd_28 : (parseMethodDescriptor "(III)I").map (fun d => d.parameters.length) = some 3 := by decide +kernel
theorem hdd_29 : (parseMethodDescriptor "([JJ)V").map (fun d => d.parameters.length) = some 2 := by decide +kernel
theorem hdd_30 : (parseMethodDescriptor "(I)J").map (fun d => d.parameters.length) = some 1 := by decide +kernel
theorem hdd_31 : (parseMethodDescriptor "(LLongYears$Notes;I)V").map (fun d => d.parameters.length) = some 2 := by decide +kernel
theorem hdd_32 : (parseMethodDescriptor "()Z").map (fun d => d.parameters.length) = some 0 := by decide +kernel
theorem hdd_33 : (parseMethodDescriptor "([JII)V").map (fun d => d.parameters.length) = some 3 := by decide +kernel
theorem hdd_34 : (parseMethodDescriptor "(ILLongYears$Book;)V").map (fun d => d.parameters.length) = some 2 := by decide +kernel
theorem hdd_35 : (parseMethodDescriptor "(LLongYears$Book;)V").map (fun d => d.parameters.length) = some 1 := by decide +kernel
theorem hdd_36 : (parseMethodDescriptor "(LLongYears$Notes;II)I").map (fun d => d.parameters.length) = some 3 := by decide +kernel
theorem hdd_37 : (parseMethodDescriptor "(LLongYears$Notes;)I").map (fun d => d.parameters.length) = some 1 := by decide +kernel
theorem hdd_38 : (parseMethodDescriptor "(III)Z").map (fun d => d.parameters.length) = some 3 := by decide +kernel
theorem hdd_39 : (parseMethodDescriptor "([IIII)I").map (fun d => d.parameters.length) = some 4 := by decide +kernel
theorem hdd_40 : (parseMethodDescriptor "([JI)V").map (fun d => d.parameters.length) = some 2 := by decide +kernel
theorem hdd_41 : (parseMethodDescriptor "(IJ)J").map (fun d => d.parameters.length) = some 2 := by decide +kernel
theorem hdd_42 : (parseMethodDescriptor "(IJ)Z").map (fun d => d.parameters.length) = some 2 := by decide +kernel
theorem hdd_43 : (parseMethodDescriptor "(JI)I").map (fun d => d.parameters.length) = some 2 := by decide +kernel
theorem hdd_44 : (parseMethodDescriptor "(IIII)Z").map (fun d => d.parameters.length) = some 4 := by decide +kernel
theorem hdd_45 : (parseMethodDescriptor "()I").map (fun d => d.parameters.length) = some 0 := by decide +kernel
theorem hdd_46 : (parseMethodDescriptor "(IIZ)V").map (fun d => d.parameters.length) = some 3 := by decide +kernel
theorem hdd_47 : (parseMethodDescriptor "([III)Z").map (fun d => d.parameters.length) = some 3 := by decide +kernel
theorem hdd_48 : (parseMethodDescriptor "(ZII)V").map (fun d => d.parameters.length) = some 3 := by decide +kernel
theorem hdd_49 : (parseMethodDescriptor "(IIII)V").map (fun d => d.parameters.length) = some 4 := by decide +kernel
theorem hdd_50 : (parseMethodDescriptor "(III)V").map (fun d => d.parameters.length) = some 3 := by decide +kernel
theorem hdd_51 : (parseMethodDescriptor "(JI)J").map (fun d => d.parameters.length) = some 2 := by decide +kernel
theorem hdd_52 : (parseMethodDescriptor "(ILLongYears$Land;)J").map (fun d => d.parameters.length) = some 2 := by decide +kernel
theorem hdd_53 : (parseMethodDescriptor "()B").map (fun d => d.parameters.length) = some 0 := by decide +kernel
theorem hdd_54 : (parseMethodDescriptor "(IILjava/util/function/BiFunction;)I").map (fun d => d.parameters.length) = some 3 := by decide +kernel
theorem hdd_55 : (parseMethodDescriptor "([BI)C").map (fun d => d.parameters.length) = some 2 := by decide +kernel
theorem hdd_56 : (parseMethodDescriptor "(I)C").map (fun d => d.parameters.length) = some 1 := by decide +kernel
theorem hdd_57 : (parseMethodDescriptor "(IIIII)I").map (fun d => d.parameters.length) = some 5 := by decide +kernel
theorem hdd_58 : (parseMethodDescriptor "(IJI)J").map (fun d => d.parameters.length) = some 3 := by decide +kernel
theorem hdd_59 : (parseMethodDescriptor "(IIJ)J").map (fun d => d.parameters.length) = some 3 := by decide +kernel
theorem hdd_60 : (parseMethodDescriptor "(IJ)I").map (fun d => d.parameters.length) = some 2 := by decide +kernel
theorem hdd_61 : (parseMethodDescriptor "(IIIJ)J").map (fun d => d.parameters.length) = some 4 := by decide +kernel
theorem hdd_62 : (parseMethodDescriptor "(JIII)J").map (fun d => d.parameters.length) = some 4 := by decide +kernel
theorem hdd_63 : (parseMethodDescriptor "(III)J").map (fun d => d.parameters.length) = some 3 := by decide +kernel
theorem hdd_64 : (parseMethodDescriptor "(IJI)I").map (fun d => d.parameters.length) = some 3 := by decide +kernel
theorem hdd_65 : (parseMethodDescriptor "(IJII)J").map (fun d => d.parameters.length) = some 4 := by decide +kernel
theorem hdd_66 : (parseMethodDescriptor "(IIJZ)J").map (fun d => d.parameters.length) = some 4 := by decide +kernel
abbrev vwCl : List vw_C := [(RX0, TX0, 12), (RX1, TX1, 3), (RX2, TX2, 3), (RX3, TX3, 9), (RX4, TX4, 5), (RX5, TX5, 6), (RX6, TX6, 4), (RX7, TX7, 9), (RX8, TX8, 5), (RX9, TX9, 7), (RX10, TX10, 5), (RX11, TX11, 13), (RX12, TX12, 76)]
