-- ===== PART A: goes FIRST, ahead of the names: the tables' words, and 'selects' of the private methods out of them =====
/-- a private method of a class that the tables say can be made, by its rows of tables_1 -/
def lw_okq (q : MethodName × Nat) : Prop := (q.1.cls ≠ "java/lang/invoke/MethodHandle" ∧ q.1.cls ≠ "java/lang/invoke/VarHandle") ∧ Cond.instantiable q.1.cls q.2 ∈ tables_1 ∧ Cond.privateMethod q.1 ∈ tables_1 ∧ Cond.instanceMethod q.1 ∈ tables_1
theorem lw_p0 : lw_okq (⟨"BurdenTunes", "record", "()V"⟩, 7) := ⟨⟨by decide +kernel, by decide +kernel⟩, List.mem_of_getElem? (i := 8) (by decide +kernel), List.mem_of_getElem? (i := 175) (by decide +kernel), List.mem_of_getElem? (i := 176) (by decide +kernel)⟩
theorem lw_p1 : lw_okq (⟨"BurdenTunes", "leastCostOf", "(II)I"⟩, 7) := ⟨⟨by decide +kernel, by decide +kernel⟩, List.mem_of_getElem? (i := 8) (by decide +kernel), List.mem_of_getElem? (i := 341) (by decide +kernel), List.mem_of_getElem? (i := 342) (by decide +kernel)⟩
theorem lw_p2 : lw_okq (⟨"BurdenTunes$Laying", "costOfFree", "(II)I"⟩, 13) := ⟨⟨by decide +kernel, by decide +kernel⟩, List.mem_of_getElem? (i := 94) (by decide +kernel), List.mem_of_getElem? (i := 354) (by decide +kernel), List.mem_of_getElem? (i := 355) (by decide +kernel)⟩
theorem lw_p3 : lw_okq (⟨"BurdenTunes$Laying", "mostHeld", "(I)I"⟩, 13) := ⟨⟨by decide +kernel, by decide +kernel⟩, List.mem_of_getElem? (i := 94) (by decide +kernel), List.mem_of_getElem? (i := 359) (by decide +kernel), List.mem_of_getElem? (i := 360) (by decide +kernel)⟩
theorem lw_p4 : lw_okq (⟨"BurdenTunes$Laying", "costOfHeld", "(III)I"⟩, 13) := ⟨⟨by decide +kernel, by decide +kernel⟩, List.mem_of_getElem? (i := 94) (by decide +kernel), List.mem_of_getElem? (i := 366) (by decide +kernel), List.mem_of_getElem? (i := 367) (by decide +kernel)⟩
theorem lw_p5 : lw_okq (⟨"BurdenTunes$Laying", "hurts", "(II)Z"⟩, 13) := ⟨⟨by decide +kernel, by decide +kernel⟩, List.mem_of_getElem? (i := 94) (by decide +kernel), List.mem_of_getElem? (i := 370) (by decide +kernel), List.mem_of_getElem? (i := 371) (by decide +kernel)⟩
theorem lw_p6 : lw_okq (⟨"BurdenTunes$Laying", "waysFrom", "(IIZ)I"⟩, 13) := ⟨⟨by decide +kernel, by decide +kernel⟩, List.mem_of_getElem? (i := 94) (by decide +kernel), List.mem_of_getElem? (i := 379) (by decide +kernel), List.mem_of_getElem? (i := 380) (by decide +kernel)⟩
theorem lw_p7 : lw_okq (⟨"BurdenTunes$Laying", "heldByBestWay", "(II)I"⟩, 13) := ⟨⟨by decide +kernel, by decide +kernel⟩, List.mem_of_getElem? (i := 94) (by decide +kernel), List.mem_of_getElem? (i := 391) (by decide +kernel), List.mem_of_getElem? (i := 392) (by decide +kernel)⟩
theorem lw_p8 : lw_okq (⟨"BurdenTunes", "cheapestPhrase", "(I)I"⟩, 7) := ⟨⟨by decide +kernel, by decide +kernel⟩, List.mem_of_getElem? (i := 8) (by decide +kernel), List.mem_of_getElem? (i := 423) (by decide +kernel), List.mem_of_getElem? (i := 424) (by decide +kernel)⟩
def lw_privs_1 : List (MethodName × Nat) := [(⟨"BurdenTunes", "record", "()V"⟩, 7), (⟨"BurdenTunes", "leastCostOf", "(II)I"⟩, 7), (⟨"BurdenTunes$Laying", "costOfFree", "(II)I"⟩, 13), (⟨"BurdenTunes$Laying", "mostHeld", "(I)I"⟩, 13), (⟨"BurdenTunes$Laying", "costOfHeld", "(III)I"⟩, 13), (⟨"BurdenTunes$Laying", "hurts", "(II)Z"⟩, 13), (⟨"BurdenTunes$Laying", "waysFrom", "(IIZ)I"⟩, 13), (⟨"BurdenTunes$Laying", "heldByBestWay", "(II)I"⟩, 13), (⟨"BurdenTunes", "cheapestPhrase", "(I)I"⟩, 7)]
theorem lw_r1 : ∀ q ∈ lw_privs_1, lw_okq q := List.forall_mem_cons.mpr ⟨lw_p0, List.forall_mem_cons.mpr ⟨lw_p1, List.forall_mem_cons.mpr ⟨lw_p2, List.forall_mem_cons.mpr ⟨lw_p3, List.forall_mem_cons.mpr ⟨lw_p4, List.forall_mem_cons.mpr ⟨lw_p5, List.forall_mem_cons.mpr ⟨lw_p6, List.forall_mem_cons.mpr ⟨lw_p7, List.forall_mem_cons.mpr ⟨lw_p8, fun _ h => absurd h List.not_mem_nil⟩⟩⟩⟩⟩⟩⟩⟩⟩
def lw_privs : List (MethodName × Nat) := lw_privs_1
def lw_tbl : List Cond := k2_sels lw_privs ++ tables_1
theorem lw_privs_ok : ∀ q ∈ lw_privs, lw_okq q := lw_r1

def RX0 : String := "BurdenTunes$Book"
def TX0 : u_T := fun k => match k with
  | 0 => ("BurdenTunes$Book", "settings", "[I", true)
  | 1 => ("BurdenTunes$Book", "lineCount", "I", false)
  | 2 => ("BurdenTunes$Book", "syllableCounts", "[I", true)
  | 3 => ("BurdenTunes$Book", "stresses", "[I", true)
  | 4 => ("BurdenTunes$Book", "phraseCount", "I", false)
  | 5 => ("BurdenTunes$Book", "beatCounts", "[I", true)
  | 6 => ("BurdenTunes$Book", "kinds", "[I", true)
  | 7 => ("BurdenTunes$Book", "balladCount", "I", false)
  | 8 => ("BurdenTunes$Book", "ballad", "[I", true)
  | 9 => ("BurdenTunes$Book", "tuneCount", "I", false)
  | _ => ("BurdenTunes$Book", "tune", "[I", true)
def tyX0 : Nat → FieldType := fun k => match k with
  | 0 => .array .int
  | 1 => .int
  | 2 => .array .int
  | 3 => .array .int
  | 4 => .int
  | 5 => .array .int
  | 6 => .array .int
  | 7 => .int
  | 8 => .array .int
  | 9 => .int
  | _ => .array .int
abbrev wsX00 : List Cond := u_ws RX0 TX0 11
theorem nmX0 : ∀ a, a < 11 → ∀ b, b < 11 → a ≠ b → (TX0 a).2.1 ≠ (TX0 b).2.1 := by decide +kernel
theorem tyX0_ok : ∀ k, k < 11 → parseFieldDescriptor (TX0 k).2.2.1 = some (tyX0 k) := by decide +kernel
abbrev cX0_init : ByteArray := prog_2_method_1_code
def yX0_init : MethodName := ⟨RX0, "<init>", "()V"⟩
abbrev cX0_takeOver : ByteArray := prog_2_method_2_code
def yX0_takeOver : MethodName := ⟨RX0, "takeOver", "(LBurdenTunes$Book;)V"⟩
abbrev cX0_hasLine : ByteArray := prog_2_method_3_code
def yX0_hasLine : MethodName := ⟨RX0, "hasLine", "(I)Z"⟩
abbrev cX0_hasPhrase : ByteArray := prog_2_method_4_code
def yX0_hasPhrase : MethodName := ⟨RX0, "hasPhrase", "(I)Z"⟩
abbrev cX0_hasSyllable : ByteArray := prog_2_method_5_code
def yX0_hasSyllable : MethodName := ⟨RX0, "hasSyllable", "(II)Z"⟩
abbrev cX0_hasBeat : ByteArray := prog_2_method_6_code
def yX0_hasBeat : MethodName := ⟨RX0, "hasBeat", "(II)Z"⟩
abbrev cX0_beginPart : ByteArray := prog_2_method_7_code
def yX0_beginPart : MethodName := ⟨RX0, "beginPart", "(Z)V"⟩
abbrev cX0_addSign : ByteArray := prog_2_method_8_code
def yX0_addSign : MethodName := ⟨RX0, "addSign", "(C)V"⟩
abbrev cX0_addSyllable : ByteArray := prog_2_method_9_code
def yX0_addSyllable : MethodName := ⟨RX0, "addSyllable", "(I)V"⟩
abbrev cX0_addBeat : ByteArray := prog_2_method_10_code
def yX0_addBeat : MethodName := ⟨RX0, "addBeat", "(I)V"⟩
abbrev cX0_removeLine : ByteArray := prog_2_method_11_code
def yX0_removeLine : MethodName := ⟨RX0, "removeLine", "(I)V"⟩
abbrev cX0_removePhrase : ByteArray := prog_2_method_12_code
def yX0_removePhrase : MethodName := ⟨RX0, "removePhrase", "(I)V"⟩
abbrev cX0_withoutNumber : ByteArray := prog_2_method_13_code
def yX0_withoutNumber : MethodName := ⟨RX0, "withoutNumber", "([III)I"⟩
abbrev cX0_addToBallad : ByteArray := prog_2_method_14_code
def yX0_addToBallad : MethodName := ⟨RX0, "addToBallad", "(I)V"⟩
abbrev cX0_addToTune : ByteArray := prog_2_method_15_code
def yX0_addToTune : MethodName := ⟨RX0, "addToTune", "(I)V"⟩
abbrev cX0_timesSung : ByteArray := prog_2_method_16_code
def yX0_timesSung : MethodName := ⟨RX0, "timesSung", "(I)I"⟩
abbrev cX0_timesPlayed : ByteArray := prog_2_method_17_code
def yX0_timesPlayed : MethodName := ⟨RX0, "timesPlayed", "(I)I"⟩
abbrev cX0_timesIn : ByteArray := prog_2_method_18_code
def yX0_timesIn : MethodName := ⟨RX0, "timesIn", "([III)I"⟩
abbrev cX0_burdens : ByteArray := prog_2_method_19_code
def yX0_burdens : MethodName := ⟨RX0, "burdens", "()I"⟩
abbrev cX0_stressedOf : ByteArray := prog_2_method_20_code
def yX0_stressedOf : MethodName := ⟨RX0, "stressedOf", "(I)I"⟩
abbrev cX0_beatsOfKind : ByteArray := prog_2_method_21_code
def yX0_beatsOfKind : MethodName := ⟨RX0, "beatsOfKind", "(II)I"⟩
abbrev cX0_longestRow : ByteArray := prog_2_method_22_code
def yX0_longestRow : MethodName := ⟨RX0, "longestRow", "(I)I"⟩
def RX1 : String := "BurdenTunes$Laying"
def TX1 : u_T := fun k => match k with
  | 0 => ("BurdenTunes$Laying", "breath", "I", false)
  | 1 => ("BurdenTunes$Laying", "drawn", "I", false)
  | 2 => ("BurdenTunes$Laying", "lost", "I", false)
  | 3 => ("BurdenTunes$Laying", "hurt", "I", false)
  | 4 => ("BurdenTunes$Laying", "syllables", "I", false)
  | 5 => ("BurdenTunes$Laying", "beats", "I", false)
  | 6 => ("BurdenTunes$Laying", "stresses", "[I", true)
  | 7 => ("BurdenTunes$Laying", "kinds", "[I", true)
  | 8 => ("BurdenTunes$Laying", "rows", "[I", true)
  | 9 => ("BurdenTunes$Laying", "costs", "[I", true)
  | 10 => ("BurdenTunes$Laying", "ways", "[I", true)
  | 11 => ("BurdenTunes$Laying", "firstBeats", "[I", true)
  | _ => ("BurdenTunes$Laying", "heldBeats", "[I", true)
def tyX1 : Nat → FieldType := fun k => match k with
  | 0 => .int
  | 1 => .int
  | 2 => .int
  | 3 => .int
  | 4 => .int
  | 5 => .int
  | 6 => .array .int
  | 7 => .array .int
  | 8 => .array .int
  | 9 => .array .int
  | 10 => .array .int
  | 11 => .array .int
  | _ => .array .int
abbrev wsX10 : List Cond := u_ws RX1 TX1 13
theorem nmX1 : ∀ a, a < 13 → ∀ b, b < 13 → a ≠ b → (TX1 a).2.1 ≠ (TX1 b).2.1 := by decide +kernel
theorem tyX1_ok : ∀ k, k < 13 → parseFieldDescriptor (TX1 k).2.2.1 = some (tyX1 k) := by decide +kernel
abbrev cX1_init : ByteArray := prog_3_method_1_code
def yX1_init : MethodName := ⟨RX1, "<init>", "()V"⟩
abbrev cX1_take : ByteArray := prog_3_method_2_code
def yX1_take : MethodName := ⟨RX1, "take", "(LBurdenTunes$Book;II)V"⟩
abbrev cX1_turnStress : ByteArray := prog_3_method_3_code
def yX1_turnStress : MethodName := ⟨RX1, "turnStress", "(I)V"⟩
abbrev cX1_leastCost : ByteArray := prog_3_method_4_code
def yX1_leastCost : MethodName := ⟨RX1, "leastCost", "()I"⟩
abbrev cX1_mostHeld : ByteArray := prog_3_method_5_code
def yX1_mostHeld : MethodName := ⟨RX1, "mostHeld", "(I)I"⟩
abbrev cX1_hurts : ByteArray := prog_3_method_6_code
def yX1_hurts : MethodName := ⟨RX1, "hurts", "(II)Z"⟩
abbrev cX1_costOfFree : ByteArray := prog_3_method_7_code
def yX1_costOfFree : MethodName := ⟨RX1, "costOfFree", "(II)I"⟩
abbrev cX1_costOfHeld : ByteArray := prog_3_method_8_code
def yX1_costOfHeld : MethodName := ⟨RX1, "costOfHeld", "(III)I"⟩
abbrev cX1_countWays : ByteArray := prog_3_method_9_code
def yX1_countWays : MethodName := ⟨RX1, "countWays", "(Z)I"⟩
abbrev cX1_waysFrom : ByteArray := prog_3_method_10_code
def yX1_waysFrom : MethodName := ⟨RX1, "waysFrom", "(IIZ)I"⟩
abbrev cX1_findBestWay : ByteArray := prog_3_method_11_code
def yX1_findBestWay : MethodName := ⟨RX1, "findBestWay", "()V"⟩
abbrev cX1_heldByBestWay : ByteArray := prog_3_method_12_code
def yX1_heldByBestWay : MethodName := ⟨RX1, "heldByBestWay", "(II)I"⟩
abbrev cX1_freeBeats : ByteArray := prog_3_method_13_code
def yX1_freeBeats : MethodName := ⟨RX1, "freeBeats", "()I"⟩
abbrev cX1_hurtSyllables : ByteArray := prog_3_method_14_code
def yX1_hurtSyllables : MethodName := ⟨RX1, "hurtSyllables", "()I"⟩
def RX2 : String := "BurdenTunes$Pad"
def TX2 : u_T := fun k => match k with
  | 0 => ("BurdenTunes$Pad", "signs", "[C", true)
  | _ => ("BurdenTunes$Pad", "length", "I", false)
def tyX2 : Nat → FieldType := fun k => match k with
  | 0 => .array .char
  | _ => .int
abbrev wsX20 : List Cond := u_ws RX2 TX2 2
theorem nmX2 : ∀ a, a < 2 → ∀ b, b < 2 → a ≠ b → (TX2 a).2.1 ≠ (TX2 b).2.1 := by decide +kernel
theorem tyX2_ok : ∀ k, k < 2 → parseFieldDescriptor (TX2 k).2.2.1 = some (tyX2 k) := by decide +kernel
abbrev cX2_init : ByteArray := prog_4_method_1_code
def yX2_init : MethodName := ⟨RX2, "<init>", "()V"⟩
abbrev cX2_isSyllable : ByteArray := prog_4_method_2_code
def yX2_isSyllable : MethodName := ⟨RX2, "isSyllable", "(C)Z"⟩
abbrev cX2_isBeat : ByteArray := prog_4_method_3_code
def yX2_isBeat : MethodName := ⟨RX2, "isBeat", "(C)Z"⟩
abbrev cX2_signsIn : ByteArray := prog_4_method_4_code
def yX2_signsIn : MethodName := ⟨RX2, "signsIn", "(J)I"⟩
abbrev cX2_append : ByteArray := prog_4_method_5_code
def yX2_append : MethodName := ⟨RX2, "append", "(JI)V"⟩
abbrev cX2_beginsPart : ByteArray := prog_4_method_6_code
def yX2_beginsPart : MethodName := ⟨RX2, "beginsPart", "(I)Z"⟩
abbrev cX2_parts : ByteArray := prog_4_method_7_code
def yX2_parts : MethodName := ⟨RX2, "parts", "()I"⟩
abbrev cX2_phraseParts : ByteArray := prog_4_method_8_code
def yX2_phraseParts : MethodName := ⟨RX2, "phraseParts", "()I"⟩
abbrev cX2_faultPlace : ByteArray := prog_4_method_9_code
def yX2_faultPlace : MethodName := ⟨RX2, "faultPlace", "()I"⟩
def RX3 : String := "BurdenTunes"
def TX3 : u_T := fun k => match k with
  | 0 => ("BurdenTunes", "book", "LBurdenTunes$Book;", true)
  | 1 => ("BurdenTunes", "pad", "LBurdenTunes$Pad;", true)
  | 2 => ("BurdenTunes", "laying", "LBurdenTunes$Laying;", true)
  | 3 => ("BurdenTunes", "history", "[LBurdenTunes$Book;", true)
  | 4 => ("BurdenTunes", "historyCount", "I", false)
  | 5 => ("BurdenTunes", "slots", "[LBurdenTunes$Book;", true)
  | _ => ("BurdenTunes", "isSaved", "[Z", true)
def tyX3 : Nat → FieldType := fun k => match k with
  | 0 => .object "BurdenTunes$Book"
  | 1 => .object "BurdenTunes$Pad"
  | 2 => .object "BurdenTunes$Laying"
  | 3 => .array (.object "BurdenTunes$Book")
  | 4 => .int
  | 5 => .array (.object "BurdenTunes$Book")
  | _ => .array .boolean
abbrev wsX30 : List Cond := u_ws RX3 TX3 7
theorem nmX3 : ∀ a, a < 7 → ∀ b, b < 7 → a ≠ b → (TX3 a).2.1 ≠ (TX3 b).2.1 := by decide +kernel
theorem tyX3_ok : ∀ k, k < 7 → parseFieldDescriptor (TX3 k).2.2.1 = some (tyX3 k) := by decide +kernel
abbrev cX3_init : ByteArray := prog_1_method_1_code
def yX3_init : MethodName := ⟨RX3, "<init>", "()V"⟩
abbrev cX3_set : ByteArray := prog_1_method_2_code
def yX3_set : MethodName := ⟨RX3, "set", "(II)I"⟩
abbrev cX3_write : ByteArray := prog_1_method_3_code
def yX3_write : MethodName := ⟨RX3, "write", "()I"⟩
abbrev cX3_dropLine : ByteArray := prog_1_method_4_code
def yX3_dropLine : MethodName := ⟨RX3, "dropLine", "(I)I"⟩
abbrev cX3_dropPhrase : ByteArray := prog_1_method_5_code
def yX3_dropPhrase : MethodName := ⟨RX3, "dropPhrase", "(I)I"⟩
abbrev cX3_stress : ByteArray := prog_1_method_6_code
def yX3_stress : MethodName := ⟨RX3, "stress", "(IIZ)I"⟩
abbrev cX3_beat : ByteArray := prog_1_method_7_code
def yX3_beat : MethodName := ⟨RX3, "beat", "(III)I"⟩
abbrev cX3_sing : ByteArray := prog_1_method_8_code
def yX3_sing : MethodName := ⟨RX3, "sing", "(I)I"⟩
abbrev cX3_play : ByteArray := prog_1_method_9_code
def yX3_play : MethodName := ⟨RX3, "play", "(I)I"⟩
abbrev cX3_verse : ByteArray := prog_1_method_10_code
def yX3_verse : MethodName := ⟨RX3, "verse", "(III)I"⟩
abbrev cX3_clear : ByteArray := prog_1_method_11_code
def yX3_clear : MethodName := ⟨RX3, "clear", "(Z)I"⟩
abbrev cX3_line : ByteArray := prog_1_method_12_code
def yX3_line : MethodName := ⟨RX3, "line", "(II)I"⟩
abbrev cX3_phrase : ByteArray := prog_1_method_13_code
def yX3_phrase : MethodName := ⟨RX3, "phrase", "(II)I"⟩
abbrev cX3_isStressed : ByteArray := prog_1_method_14_code
def yX3_isStressed : MethodName := ⟨RX3, "isStressed", "(II)I"⟩
abbrev cX3_kindOf : ByteArray := prog_1_method_15_code
def yX3_kindOf : MethodName := ⟨RX3, "kindOf", "(II)I"⟩
abbrev cX3_count : ByteArray := prog_1_method_16_code
def yX3_count : MethodName := ⟨RX3, "count", "(I)I"⟩
abbrev cX3_at : ByteArray := prog_1_method_17_code
def yX3_at : MethodName := ⟨RX3, "at", "(ZI)I"⟩
abbrev cX3_fit : ByteArray := prog_1_method_18_code
def yX3_fit : MethodName := ⟨RX3, "fit", "(III)I"⟩
abbrev cX3_lies : ByteArray := prog_1_method_19_code
def yX3_lies : MethodName := ⟨RX3, "lies", "(IIII)I"⟩
abbrev cX3_whole : ByteArray := prog_1_method_20_code
def yX3_whole : MethodName := ⟨RX3, "whole", "(I)I"⟩
abbrev cX3_bestPhrase : ByteArray := prog_1_method_21_code
def yX3_bestPhrase : MethodName := ⟨RX3, "bestPhrase", "()I"⟩
abbrev cX3_bestChange : ByteArray := prog_1_method_22_code
def yX3_bestChange : MethodName := ⟨RX3, "bestChange", "(III)I"⟩
abbrev cX3_enoughBreath : ByteArray := prog_1_method_23_code
def yX3_enoughBreath : MethodName := ⟨RX3, "enoughBreath", "(II)I"⟩
abbrev cX3_put : ByteArray := prog_1_method_24_code
def yX3_put : MethodName := ⟨RX3, "put", "(J)I"⟩
abbrev cX3_wipe : ByteArray := prog_1_method_25_code
def yX3_wipe : MethodName := ⟨RX3, "wipe", "()I"⟩
abbrev cX3_fault : ByteArray := prog_1_method_26_code
def yX3_fault : MethodName := ⟨RX3, "fault", "()I"⟩
abbrev cX3_record : ByteArray := prog_1_method_30_code
def yX3_record : MethodName := ⟨RX3, "record", "()V"⟩
abbrev cX3_leastCostOf : ByteArray := prog_1_method_31_code
def yX3_leastCostOf : MethodName := ⟨RX3, "leastCostOf", "(II)I"⟩
abbrev cX3_cheapestPhrase : ByteArray := prog_1_method_32_code
def yX3_cheapestPhrase : MethodName := ⟨RX3, "cheapestPhrase", "(I)I"⟩
def RX4 : String := "BurdenTunesModel"
def TX4 : u_T := fun k => match k with
  | _ => ("", "", "", false)
def tyX4 : Nat → FieldType := fun k => match k with
  | _ => .int
abbrev wsX40 : List Cond := u_ws RX4 TX4 0
theorem nmX4 : ∀ a, a < 0 → ∀ b, b < 0 → a ≠ b → (TX4 a).2.1 ≠ (TX4 b).2.1 := by decide +kernel
theorem tyX4_ok : ∀ k, k < 0 → parseFieldDescriptor (TX4 k).2.2.1 = some (tyX4 k) := by decide +kernel
def RJ9 : String := "java/lang/Math"
def TJ9 : u_T := fun k => match k with
  | _ => ("", "", "", false)
def tyJ9 : Nat → FieldType := fun k => match k with
  | _ => .int
abbrev cJ9_max_7cf53 : ByteArray := prog_7_method_65_code
def yJ9_max_7cf53 : MethodName := ⟨RJ9, "max", "(II)I"⟩
abbrev cJ9_min_7cf53 : ByteArray := prog_7_method_69_code
def yJ9_min_7cf53 : MethodName := ⟨RJ9, "min", "(II)I"⟩
def RJ10 : String := "java/lang/System"
def TJ10 : u_T := fun k => match k with
  | _ => ("", "", "", false)
def tyJ10 : Nat → FieldType := fun k => match k with
  | _ => .int
def RL : String := "BurdenTunesLaw"
abbrev cL_cell : ByteArray := method_2_code
def yL_cell : MethodName := ⟨RL, "cell", "([II)I"⟩
abbrev cL_low : ByteArray := method_3_code
def yL_low : MethodName := ⟨RL, "low", "(II)I"⟩
abbrev cL_lay : ByteArray := method_4_code
def yL_lay : MethodName := ⟨RL, "lay", "(IIII[I[I[I)V"⟩
abbrev cL_sung : ByteArray := method_5_code
def yL_sung : MethodName := ⟨RL, "sung", "(I[I[I)I"⟩
abbrev cL_bits : ByteArray := method_6_code
def yL_bits : MethodName := ⟨RL, "bits", "(I)I"⟩
abbrev cL_same : ByteArray := method_7_code
def yL_same : MethodName := ⟨RL, "same", "(LBurdenTunes;[I[I[I[I[I[I)Z"⟩
abbrev cL_whole : ByteArray := method_8_code
def yL_whole : MethodName := ⟨RL, "whole", "(LBurdenTunes;I[I[I[I[I[I[I)Z"⟩
abbrev cL_law : ByteArray := code
def yL_law : MethodName := ⟨RL, "law", "([I)Z"⟩
