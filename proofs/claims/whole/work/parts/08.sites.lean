def tu_Y_X0_takeOver : tu_Y := (yX0_takeOver, cX0_takeOver, 2, none, 1, 40)
def tu_Y_X0_hasLine : tu_Y := (yX0_hasLine, cX0_hasLine, 2, (some .boolean), 0, 0)
def tu_Y_X0_hasPhrase : tu_Y := (yX0_hasPhrase, cX0_hasPhrase, 2, (some .boolean), 0, 0)
def tu_Y_X0_hasSyllable : tu_Y := (yX0_hasSyllable, cX0_hasSyllable, 3, (some .boolean), 1, 21)
def tu_Y_X0_hasBeat : tu_Y := (yX0_hasBeat, cX0_hasBeat, 3, (some .boolean), 1, 21)
def tu_Y_X0_beginPart : tu_Y := (yX0_beginPart, cX0_beginPart, 2, none, 0, 0)
def tu_Y_X0_addSign : tu_Y := (yX0_addSign, cX0_addSign, 2, none, 1, 22)
def tu_Y_X0_addSyllable : tu_Y := (yX0_addSyllable, cX0_addSyllable, 3, none, 0, 0)
def tu_Y_X0_addBeat : tu_Y := (yX0_addBeat, cX0_addBeat, 3, none, 0, 0)
def tu_Y_X0_removeLine : tu_Y := (yX0_removeLine, cX0_removeLine, 3, none, 1, 40)
def tu_Y_X0_removePhrase : tu_Y := (yX0_removePhrase, cX0_removePhrase, 3, none, 1, 40)
def tu_Y_X0_withoutNumber : tu_Y := (yX0_withoutNumber, cX0_withoutNumber, 5, (some .int), 0, 0)
def tu_Y_X0_addToBallad : tu_Y := (yX0_addToBallad, cX0_addToBallad, 2, none, 0, 0)
def tu_Y_X0_addToTune : tu_Y := (yX0_addToTune, cX0_addToTune, 2, none, 0, 0)
def tu_Y_X0_timesSung : tu_Y := (yX0_timesSung, cX0_timesSung, 2, (some .int), 1, 24)
def tu_Y_X0_timesPlayed : tu_Y := (yX0_timesPlayed, cX0_timesPlayed, 2, (some .int), 1, 24)
def tu_Y_X0_timesIn : tu_Y := (yX0_timesIn, cX0_timesIn, 5, (some .int), 0, 0)
def tu_Y_X0_burdens : tu_Y := (yX0_burdens, cX0_burdens, 3, (some .int), 2, 45)
def tu_Y_X0_stressedOf : tu_Y := (yX0_stressedOf, cX0_stressedOf, 4, (some .int), 0, 0)
def tu_Y_X0_beatsOfKind : tu_Y := (yX0_beatsOfKind, cX0_beatsOfKind, 5, (some .int), 0, 0)
def tu_Y_X0_longestRow : tu_Y := (yX0_longestRow, cX0_longestRow, 5, (some .int), 1, 21)
def tu_Y_X1_take : tu_Y := (yX1_take, cX1_take, 5, none, 1, 40)
def tu_Y_X1_turnStress : tu_Y := (yX1_turnStress, cX1_turnStress, 2, none, 0, 0)
def tu_Y_X1_leastCost : tu_Y := (yX1_leastCost, cX1_leastCost, 5, (some .int), 2, 45)
def tu_Y_X1_mostHeld : tu_Y := (yX1_mostHeld, cX1_mostHeld, 2, (some .int), 1, 21)
def tu_Y_X1_hurts : tu_Y := (yX1_hurts, cX1_hurts, 3, (some .boolean), 0, 0)
def tu_Y_X1_costOfFree : tu_Y := (yX1_costOfFree, cX1_costOfFree, 3, (some .int), 0, 0)
def tu_Y_X1_costOfHeld : tu_Y := (yX1_costOfHeld, cX1_costOfHeld, 4, (some .int), 1, 22)
def tu_Y_X1_countWays : tu_Y := (yX1_countWays, cX1_countWays, 4, (some .int), 3, 71)
def tu_Y_X1_waysFrom : tu_Y := (yX1_waysFrom, cX1_waysFrom, 7, (some .int), 2, 45)
def tu_Y_X1_findBestWay : tu_Y := (yX1_findBestWay, cX1_findBestWay, 3, none, 3, 68)
def tu_Y_X1_heldByBestWay : tu_Y := (yX1_heldByBestWay, cX1_heldByBestWay, 4, (some .int), 2, 45)
def tu_Y_X1_freeBeats : tu_Y := (yX1_freeBeats, cX1_freeBeats, 3, (some .int), 4, 90)
def tu_Y_X1_hurtSyllables : tu_Y := (yX1_hurtSyllables, cX1_hurtSyllables, 3, (some .int), 4, 90)
def tu_Y_X2_isSyllable : tu_Y := (yX2_isSyllable, cX2_isSyllable, 1, (some .boolean), 0, 0)
def tu_Y_X2_isBeat : tu_Y := (yX2_isBeat, cX2_isBeat, 1, (some .boolean), 0, 0)
def tu_Y_X2_signsIn : tu_Y := (yX2_signsIn, cX2_signsIn, 7, (some .int), 0, 0)
def tu_Y_X2_append : tu_Y := (yX2_append, cX2_append, 5, none, 0, 0)
def tu_Y_X2_beginsPart : tu_Y := (yX2_beginsPart, cX2_beginsPart, 2, (some .boolean), 0, 0)
def tu_Y_X2_parts : tu_Y := (yX2_parts, cX2_parts, 3, (some .int), 1, 21)
def tu_Y_X2_phraseParts : tu_Y := (yX2_phraseParts, cX2_phraseParts, 3, (some .int), 0, 0)
def tu_Y_X2_faultPlace : tu_Y := (yX2_faultPlace, cX2_faultPlace, 5, (some .int), 1, 20)
def tu_Y_X3_set : tu_Y := (yX3_set, cX3_set, 4, (some .int), 3, 83)
def tu_Y_X3_write : tu_Y := (yX3_write, cX3_write, 4, (some .int), 3, 83)
def tu_Y_X3_dropLine : tu_Y := (yX3_dropLine, cX3_dropLine, 2, (some .int), 3, 83)
def tu_Y_X3_dropPhrase : tu_Y := (yX3_dropPhrase, cX3_dropPhrase, 2, (some .int), 3, 83)
def tu_Y_X3_stress : tu_Y := (yX3_stress, cX3_stress, 6, (some .int), 3, 83)
def tu_Y_X3_beat : tu_Y := (yX3_beat, cX3_beat, 6, (some .int), 3, 83)
def tu_Y_X3_sing : tu_Y := (yX3_sing, cX3_sing, 2, (some .int), 3, 83)
def tu_Y_X3_play : tu_Y := (yX3_play, cX3_play, 2, (some .int), 3, 83)
def tu_Y_X3_verse : tu_Y := (yX3_verse, cX3_verse, 5, (some .int), 3, 83)
def tu_Y_X3_clear : tu_Y := (yX3_clear, cX3_clear, 3, (some .int), 3, 83)
def tu_Y_X3_line : tu_Y := (yX3_line, cX3_line, 3, (some .int), 5, 116)
def tu_Y_X3_phrase : tu_Y := (yX3_phrase, cX3_phrase, 3, (some .int), 2, 45)
def tu_Y_X3_isStressed : tu_Y := (yX3_isStressed, cX3_isStressed, 3, (some .int), 2, 43)
def tu_Y_X3_kindOf : tu_Y := (yX3_kindOf, cX3_kindOf, 3, (some .int), 2, 43)
def tu_Y_X3_count : tu_Y := (yX3_count, cX3_count, 2, (some .int), 3, 67)
def tu_Y_X3_at : tu_Y := (yX3_at, cX3_at, 3, (some .int), 0, 0)
def tu_Y_X3_fit : tu_Y := (yX3_fit, cX3_fit, 5, (some .int), 5, 112)
def tu_Y_X3_lies : tu_Y := (yX3_lies, cX3_lies, 5, (some .int), 4, 91)
def tu_Y_X3_whole : tu_Y := (yX3_whole, cX3_whole, 10, (some .int), 4, 91)
def tu_Y_X3_bestPhrase : tu_Y := (yX3_bestPhrase, cX3_bestPhrase, 10, (some .int), 4, 91)
def tu_Y_X3_bestChange : tu_Y := (yX3_bestChange, cX3_bestChange, 8, (some .int), 3, 69)
def tu_Y_X3_enoughBreath : tu_Y := (yX3_enoughBreath, cX3_enoughBreath, 7, (some .int), 3, 69)
def tu_Y_X3_put : tu_Y := (yX3_put, cX3_put, 4, (some .int), 1, 26)
def tu_Y_X3_wipe : tu_Y := (yX3_wipe, cX3_wipe, 2, (some .int), 0, 0)
def tu_Y_X3_fault : tu_Y := (yX3_fault, cX3_fault, 1, (some .int), 2, 44)
def tu_Y_X3_undo : tu_Y := (yX3_undo, cX3_undo, 1, (some .int), 2, 61)
def tu_Y_X3_save : tu_Y := (yX3_save, cX3_save, 2, (some .int), 2, 61)
def tu_Y_X3_restore : tu_Y := (yX3_restore, cX3_restore, 2, (some .int), 3, 83)
def tu_Y_X3_record : tu_Y := (yX3_record, cX3_record, 3, none, 2, 61)
def tu_Y_X3_leastCostOf : tu_Y := (yX3_leastCostOf, cX3_leastCostOf, 3, (some .int), 3, 69)
def tu_Y_X3_cheapestPhrase : tu_Y := (yX3_cheapestPhrase, cX3_cheapestPhrase, 6, (some .int), 4, 91)
def tu_Y_X4_moves : tu_Y := (yX4_moves, cX4_moves, 5, none, 0, 0)
def tu_Y_X4_within : tu_Y := (yX4_within, cX4_within, 3, (some .boolean), 0, 0)
def tu_Y_X4_has : tu_Y := (yX4_has, cX4_has, 2, (some .boolean), 0, 0)
def tu_Y_X4_bits : tu_Y := (yX4_bits, cX4_bits, 3, (some .int), 0, 0)
def tu_Y_X4_record : tu_Y := (yX4_record, cX4_record, 2, none, 1, 24)
def tu_Y_X4_isLine : tu_Y := (yX4_isLine, cX4_isLine, 2, (some .boolean), 1, 22)
def tu_Y_X4_isPhrase : tu_Y := (yX4_isPhrase, cX4_isPhrase, 2, (some .boolean), 1, 22)
def tu_Y_X4_lineLength : tu_Y := (yX4_lineLength, cX4_lineLength, 2, (some .int), 0, 0)
def tu_Y_X4_phraseLength : tu_Y := (yX4_phraseLength, cX4_phraseLength, 2, (some .int), 0, 0)
def tu_Y_X4_isSyllable : tu_Y := (yX4_isSyllable, cX4_isSyllable, 3, (some .boolean), 2, 43)
def tu_Y_X4_isBeat : tu_Y := (yX4_isBeat, cX4_isBeat, 3, (some .boolean), 2, 43)
def tu_Y_X4_sungTimes : tu_Y := (yX4_sungTimes, cX4_sungTimes, 4, (some .int), 0, 0)
def tu_Y_X4_playedTimes : tu_Y := (yX4_playedTimes, cX4_playedTimes, 4, (some .int), 0, 0)
def tu_Y_X4_look : tu_Y := (yX4_look, cX4_look, 3, none, 1, 21)
def tu_Y_X4_hurts : tu_Y := (yX4_hurts, cX4_hurts, 3, (some .boolean), 1, 21)
def tu_Y_X4_costOn : tu_Y := (yX4_costOn, cX4_costOn, 5, (some .int), 2, 43)
def tu_Y_X4_costFree : tu_Y := (yX4_costFree, cX4_costFree, 4, (some .int), 1, 21)
def tu_Y_X4_capped : tu_Y := (yX4_capped, cX4_capped, 1, (some .int), 0, 0)
def tu_Y_X4_takesIn : tu_Y := (yX4_takesIn, cX4_takesIn, 4, none, 1, 20)
def tu_Y_X4_findAt : tu_Y := (yX4_findAt, cX4_findAt, 5, none, 3, 67)
def tu_Y_X4_findCost : tu_Y := (yX4_findCost, cX4_findCost, 3, (some .int), 4, 91)
def tu_Y_X4_beatsFrom : tu_Y := (yX4_beatsFrom, cX4_beatsFrom, 4, (some .int), 3, 67)
def tu_Y_X4_findWay : tu_Y := (yX4_findWay, cX4_findWay, 3, none, 4, 90)
def tu_Y_X4_costOf : tu_Y := (yX4_costOf, cX4_costOf, 3, (some .int), 5, 113)
def tu_Y_X4_freeBeats : tu_Y := (yX4_freeBeats, cX4_freeBeats, 3, (some .int), 5, 112)
def tu_Y_X4_hurting : tu_Y := (yX4_hurting, cX4_hurting, 3, (some .int), 5, 112)
def tu_Y_X4_isValue : tu_Y := (yX4_isValue, cX4_isValue, 2, (some .boolean), 1, 22)
def tu_Y_X4_set : tu_Y := (yX4_set, cX4_set, 4, (some .int), 2, 45)
def tu_Y_X4_parts : tu_Y := (yX4_parts, cX4_parts, 5, (some .int), 0, 0)
def tu_Y_X4_writeLine : tu_Y := (yX4_writeLine, cX4_writeLine, 4, (some .int), 0, 0)
def tu_Y_X4_writePhrase : tu_Y := (yX4_writePhrase, cX4_writePhrase, 4, (some .int), 0, 0)
def tu_Y_X4_write : tu_Y := (yX4_write, cX4_write, 2, (some .int), 2, 45)
def tu_Y_X4_goes : tu_Y := (yX4_goes, cX4_goes, 7, (some .int), 0, 0)
def tu_Y_X4_dropLine : tu_Y := (yX4_dropLine, cX4_dropLine, 3, (some .int), 2, 45)
def tu_Y_X4_dropPhrase : tu_Y := (yX4_dropPhrase, cX4_dropPhrase, 3, (some .int), 2, 45)
def tu_Y_X4_stress : tu_Y := (yX4_stress, cX4_stress, 6, (some .int), 3, 65)
def tu_Y_X4_kindAt : tu_Y := (yX4_kindAt, cX4_kindAt, 3, (some .int), 1, 21)
def tu_Y_X4_beat : tu_Y := (yX4_beat, cX4_beat, 7, (some .int), 3, 65)
def tu_Y_X4_sings : tu_Y := (yX4_sings, cX4_sings, 2, none, 0, 0)
def tu_Y_X4_sing : tu_Y := (yX4_sing, cX4_sing, 2, (some .int), 2, 45)
def tu_Y_X4_play : tu_Y := (yX4_play, cX4_play, 2, (some .int), 2, 45)
def tu_Y_X4_verse : tu_Y := (yX4_verse, cX4_verse, 5, (some .int), 2, 45)
def tu_Y_X4_clear : tu_Y := (yX4_clear, cX4_clear, 4, (some .int), 2, 45)
def tu_Y_X4_cheapestPhrase : tu_Y := (yX4_cheapestPhrase, cX4_cheapestPhrase, 6, (some .int), 6, 135)
def tu_Y_X4_line : tu_Y := (yX4_line, cX4_line, 3, (some .int), 7, 160)
def tu_Y_X4_longestRow : tu_Y := (yX4_longestRow, cX4_longestRow, 5, (some .int), 2, 43)
def tu_Y_X4_phrase : tu_Y := (yX4_phrase, cX4_phrase, 5, (some .int), 3, 67)
def tu_Y_X4_isStressed : tu_Y := (yX4_isStressed, cX4_isStressed, 3, (some .int), 3, 65)
def tu_Y_X4_kindOf : tu_Y := (yX4_kindOf, cX4_kindOf, 3, (some .int), 3, 65)
def tu_Y_X4_burdens : tu_Y := (yX4_burdens, cX4_burdens, 3, (some .int), 1, 23)
def tu_Y_X4_count : tu_Y := (yX4_count, cX4_count, 2, (some .int), 2, 45)
def tu_Y_X4_at : tu_Y := (yX4_at, cX4_at, 3, (some .int), 1, 22)
def tu_Y_X4_fit : tu_Y := (yX4_fit, cX4_fit, 5, (some .int), 6, 135)
def tu_Y_X4_lies : tu_Y := (yX4_lies, cX4_lies, 5, (some .int), 6, 135)
def tu_Y_X4_phraseFor : tu_Y := (yX4_phraseFor, cX4_phraseFor, 2, (some .int), 0, 0)
def tu_Y_X4_whole : tu_Y := (yX4_whole, cX4_whole, 10, (some .int), 6, 135)
def tu_Y_X4_bestPhrase : tu_Y := (yX4_bestPhrase, cX4_bestPhrase, 9, (some .int), 6, 135)
def tu_Y_X4_bestChange : tu_Y := (yX4_bestChange, cX4_bestChange, 8, (some .int), 5, 113)
def tu_Y_X4_enoughBreath : tu_Y := (yX4_enoughBreath, cX4_enoughBreath, 7, (some .int), 5, 113)
def tu_Y_X4_put : tu_Y := (yX4_put, cX4_put, 8, (some .int), 1, 22)
def tu_Y_X4_wipe : tu_Y := (yX4_wipe, cX4_wipe, 2, (some .int), 0, 0)
def tu_Y_X4_findFault : tu_Y := (yX4_findFault, cX4_findFault, 9, (some .int), 0, 0)
def tu_Y_X4_fault : tu_Y := (yX4_fault, cX4_fault, 1, (some .int), 1, 28)
def tu_Y_X4_undo : tu_Y := (yX4_undo, cX4_undo, 1, (some .int), 1, 24)
def tu_Y_X4_save : tu_Y := (yX4_save, cX4_save, 2, (some .int), 1, 24)
def tu_Y_X4_restore : tu_Y := (yX4_restore, cX4_restore, 2, (some .int), 2, 45)
set_option maxRecDepth 20000 in
theorem co_X0_hasLine : Cond.code tu_Y_X0_hasLine.1 tu_Y_X0_hasLine.2.1 tu_Y_X0_hasLine.2.2.1 tu_Y_X0_hasLine.2.2.2.1 ∈ tu_tb := tu_tb_in 276 rfl rfl
set_option maxRecDepth 20000 in
theorem sv_RX0_55 : tu_sV RX0 55 tu_Y_X0_hasLine 1 := ⟨⟨tu_tb_in 304 rfl rfl, tu_tb_in 274 rfl rfl, tu_tb_in 275 rfl rfl, tu_tb_in 43 rfl rfl, co_X0_hasLine⟩, by decide, by decide, by decide⟩
set_option maxRecDepth 20000 in
theorem co_X0_hasPhrase : Cond.code tu_Y_X0_hasPhrase.1 tu_Y_X0_hasPhrase.2.1 tu_Y_X0_hasPhrase.2.2.1 tu_Y_X0_hasPhrase.2.2.2.1 ∈ tu_tb := tu_tb_in 291 rfl rfl
set_option maxRecDepth 20000 in
theorem sv_RX0_59 : tu_sV RX0 59 tu_Y_X0_hasPhrase 1 := ⟨⟨tu_tb_in 313 rfl rfl, tu_tb_in 289 rfl rfl, tu_tb_in 290 rfl rfl, tu_tb_in 43 rfl rfl, co_X0_hasPhrase⟩, by decide, by decide, by decide⟩
set_option maxRecDepth 20000 in
theorem co_X2_isSyllable : Cond.code tu_Y_X2_isSyllable.1 tu_Y_X2_isSyllable.2.1 tu_Y_X2_isSyllable.2.2.1 tu_Y_X2_isSyllable.2.2.2.1 ∈ tu_tb := tu_tb_in 234 rfl rfl
set_option maxRecDepth 20000 in
theorem ss_RX0_62 : tu_sS RX0 62 tu_Y_X2_isSyllable 1 := ⟨⟨tu_tb_in 259 rfl rfl, tu_tb_in 233 rfl rfl, tu_tb_in 45 rfl rfl, co_X2_isSyllable⟩, by decide, by decide, by decide⟩
set_option maxRecDepth 20000 in
theorem co_X0_addSyllable : Cond.code tu_Y_X0_addSyllable.1 tu_Y_X0_addSyllable.2.1 tu_Y_X0_addSyllable.2.2.1 tu_Y_X0_addSyllable.2.2.2.1 ∈ tu_tb := tu_tb_in 263 rfl rfl
set_option maxRecDepth 20000 in
theorem sv_RX0_68 : tu_sV RX0 68 tu_Y_X0_addSyllable 1 := ⟨⟨tu_tb_in 260 rfl rfl, tu_tb_in 261 rfl rfl, tu_tb_in 262 rfl rfl, tu_tb_in 43 rfl rfl, co_X0_addSyllable⟩, by decide, by decide, by decide⟩
set_option maxRecDepth 20000 in
theorem co_X2_isBeat : Cond.code tu_Y_X2_isBeat.1 tu_Y_X2_isBeat.2.1 tu_Y_X2_isBeat.2.2.1 tu_Y_X2_isBeat.2.2.2.1 ∈ tu_tb := tu_tb_in 237 rfl rfl
set_option maxRecDepth 20000 in
theorem ss_RX0_72 : tu_sS RX0 72 tu_Y_X2_isBeat 1 := ⟨⟨tu_tb_in 264 rfl rfl, tu_tb_in 236 rfl rfl, tu_tb_in 45 rfl rfl, co_X2_isBeat⟩, by decide, by decide, by decide⟩
set_option maxRecDepth 20000 in
theorem co_X0_addBeat : Cond.code tu_Y_X0_addBeat.1 tu_Y_X0_addBeat.2.1 tu_Y_X0_addBeat.2.2.1 tu_Y_X0_addBeat.2.2.2.1 ∈ tu_tb := tu_tb_in 268 rfl rfl
set_option maxRecDepth 20000 in
theorem sv_RX0_75 : tu_sV RX0 75 tu_Y_X0_addBeat 1 := ⟨⟨tu_tb_in 265 rfl rfl, tu_tb_in 266 rfl rfl, tu_tb_in 267 rfl rfl, tu_tb_in 43 rfl rfl, co_X0_addBeat⟩, by decide, by decide, by decide⟩
set_option maxRecDepth 20000 in
theorem co_X0_withoutNumber : Cond.code tu_Y_X0_withoutNumber.1 tu_Y_X0_withoutNumber.2.1 tu_Y_X0_withoutNumber.2.2.1 tu_Y_X0_withoutNumber.2.2.2.1 ∈ tu_tb := tu_tb_in 283 rfl rfl
set_option maxRecDepth 20000 in
theorem ss_RX0_78 : tu_sS RX0 78 tu_Y_X0_withoutNumber 3 := ⟨⟨tu_tb_in 281 rfl rfl, tu_tb_in 282 rfl rfl, tu_tb_in 43 rfl rfl, co_X0_withoutNumber⟩, by decide, by decide, by decide⟩
set_option maxRecDepth 20000 in
theorem co_X0_timesIn : Cond.code tu_Y_X0_timesIn.1 tu_Y_X0_timesIn.2.1 tu_Y_X0_timesIn.2.2.1 tu_Y_X0_timesIn.2.2.2.1 ∈ tu_tb := tu_tb_in 352 rfl rfl
set_option maxRecDepth 20000 in
theorem ss_RX0_82 : tu_sS RX0 82 tu_Y_X0_timesIn 3 := ⟨⟨tu_tb_in 350 rfl rfl, tu_tb_in 351 rfl rfl, tu_tb_in 43 rfl rfl, co_X0_timesIn⟩, by decide, by decide, by decide⟩
set_option maxRecDepth 20000 in
theorem co_X0_timesSung : Cond.code tu_Y_X0_timesSung.1 tu_Y_X0_timesSung.2.1 tu_Y_X0_timesSung.2.2.1 tu_Y_X0_timesSung.2.2.2.1 ∈ tu_tb := tu_tb_in 349 rfl rfl
set_option maxRecDepth 20000 in
theorem sv_RX0_85 : tu_sV RX0 85 tu_Y_X0_timesSung 1 := ⟨⟨tu_tb_in 426 rfl rfl, tu_tb_in 347 rfl rfl, tu_tb_in 348 rfl rfl, tu_tb_in 43 rfl rfl, co_X0_timesSung⟩, by decide, by decide, by decide⟩
set_option maxRecDepth 20000 in
theorem co_X1_costOfFree : Cond.code tu_Y_X1_costOfFree.1 tu_Y_X1_costOfFree.2.1 tu_Y_X1_costOfFree.2.2.1 tu_Y_X1_costOfFree.2.2.2.1 ∈ tu_tb := tu_tb_in 374 rfl rfl
set_option maxRecDepth 20000 in
theorem sv_RX1_71 : tu_sV RX1 71 tu_Y_X1_costOfFree 2 := ⟨⟨tu_tb_in 371 rfl rfl, tu_tb_in 373 rfl rfl, tu_tb_in 3 rfl rfl, tu_tb_in 46 rfl rfl, co_X1_costOfFree⟩, by decide, by decide, by decide⟩
set_option maxRecDepth 20000 in
theorem co_X1_mostHeld : Cond.code tu_Y_X1_mostHeld.1 tu_Y_X1_mostHeld.2.1 tu_Y_X1_mostHeld.2.2.1 tu_Y_X1_mostHeld.2.2.2.1 ∈ tu_tb := tu_tb_in 379 rfl rfl
set_option maxRecDepth 20000 in
theorem sv_RX1_76 : tu_sV RX1 76 tu_Y_X1_mostHeld 1 := ⟨⟨tu_tb_in 376 rfl rfl, tu_tb_in 378 rfl rfl, tu_tb_in 4 rfl rfl, tu_tb_in 46 rfl rfl, co_X1_mostHeld⟩, by decide, by decide, by decide⟩
set_option maxRecDepth 20000 in
theorem co_X1_costOfHeld : Cond.code tu_Y_X1_costOfHeld.1 tu_Y_X1_costOfHeld.2.1 tu_Y_X1_costOfHeld.2.2.1 tu_Y_X1_costOfHeld.2.2.2.1 ∈ tu_tb := tu_tb_in 386 rfl rfl
set_option maxRecDepth 20000 in
theorem sv_RX1_80 : tu_sV RX1 80 tu_Y_X1_costOfHeld 3 := ⟨⟨tu_tb_in 383 rfl rfl, tu_tb_in 385 rfl rfl, tu_tb_in 5 rfl rfl, tu_tb_in 46 rfl rfl, co_X1_costOfHeld⟩, by decide, by decide, by decide⟩
set_option maxRecDepth 20000 in
theorem co_X1_hurts : Cond.code tu_Y_X1_hurts.1 tu_Y_X1_hurts.2.1 tu_Y_X1_hurts.2.2.1 tu_Y_X1_hurts.2.2.2.1 ∈ tu_tb := tu_tb_in 390 rfl rfl
set_option maxRecDepth 20000 in
theorem sv_RX1_89 : tu_sV RX1 89 tu_Y_X1_hurts 2 := ⟨⟨tu_tb_in 387 rfl rfl, tu_tb_in 389 rfl rfl, tu_tb_in 6 rfl rfl, tu_tb_in 46 rfl rfl, co_X1_hurts⟩, by decide, by decide, by decide⟩
set_option maxRecDepth 20000 in
theorem co_X1_waysFrom : Cond.code tu_Y_X1_waysFrom.1 tu_Y_X1_waysFrom.2.1 tu_Y_X1_waysFrom.2.2.1 tu_Y_X1_waysFrom.2.2.2.1 ∈ tu_tb := tu_tb_in 442 rfl rfl
set_option maxRecDepth 20000 in
theorem sv_RX1_93 : tu_sV RX1 93 tu_Y_X1_waysFrom 3 := ⟨⟨tu_tb_in 439 rfl rfl, tu_tb_in 441 rfl rfl, tu_tb_in 7 rfl rfl, tu_tb_in 46 rfl rfl, co_X1_waysFrom⟩, by decide, by decide, by decide⟩
set_option maxRecDepth 20000 in
theorem co_X1_heldByBestWay : Cond.code tu_Y_X1_heldByBestWay.1 tu_Y_X1_heldByBestWay.2.1 tu_Y_X1_heldByBestWay.2.2.1 tu_Y_X1_heldByBestWay.2.2.2.1 ∈ tu_tb := tu_tb_in 454 rfl rfl
set_option maxRecDepth 20000 in
theorem sv_RX1_97 : tu_sV RX1 97 tu_Y_X1_heldByBestWay 2 := ⟨⟨tu_tb_in 451 rfl rfl, tu_tb_in 453 rfl rfl, tu_tb_in 8 rfl rfl, tu_tb_in 46 rfl rfl, co_X1_heldByBestWay⟩, by decide, by decide, by decide⟩
set_option maxRecDepth 20000 in
theorem co_X1_findBestWay : Cond.code tu_Y_X1_findBestWay.1 tu_Y_X1_findBestWay.2.1 tu_Y_X1_findBestWay.2.2.1 tu_Y_X1_findBestWay.2.2.2.1 ∈ tu_tb := tu_tb_in 450 rfl rfl
set_option maxRecDepth 20000 in
theorem sv_RX1_100 : tu_sV RX1 100 tu_Y_X1_findBestWay 0 := ⟨⟨tu_tb_in 447 rfl rfl, tu_tb_in 448 rfl rfl, tu_tb_in 449 rfl rfl, tu_tb_in 46 rfl rfl, co_X1_findBestWay⟩, by decide, by decide, by decide⟩
set_option maxRecDepth 20000 in
theorem co_X2_beginsPart : Cond.code tu_Y_X2_beginsPart.1 tu_Y_X2_beginsPart.2.1 tu_Y_X2_beginsPart.2.2.1 tu_Y_X2_beginsPart.2.2.2.1 ∈ tu_tb := tu_tb_in 249 rfl rfl
set_option maxRecDepth 20000 in
theorem sv_RX2_25 : tu_sV RX2 25 tu_Y_X2_beginsPart 1 := ⟨⟨tu_tb_in 246 rfl rfl, tu_tb_in 247 rfl rfl, tu_tb_in 248 rfl rfl, tu_tb_in 45 rfl rfl, co_X2_beginsPart⟩, by decide, by decide, by decide⟩
set_option maxRecDepth 20000 in
theorem ss_RX2_29 : tu_sS RX2 29 tu_Y_X2_isSyllable 1 := ⟨⟨tu_tb_in 232 rfl rfl, tu_tb_in 233 rfl rfl, tu_tb_in 45 rfl rfl, co_X2_isSyllable⟩, by decide, by decide, by decide⟩
set_option maxRecDepth 20000 in
theorem ss_RX2_33 : tu_sS RX2 33 tu_Y_X2_isBeat 1 := ⟨⟨tu_tb_in 235 rfl rfl, tu_tb_in 236 rfl rfl, tu_tb_in 45 rfl rfl, co_X2_isBeat⟩, by decide, by decide, by decide⟩
set_option maxRecDepth 20000 in
theorem co_X3_record : Cond.code tu_Y_X3_record.1 tu_Y_X3_record.2.1 tu_Y_X3_record.2.2.1 tu_Y_X3_record.2.2.2.1 ∈ tu_tb := tu_tb_in 219 rfl rfl
set_option maxRecDepth 20000 in
theorem sv_RX3_52 : tu_sV RX3 52 tu_Y_X3_record 0 := ⟨⟨tu_tb_in 216 rfl rfl, tu_tb_in 218 rfl rfl, tu_tb_in 0 rfl rfl, tu_tb_in 42 rfl rfl, co_X3_record⟩, by decide, by decide, by decide⟩
set_option maxRecDepth 20000 in
theorem co_X2_faultPlace : Cond.code tu_Y_X2_faultPlace.1 tu_Y_X2_faultPlace.2.1 tu_Y_X2_faultPlace.2.2.1 tu_Y_X2_faultPlace.2.2.2.1 ∈ tu_tb := tu_tb_in 231 rfl rfl
set_option maxRecDepth 20000 in
theorem sv_RX3_58 : tu_sV RX3 58 tu_Y_X2_faultPlace 0 := ⟨⟨tu_tb_in 228 rfl rfl, tu_tb_in 229 rfl rfl, tu_tb_in 230 rfl rfl, tu_tb_in 45 rfl rfl, co_X2_faultPlace⟩, by decide, by decide, by decide⟩
set_option maxRecDepth 20000 in
theorem co_X2_phraseParts : Cond.code tu_Y_X2_phraseParts.1 tu_Y_X2_phraseParts.2.1 tu_Y_X2_phraseParts.2.2.1 tu_Y_X2_phraseParts.2.2.2.1 ∈ tu_tb := tu_tb_in 241 rfl rfl
set_option maxRecDepth 20000 in
theorem sv_RX3_62 : tu_sV RX3 62 tu_Y_X2_phraseParts 0 := ⟨⟨tu_tb_in 238 rfl rfl, tu_tb_in 239 rfl rfl, tu_tb_in 240 rfl rfl, tu_tb_in 45 rfl rfl, co_X2_phraseParts⟩, by decide, by decide, by decide⟩
set_option maxRecDepth 20000 in
theorem co_X2_parts : Cond.code tu_Y_X2_parts.1 tu_Y_X2_parts.2.1 tu_Y_X2_parts.2.2.1 tu_Y_X2_parts.2.2.2.1 ∈ tu_tb := tu_tb_in 245 rfl rfl
set_option maxRecDepth 20000 in
theorem sv_RX3_65 : tu_sV RX3 65 tu_Y_X2_parts 0 := ⟨⟨tu_tb_in 242 rfl rfl, tu_tb_in 243 rfl rfl, tu_tb_in 244 rfl rfl, tu_tb_in 45 rfl rfl, co_X2_parts⟩, by decide, by decide, by decide⟩
set_option maxRecDepth 20000 in
theorem sv_RX3_77 : tu_sV RX3 77 tu_Y_X2_beginsPart 1 := ⟨⟨tu_tb_in 250 rfl rfl, tu_tb_in 247 rfl rfl, tu_tb_in 248 rfl rfl, tu_tb_in 45 rfl rfl, co_X2_beginsPart⟩, by decide, by decide, by decide⟩
set_option maxRecDepth 20000 in
theorem co_X0_beginPart : Cond.code tu_Y_X0_beginPart.1 tu_Y_X0_beginPart.2.1 tu_Y_X0_beginPart.2.2.1 tu_Y_X0_beginPart.2.2.2.1 ∈ tu_tb := tu_tb_in 254 rfl rfl
set_option maxRecDepth 20000 in
theorem sv_RX3_85 : tu_sV RX3 85 tu_Y_X0_beginPart 1 := ⟨⟨tu_tb_in 251 rfl rfl, tu_tb_in 252 rfl rfl, tu_tb_in 253 rfl rfl, tu_tb_in 43 rfl rfl, co_X0_beginPart⟩, by decide, by decide, by decide⟩
set_option maxRecDepth 20000 in
theorem co_X0_addSign : Cond.code tu_Y_X0_addSign.1 tu_Y_X0_addSign.2.1 tu_Y_X0_addSign.2.2.1 tu_Y_X0_addSign.2.2.2.1 ∈ tu_tb := tu_tb_in 258 rfl rfl
set_option maxRecDepth 20000 in
theorem sv_RX3_89 : tu_sV RX3 89 tu_Y_X0_addSign 1 := ⟨⟨tu_tb_in 255 rfl rfl, tu_tb_in 256 rfl rfl, tu_tb_in 257 rfl rfl, tu_tb_in 43 rfl rfl, co_X0_addSign⟩, by decide, by decide, by decide⟩
set_option maxRecDepth 20000 in
theorem sv_RX3_93 : tu_sV RX3 93 tu_Y_X0_hasLine 1 := ⟨⟨tu_tb_in 273 rfl rfl, tu_tb_in 274 rfl rfl, tu_tb_in 275 rfl rfl, tu_tb_in 43 rfl rfl, co_X0_hasLine⟩, by decide, by decide, by decide⟩
set_option maxRecDepth 20000 in
theorem co_X0_removeLine : Cond.code tu_Y_X0_removeLine.1 tu_Y_X0_removeLine.2.1 tu_Y_X0_removeLine.2.2.1 tu_Y_X0_removeLine.2.2.2.1 ∈ tu_tb := tu_tb_in 280 rfl rfl
set_option maxRecDepth 20000 in
theorem sv_RX3_96 : tu_sV RX3 96 tu_Y_X0_removeLine 1 := ⟨⟨tu_tb_in 277 rfl rfl, tu_tb_in 278 rfl rfl, tu_tb_in 279 rfl rfl, tu_tb_in 43 rfl rfl, co_X0_removeLine⟩, by decide, by decide, by decide⟩
set_option maxRecDepth 20000 in
theorem sv_RX3_103 : tu_sV RX3 103 tu_Y_X0_hasPhrase 1 := ⟨⟨tu_tb_in 288 rfl rfl, tu_tb_in 289 rfl rfl, tu_tb_in 290 rfl rfl, tu_tb_in 43 rfl rfl, co_X0_hasPhrase⟩, by decide, by decide, by decide⟩
set_option maxRecDepth 20000 in
theorem co_X0_removePhrase : Cond.code tu_Y_X0_removePhrase.1 tu_Y_X0_removePhrase.2.1 tu_Y_X0_removePhrase.2.2.1 tu_Y_X0_removePhrase.2.2.2.1 ∈ tu_tb := tu_tb_in 295 rfl rfl
set_option maxRecDepth 20000 in
theorem sv_RX3_106 : tu_sV RX3 106 tu_Y_X0_removePhrase 1 := ⟨⟨tu_tb_in 292 rfl rfl, tu_tb_in 293 rfl rfl, tu_tb_in 294 rfl rfl, tu_tb_in 43 rfl rfl, co_X0_removePhrase⟩, by decide, by decide, by decide⟩
set_option maxRecDepth 20000 in
theorem co_X0_hasSyllable : Cond.code tu_Y_X0_hasSyllable.1 tu_Y_X0_hasSyllable.2.1 tu_Y_X0_hasSyllable.2.2.1 tu_Y_X0_hasSyllable.2.2.2.1 ∈ tu_tb := tu_tb_in 303 rfl rfl
set_option maxRecDepth 20000 in
theorem sv_RX3_112 : tu_sV RX3 112 tu_Y_X0_hasSyllable 2 := ⟨⟨tu_tb_in 300 rfl rfl, tu_tb_in 301 rfl rfl, tu_tb_in 302 rfl rfl, tu_tb_in 43 rfl rfl, co_X0_hasSyllable⟩, by decide, by decide, by decide⟩
set_option maxRecDepth 20000 in
theorem co_X0_hasBeat : Cond.code tu_Y_X0_hasBeat.1 tu_Y_X0_hasBeat.2.1 tu_Y_X0_hasBeat.2.2.1 tu_Y_X0_hasBeat.2.2.2.1 ∈ tu_tb := tu_tb_in 312 rfl rfl
set_option maxRecDepth 20000 in
theorem sv_RX3_119 : tu_sV RX3 119 tu_Y_X0_hasBeat 2 := ⟨⟨tu_tb_in 309 rfl rfl, tu_tb_in 310 rfl rfl, tu_tb_in 311 rfl rfl, tu_tb_in 43 rfl rfl, co_X0_hasBeat⟩, by decide, by decide, by decide⟩
set_option maxRecDepth 20000 in
theorem co_X0_addToBallad : Cond.code tu_Y_X0_addToBallad.1 tu_Y_X0_addToBallad.2.1 tu_Y_X0_addToBallad.2.2.1 tu_Y_X0_addToBallad.2.2.2.1 ∈ tu_tb := tu_tb_in 321 rfl rfl
set_option maxRecDepth 20000 in
theorem sv_RX3_125 : tu_sV RX3 125 tu_Y_X0_addToBallad 1 := ⟨⟨tu_tb_in 318 rfl rfl, tu_tb_in 319 rfl rfl, tu_tb_in 320 rfl rfl, tu_tb_in 43 rfl rfl, co_X0_addToBallad⟩, by decide, by decide, by decide⟩
set_option maxRecDepth 20000 in
theorem co_X0_addToTune : Cond.code tu_Y_X0_addToTune.1 tu_Y_X0_addToTune.2.1 tu_Y_X0_addToTune.2.2.1 tu_Y_X0_addToTune.2.2.2.1 ∈ tu_tb := tu_tb_in 329 rfl rfl
set_option maxRecDepth 20000 in
theorem sv_RX3_128 : tu_sV RX3 128 tu_Y_X0_addToTune 1 := ⟨⟨tu_tb_in 326 rfl rfl, tu_tb_in 327 rfl rfl, tu_tb_in 328 rfl rfl, tu_tb_in 43 rfl rfl, co_X0_addToTune⟩, by decide, by decide, by decide⟩
set_option maxRecDepth 20000 in
theorem co_X0_stressedOf : Cond.code tu_Y_X0_stressedOf.1 tu_Y_X0_stressedOf.2.1 tu_Y_X0_stressedOf.2.2.1 tu_Y_X0_stressedOf.2.2.2.1 ∈ tu_tb := tu_tb_in 345 rfl rfl
set_option maxRecDepth 20000 in
theorem sv_RX3_134 : tu_sV RX3 134 tu_Y_X0_stressedOf 1 := ⟨⟨tu_tb_in 342 rfl rfl, tu_tb_in 343 rfl rfl, tu_tb_in 344 rfl rfl, tu_tb_in 43 rfl rfl, co_X0_stressedOf⟩, by decide, by decide, by decide⟩
set_option maxRecDepth 20000 in
theorem sv_RX3_138 : tu_sV RX3 138 tu_Y_X0_timesSung 1 := ⟨⟨tu_tb_in 346 rfl rfl, tu_tb_in 347 rfl rfl, tu_tb_in 348 rfl rfl, tu_tb_in 43 rfl rfl, co_X0_timesSung⟩, by decide, by decide, by decide⟩
set_option maxRecDepth 20000 in
theorem co_X3_cheapestPhrase : Cond.code tu_Y_X3_cheapestPhrase.1 tu_Y_X3_cheapestPhrase.2.1 tu_Y_X3_cheapestPhrase.2.2.1 tu_Y_X3_cheapestPhrase.2.2.2.1 ∈ tu_tb := tu_tb_in 356 rfl rfl
set_option maxRecDepth 20000 in
theorem sv_RX3_141 : tu_sV RX3 141 tu_Y_X3_cheapestPhrase 1 := ⟨⟨tu_tb_in 353 rfl rfl, tu_tb_in 355 rfl rfl, tu_tb_in 1 rfl rfl, tu_tb_in 42 rfl rfl, co_X3_cheapestPhrase⟩, by decide, by decide, by decide⟩
set_option maxRecDepth 20000 in
theorem co_X0_beatsOfKind : Cond.code tu_Y_X0_beatsOfKind.1 tu_Y_X0_beatsOfKind.2.1 tu_Y_X0_beatsOfKind.2.2.1 tu_Y_X0_beatsOfKind.2.2.2.1 ∈ tu_tb := tu_tb_in 398 rfl rfl
set_option maxRecDepth 20000 in
theorem sv_RX3_147 : tu_sV RX3 147 tu_Y_X0_beatsOfKind 2 := ⟨⟨tu_tb_in 395 rfl rfl, tu_tb_in 396 rfl rfl, tu_tb_in 397 rfl rfl, tu_tb_in 43 rfl rfl, co_X0_beatsOfKind⟩, by decide, by decide, by decide⟩
set_option maxRecDepth 20000 in
theorem co_X0_timesPlayed : Cond.code tu_Y_X0_timesPlayed.1 tu_Y_X0_timesPlayed.2.1 tu_Y_X0_timesPlayed.2.2.1 tu_Y_X0_timesPlayed.2.2.2.1 ∈ tu_tb := tu_tb_in 402 rfl rfl
set_option maxRecDepth 20000 in
theorem sv_RX3_151 : tu_sV RX3 151 tu_Y_X0_timesPlayed 1 := ⟨⟨tu_tb_in 399 rfl rfl, tu_tb_in 400 rfl rfl, tu_tb_in 401 rfl rfl, tu_tb_in 43 rfl rfl, co_X0_timesPlayed⟩, by decide, by decide, by decide⟩
set_option maxRecDepth 20000 in
theorem co_X0_longestRow : Cond.code tu_Y_X0_longestRow.1 tu_Y_X0_longestRow.2.1 tu_Y_X0_longestRow.2.2.1 tu_Y_X0_longestRow.2.2.2.1 ∈ tu_tb := tu_tb_in 406 rfl rfl
set_option maxRecDepth 20000 in
theorem sv_RX3_154 : tu_sV RX3 154 tu_Y_X0_longestRow 1 := ⟨⟨tu_tb_in 403 rfl rfl, tu_tb_in 404 rfl rfl, tu_tb_in 405 rfl rfl, tu_tb_in 43 rfl rfl, co_X0_longestRow⟩, by decide, by decide, by decide⟩
set_option maxRecDepth 20000 in
theorem co_X0_burdens : Cond.code tu_Y_X0_burdens.1 tu_Y_X0_burdens.2.1 tu_Y_X0_burdens.2.2.1 tu_Y_X0_burdens.2.2.2.1 ∈ tu_tb := tu_tb_in 425 rfl rfl
set_option maxRecDepth 20000 in
theorem sv_RX3_157 : tu_sV RX3 157 tu_Y_X0_burdens 0 := ⟨⟨tu_tb_in 422 rfl rfl, tu_tb_in 423 rfl rfl, tu_tb_in 424 rfl rfl, tu_tb_in 43 rfl rfl, co_X0_burdens⟩, by decide, by decide, by decide⟩
set_option maxRecDepth 20000 in
theorem co_X3_leastCostOf : Cond.code tu_Y_X3_leastCostOf.1 tu_Y_X3_leastCostOf.2.1 tu_Y_X3_leastCostOf.2.2.1 tu_Y_X3_leastCostOf.2.2.2.1 ∈ tu_tb := tu_tb_in 361 rfl rfl
set_option maxRecDepth 20000 in
theorem sv_RX3_166 : tu_sV RX3 166 tu_Y_X3_leastCostOf 2 := ⟨⟨tu_tb_in 358 rfl rfl, tu_tb_in 360 rfl rfl, tu_tb_in 2 rfl rfl, tu_tb_in 42 rfl rfl, co_X3_leastCostOf⟩, by decide, by decide, by decide⟩
set_option maxRecDepth 20000 in
theorem co_X1_countWays : Cond.code tu_Y_X1_countWays.1 tu_Y_X1_countWays.2.1 tu_Y_X1_countWays.2.2.1 tu_Y_X1_countWays.2.2.2.1 ∈ tu_tb := tu_tb_in 438 rfl rfl
set_option maxRecDepth 20000 in
theorem sv_RX3_170 : tu_sV RX3 170 tu_Y_X1_countWays 1 := ⟨⟨tu_tb_in 435 rfl rfl, tu_tb_in 436 rfl rfl, tu_tb_in 437 rfl rfl, tu_tb_in 46 rfl rfl, co_X1_countWays⟩, by decide, by decide, by decide⟩
set_option maxRecDepth 20000 in
theorem co_X1_freeBeats : Cond.code tu_Y_X1_freeBeats.1 tu_Y_X1_freeBeats.2.1 tu_Y_X1_freeBeats.2.2.1 tu_Y_X1_freeBeats.2.2.2.1 ∈ tu_tb := tu_tb_in 446 rfl rfl
set_option maxRecDepth 20000 in
theorem sv_RX3_174 : tu_sV RX3 174 tu_Y_X1_freeBeats 0 := ⟨⟨tu_tb_in 443 rfl rfl, tu_tb_in 444 rfl rfl, tu_tb_in 445 rfl rfl, tu_tb_in 46 rfl rfl, co_X1_freeBeats⟩, by decide, by decide, by decide⟩
set_option maxRecDepth 20000 in
theorem co_X1_hurtSyllables : Cond.code tu_Y_X1_hurtSyllables.1 tu_Y_X1_hurtSyllables.2.1 tu_Y_X1_hurtSyllables.2.2.1 tu_Y_X1_hurtSyllables.2.2.2.1 ∈ tu_tb := tu_tb_in 458 rfl rfl
set_option maxRecDepth 20000 in
theorem sv_RX3_177 : tu_sV RX3 177 tu_Y_X1_hurtSyllables 0 := ⟨⟨tu_tb_in 455 rfl rfl, tu_tb_in 456 rfl rfl, tu_tb_in 457 rfl rfl, tu_tb_in 46 rfl rfl, co_X1_hurtSyllables⟩, by decide, by decide, by decide⟩
set_option maxRecDepth 20000 in
theorem sv_RX3_180 : tu_sV RX3 180 tu_Y_X1_findBestWay 0 := ⟨⟨tu_tb_in 463 rfl rfl, tu_tb_in 448 rfl rfl, tu_tb_in 449 rfl rfl, tu_tb_in 46 rfl rfl, co_X1_findBestWay⟩, by decide, by decide, by decide⟩
set_option maxRecDepth 20000 in
theorem co_X1_take : Cond.code tu_Y_X1_take.1 tu_Y_X1_take.2.1 tu_Y_X1_take.2.2.1 tu_Y_X1_take.2.2.2.1 ∈ tu_tb := tu_tb_in 365 rfl rfl
set_option maxRecDepth 20000 in
theorem sv_RX3_189 : tu_sV RX3 189 tu_Y_X1_take 3 := ⟨⟨tu_tb_in 362 rfl rfl, tu_tb_in 363 rfl rfl, tu_tb_in 364 rfl rfl, tu_tb_in 46 rfl rfl, co_X1_take⟩, by decide, by decide, by decide⟩
set_option maxRecDepth 20000 in
theorem co_X1_turnStress : Cond.code tu_Y_X1_turnStress.1 tu_Y_X1_turnStress.2.1 tu_Y_X1_turnStress.2.2.1 tu_Y_X1_turnStress.2.2.2.1 ∈ tu_tb := tu_tb_in 479 rfl rfl
set_option maxRecDepth 20000 in
theorem sv_RX3_193 : tu_sV RX3 193 tu_Y_X1_turnStress 1 := ⟨⟨tu_tb_in 476 rfl rfl, tu_tb_in 477 rfl rfl, tu_tb_in 478 rfl rfl, tu_tb_in 46 rfl rfl, co_X1_turnStress⟩, by decide, by decide, by decide⟩
set_option maxRecDepth 20000 in
theorem co_X1_leastCost : Cond.code tu_Y_X1_leastCost.1 tu_Y_X1_leastCost.2.1 tu_Y_X1_leastCost.2.2.1 tu_Y_X1_leastCost.2.2.2.1 ∈ tu_tb := tu_tb_in 370 rfl rfl
set_option maxRecDepth 20000 in
theorem sv_RX3_196 : tu_sV RX3 196 tu_Y_X1_leastCost 0 := ⟨⟨tu_tb_in 367 rfl rfl, tu_tb_in 368 rfl rfl, tu_tb_in 369 rfl rfl, tu_tb_in 46 rfl rfl, co_X1_leastCost⟩, by decide, by decide, by decide⟩
set_option maxRecDepth 20000 in
theorem co_X2_signsIn : Cond.code tu_Y_X2_signsIn.1 tu_Y_X2_signsIn.2.1 tu_Y_X2_signsIn.2.2.1 tu_Y_X2_signsIn.2.2.2.1 ∈ tu_tb := tu_tb_in 490 rfl rfl
set_option maxRecDepth 20000 in
theorem ss_RX3_202 : tu_sS RX3 202 tu_Y_X2_signsIn 1 := ⟨⟨tu_tb_in 488 rfl rfl, tu_tb_in 489 rfl rfl, tu_tb_in 45 rfl rfl, co_X2_signsIn⟩, by decide, by decide, by decide⟩
set_option maxRecDepth 20000 in
theorem co_X2_append : Cond.code tu_Y_X2_append.1 tu_Y_X2_append.2.1 tu_Y_X2_append.2.2.1 tu_Y_X2_append.2.2.2.1 ∈ tu_tb := tu_tb_in 497 rfl rfl
set_option maxRecDepth 20000 in
theorem sv_RX3_206 : tu_sV RX3 206 tu_Y_X2_append 2 := ⟨⟨tu_tb_in 494 rfl rfl, tu_tb_in 495 rfl rfl, tu_tb_in 496 rfl rfl, tu_tb_in 45 rfl rfl, co_X2_append⟩, by decide, by decide, by decide⟩
set_option maxRecDepth 20000 in
theorem co_X0_takeOver : Cond.code tu_Y_X0_takeOver.1 tu_Y_X0_takeOver.2.1 tu_Y_X0_takeOver.2.2.1 tu_Y_X0_takeOver.2.2.2.1 ∈ tu_tb := tu_tb_in 223 rfl rfl
set_option maxRecDepth 20000 in
theorem sv_RX3_210 : tu_sV RX3 210 tu_Y_X0_takeOver 1 := ⟨⟨tu_tb_in 220 rfl rfl, tu_tb_in 221 rfl rfl, tu_tb_in 222 rfl rfl, tu_tb_in 43 rfl rfl, co_X0_takeOver⟩, by decide, by decide, by decide⟩
set_option maxRecDepth 20000 in
theorem co_X4_moves : Cond.code tu_Y_X4_moves.1 tu_Y_X4_moves.2.1 tu_Y_X4_moves.2.2.1 tu_Y_X4_moves.2.2.2.1 ∈ tu_tb := tu_tb_in 595 rfl rfl
set_option maxRecDepth 20000 in
theorem ss_RX4_44 : tu_sS RX4 44 tu_Y_X4_moves 4 := ⟨⟨tu_tb_in 593 rfl rfl, tu_tb_in 594 rfl rfl, tu_tb_in 47 rfl rfl, co_X4_moves⟩, by decide, by decide, by decide⟩
set_option maxRecDepth 20000 in
theorem co_X4_within : Cond.code tu_Y_X4_within.1 tu_Y_X4_within.2.1 tu_Y_X4_within.2.2.1 tu_Y_X4_within.2.2.2.1 ∈ tu_tb := tu_tb_in 588 rfl rfl
set_option maxRecDepth 20000 in
theorem ss_RX4_48 : tu_sS RX4 48 tu_Y_X4_within 3 := ⟨⟨tu_tb_in 586 rfl rfl, tu_tb_in 587 rfl rfl, tu_tb_in 47 rfl rfl, co_X4_within⟩, by decide, by decide, by decide⟩
set_option maxRecDepth 20000 in
theorem co_X4_isLine : Cond.code tu_Y_X4_isLine.1 tu_Y_X4_isLine.2.1 tu_Y_X4_isLine.2.2.1 tu_Y_X4_isLine.2.2.2.1 ∈ tu_tb := tu_tb_in 623 rfl rfl
set_option maxRecDepth 20000 in
theorem sv_RX4_52 : tu_sV RX4 52 tu_Y_X4_isLine 1 := ⟨⟨tu_tb_in 620 rfl rfl, tu_tb_in 622 rfl rfl, tu_tb_in 14 rfl rfl, tu_tb_in 47 rfl rfl, co_X4_isLine⟩, by decide, by decide, by decide⟩
set_option maxRecDepth 20000 in
theorem co_X4_lineLength : Cond.code tu_Y_X4_lineLength.1 tu_Y_X4_lineLength.2.1 tu_Y_X4_lineLength.2.2.1 tu_Y_X4_lineLength.2.2.2.1 ∈ tu_tb := tu_tb_in 647 rfl rfl
set_option maxRecDepth 20000 in
theorem sv_RX4_56 : tu_sV RX4 56 tu_Y_X4_lineLength 1 := ⟨⟨tu_tb_in 644 rfl rfl, tu_tb_in 646 rfl rfl, tu_tb_in 18 rfl rfl, tu_tb_in 47 rfl rfl, co_X4_lineLength⟩, by decide, by decide, by decide⟩
set_option maxRecDepth 20000 in
theorem co_X4_isPhrase : Cond.code tu_Y_X4_isPhrase.1 tu_Y_X4_isPhrase.2.1 tu_Y_X4_isPhrase.2.2.1 tu_Y_X4_isPhrase.2.2.2.1 ∈ tu_tb := tu_tb_in 635 rfl rfl
set_option maxRecDepth 20000 in
theorem sv_RX4_60 : tu_sV RX4 60 tu_Y_X4_isPhrase 1 := ⟨⟨tu_tb_in 632 rfl rfl, tu_tb_in 634 rfl rfl, tu_tb_in 16 rfl rfl, tu_tb_in 47 rfl rfl, co_X4_isPhrase⟩, by decide, by decide, by decide⟩
set_option maxRecDepth 20000 in
theorem co_X4_phraseLength : Cond.code tu_Y_X4_phraseLength.1 tu_Y_X4_phraseLength.2.1 tu_Y_X4_phraseLength.2.2.1 tu_Y_X4_phraseLength.2.2.2.1 ∈ tu_tb := tu_tb_in 659 rfl rfl
set_option maxRecDepth 20000 in
theorem sv_RX4_63 : tu_sV RX4 63 tu_Y_X4_phraseLength 1 := ⟨⟨tu_tb_in 656 rfl rfl, tu_tb_in 658 rfl rfl, tu_tb_in 20 rfl rfl, tu_tb_in 47 rfl rfl, co_X4_phraseLength⟩, by decide, by decide, by decide⟩
set_option maxRecDepth 20000 in
theorem co_X4_has : Cond.code tu_Y_X4_has.1 tu_Y_X4_has.2.1 tu_Y_X4_has.2.2.1 tu_Y_X4_has.2.2.2.1 ∈ tu_tb := tu_tb_in 666 rfl rfl
set_option maxRecDepth 20000 in
theorem ss_RX4_84 : tu_sS RX4 84 tu_Y_X4_has 2 := ⟨⟨tu_tb_in 664 rfl rfl, tu_tb_in 665 rfl rfl, tu_tb_in 47 rfl rfl, co_X4_has⟩, by decide, by decide, by decide⟩
set_option maxRecDepth 20000 in
theorem co_X4_hurts : Cond.code tu_Y_X4_hurts.1 tu_Y_X4_hurts.2.1 tu_Y_X4_hurts.2.2.1 tu_Y_X4_hurts.2.2.2.1 ∈ tu_tb := tu_tb_in 738 rfl rfl
set_option maxRecDepth 20000 in
theorem sv_RX4_89 : tu_sV RX4 89 tu_Y_X4_hurts 2 := ⟨⟨tu_tb_in 735 rfl rfl, tu_tb_in 737 rfl rfl, tu_tb_in 32 rfl rfl, tu_tb_in 47 rfl rfl, co_X4_hurts⟩, by decide, by decide, by decide⟩
set_option maxRecDepth 20000 in
theorem co_X4_capped : Cond.code tu_Y_X4_capped.1 tu_Y_X4_capped.2.1 tu_Y_X4_capped.2.2.1 tu_Y_X4_capped.2.2.2.1 ∈ tu_tb := tu_tb_in 729 rfl rfl
set_option maxRecDepth 20000 in
theorem ss_RX4_93 : tu_sS RX4 93 tu_Y_X4_capped 1 := ⟨⟨tu_tb_in 727 rfl rfl, tu_tb_in 728 rfl rfl, tu_tb_in 47 rfl rfl, co_X4_capped⟩, by decide, by decide, by decide⟩
set_option maxRecDepth 20000 in
theorem co_X4_costFree : Cond.code tu_Y_X4_costFree.1 tu_Y_X4_costFree.2.1 tu_Y_X4_costFree.2.2.1 tu_Y_X4_costFree.2.2.2.1 ∈ tu_tb := tu_tb_in 722 rfl rfl
set_option maxRecDepth 20000 in
theorem sv_RX4_96 : tu_sV RX4 96 tu_Y_X4_costFree 2 := ⟨⟨tu_tb_in 719 rfl rfl, tu_tb_in 721 rfl rfl, tu_tb_in 29 rfl rfl, tu_tb_in 47 rfl rfl, co_X4_costFree⟩, by decide, by decide, by decide⟩
set_option maxRecDepth 20000 in
theorem co_X4_takesIn : Cond.code tu_Y_X4_takesIn.1 tu_Y_X4_takesIn.2.1 tu_Y_X4_takesIn.2.2.1 tu_Y_X4_takesIn.2.2.2.1 ∈ tu_tb := tu_tb_in 726 rfl rfl
set_option maxRecDepth 20000 in
theorem sv_RX4_100 : tu_sV RX4 100 tu_Y_X4_takesIn 3 := ⟨⟨tu_tb_in 723 rfl rfl, tu_tb_in 725 rfl rfl, tu_tb_in 30 rfl rfl, tu_tb_in 47 rfl rfl, co_X4_takesIn⟩, by decide, by decide, by decide⟩
set_option maxRecDepth 20000 in
theorem co_X4_costOn : Cond.code tu_Y_X4_costOn.1 tu_Y_X4_costOn.2.1 tu_Y_X4_costOn.2.2.1 tu_Y_X4_costOn.2.2.2.1 ∈ tu_tb := tu_tb_in 734 rfl rfl
set_option maxRecDepth 20000 in
theorem sv_RX4_104 : tu_sV RX4 104 tu_Y_X4_costOn 3 := ⟨⟨tu_tb_in 731 rfl rfl, tu_tb_in 733 rfl rfl, tu_tb_in 31 rfl rfl, tu_tb_in 47 rfl rfl, co_X4_costOn⟩, by decide, by decide, by decide⟩
set_option maxRecDepth 20000 in
theorem co_X4_findAt : Cond.code tu_Y_X4_findAt.1 tu_Y_X4_findAt.2.1 tu_Y_X4_findAt.2.2.1 tu_Y_X4_findAt.2.2.2.1 ∈ tu_tb := tu_tb_in 718 rfl rfl
set_option maxRecDepth 20000 in
theorem sv_RX4_108 : tu_sV RX4 108 tu_Y_X4_findAt 2 := ⟨⟨tu_tb_in 715 rfl rfl, tu_tb_in 717 rfl rfl, tu_tb_in 28 rfl rfl, tu_tb_in 47 rfl rfl, co_X4_findAt⟩, by decide, by decide, by decide⟩
set_option maxRecDepth 20000 in
theorem co_X4_beatsFrom : Cond.code tu_Y_X4_beatsFrom.1 tu_Y_X4_beatsFrom.2.1 tu_Y_X4_beatsFrom.2.2.1 tu_Y_X4_beatsFrom.2.2.2.1 ∈ tu_tb := tu_tb_in 786 rfl rfl
set_option maxRecDepth 20000 in
theorem sv_RX4_112 : tu_sV RX4 112 tu_Y_X4_beatsFrom 2 := ⟨⟨tu_tb_in 783 rfl rfl, tu_tb_in 785 rfl rfl, tu_tb_in 38 rfl rfl, tu_tb_in 47 rfl rfl, co_X4_beatsFrom⟩, by decide, by decide, by decide⟩
set_option maxRecDepth 20000 in
theorem co_X4_look : Cond.code tu_Y_X4_look.1 tu_Y_X4_look.2.1 tu_Y_X4_look.2.2.1 tu_Y_X4_look.2.2.2.1 ∈ tu_tb := tu_tb_in 710 rfl rfl
set_option maxRecDepth 20000 in
theorem sv_RX4_115 : tu_sV RX4 115 tu_Y_X4_look 2 := ⟨⟨tu_tb_in 707 rfl rfl, tu_tb_in 709 rfl rfl, tu_tb_in 26 rfl rfl, tu_tb_in 47 rfl rfl, co_X4_look⟩, by decide, by decide, by decide⟩
set_option maxRecDepth 20000 in
theorem co_X4_findCost : Cond.code tu_Y_X4_findCost.1 tu_Y_X4_findCost.2.1 tu_Y_X4_findCost.2.2.1 tu_Y_X4_findCost.2.2.2.1 ∈ tu_tb := tu_tb_in 714 rfl rfl
set_option maxRecDepth 20000 in
theorem sv_RX4_118 : tu_sV RX4 118 tu_Y_X4_findCost 0 := ⟨⟨tu_tb_in 711 rfl rfl, tu_tb_in 713 rfl rfl, tu_tb_in 27 rfl rfl, tu_tb_in 47 rfl rfl, co_X4_findCost⟩, by decide, by decide, by decide⟩
set_option maxRecDepth 20000 in
theorem co_X4_findWay : Cond.code tu_Y_X4_findWay.1 tu_Y_X4_findWay.2.1 tu_Y_X4_findWay.2.2.1 tu_Y_X4_findWay.2.2.2.1 ∈ tu_tb := tu_tb_in 782 rfl rfl
set_option maxRecDepth 20000 in
theorem sv_RX4_122 : tu_sV RX4 122 tu_Y_X4_findWay 0 := ⟨⟨tu_tb_in 779 rfl rfl, tu_tb_in 781 rfl rfl, tu_tb_in 37 rfl rfl, tu_tb_in 47 rfl rfl, co_X4_findWay⟩, by decide, by decide, by decide⟩
set_option maxRecDepth 20000 in
theorem co_X4_bits : Cond.code tu_Y_X4_bits.1 tu_Y_X4_bits.2.1 tu_Y_X4_bits.2.2.1 tu_Y_X4_bits.2.2.2.1 ∈ tu_tb := tu_tb_in 693 rfl rfl
set_option maxRecDepth 20000 in
theorem ss_RX4_125 : tu_sS RX4 125 tu_Y_X4_bits 1 := ⟨⟨tu_tb_in 691 rfl rfl, tu_tb_in 692 rfl rfl, tu_tb_in 47 rfl rfl, co_X4_bits⟩, by decide, by decide, by decide⟩
set_option maxRecDepth 20000 in
theorem co_X4_isValue : Cond.code tu_Y_X4_isValue.1 tu_Y_X4_isValue.2.1 tu_Y_X4_isValue.2.2.1 tu_Y_X4_isValue.2.2.2.1 ∈ tu_tb := tu_tb_in 585 rfl rfl
set_option maxRecDepth 20000 in
theorem ss_RX4_128 : tu_sS RX4 128 tu_Y_X4_isValue 2 := ⟨⟨tu_tb_in 583 rfl rfl, tu_tb_in 584 rfl rfl, tu_tb_in 47 rfl rfl, co_X4_isValue⟩, by decide, by decide, by decide⟩
set_option maxRecDepth 20000 in
theorem co_X4_record : Cond.code tu_Y_X4_record.1 tu_Y_X4_record.2.1 tu_Y_X4_record.2.2.1 tu_Y_X4_record.2.2.2.1 ∈ tu_tb := tu_tb_in 592 rfl rfl
set_option maxRecDepth 20000 in
theorem sv_RX4_131 : tu_sV RX4 131 tu_Y_X4_record 0 := ⟨⟨tu_tb_in 589 rfl rfl, tu_tb_in 591 rfl rfl, tu_tb_in 9 rfl rfl, tu_tb_in 47 rfl rfl, co_X4_record⟩, by decide, by decide, by decide⟩
set_option maxRecDepth 20000 in
theorem co_X4_findFault : Cond.code tu_Y_X4_findFault.1 tu_Y_X4_findFault.2.1 tu_Y_X4_findFault.2.2.1 tu_Y_X4_findFault.2.2.2.1 ∈ tu_tb := tu_tb_in 603 rfl rfl
set_option maxRecDepth 20000 in
theorem sv_RX4_137 : tu_sV RX4 137 tu_Y_X4_findFault 0 := ⟨⟨tu_tb_in 600 rfl rfl, tu_tb_in 602 rfl rfl, tu_tb_in 10 rfl rfl, tu_tb_in 47 rfl rfl, co_X4_findFault⟩, by decide, by decide, by decide⟩
set_option maxRecDepth 20000 in
theorem co_X4_parts : Cond.code tu_Y_X4_parts.1 tu_Y_X4_parts.2.1 tu_Y_X4_parts.2.2.1 tu_Y_X4_parts.2.2.2.1 ∈ tu_tb := tu_tb_in 607 rfl rfl
set_option maxRecDepth 20000 in
theorem sv_RX4_140 : tu_sV RX4 140 tu_Y_X4_parts 1 := ⟨⟨tu_tb_in 604 rfl rfl, tu_tb_in 606 rfl rfl, tu_tb_in 11 rfl rfl, tu_tb_in 47 rfl rfl, co_X4_parts⟩, by decide, by decide, by decide⟩
set_option maxRecDepth 20000 in
theorem co_X4_writePhrase : Cond.code tu_Y_X4_writePhrase.1 tu_Y_X4_writePhrase.2.1 tu_Y_X4_writePhrase.2.2.1 tu_Y_X4_writePhrase.2.2.2.1 ∈ tu_tb := tu_tb_in 611 rfl rfl
set_option maxRecDepth 20000 in
theorem sv_RX4_144 : tu_sV RX4 144 tu_Y_X4_writePhrase 1 := ⟨⟨tu_tb_in 608 rfl rfl, tu_tb_in 610 rfl rfl, tu_tb_in 12 rfl rfl, tu_tb_in 47 rfl rfl, co_X4_writePhrase⟩, by decide, by decide, by decide⟩
set_option maxRecDepth 20000 in
theorem co_X4_writeLine : Cond.code tu_Y_X4_writeLine.1 tu_Y_X4_writeLine.2.1 tu_Y_X4_writeLine.2.2.1 tu_Y_X4_writeLine.2.2.2.1 ∈ tu_tb := tu_tb_in 615 rfl rfl
set_option maxRecDepth 20000 in
theorem sv_RX4_147 : tu_sV RX4 147 tu_Y_X4_writeLine 1 := ⟨⟨tu_tb_in 612 rfl rfl, tu_tb_in 614 rfl rfl, tu_tb_in 13 rfl rfl, tu_tb_in 47 rfl rfl, co_X4_writeLine⟩, by decide, by decide, by decide⟩
set_option maxRecDepth 20000 in
theorem co_X4_goes : Cond.code tu_Y_X4_goes.1 tu_Y_X4_goes.2.1 tu_Y_X4_goes.2.2.1 tu_Y_X4_goes.2.2.2.1 ∈ tu_tb := tu_tb_in 627 rfl rfl
set_option maxRecDepth 20000 in
theorem sv_RX4_150 : tu_sV RX4 150 tu_Y_X4_goes 3 := ⟨⟨tu_tb_in 624 rfl rfl, tu_tb_in 626 rfl rfl, tu_tb_in 15 rfl rfl, tu_tb_in 47 rfl rfl, co_X4_goes⟩, by decide, by decide, by decide⟩
set_option maxRecDepth 20000 in
theorem co_X4_isSyllable : Cond.code tu_Y_X4_isSyllable.1 tu_Y_X4_isSyllable.2.1 tu_Y_X4_isSyllable.2.2.1 tu_Y_X4_isSyllable.2.2.2.1 ∈ tu_tb := tu_tb_in 643 rfl rfl
set_option maxRecDepth 20000 in
theorem sv_RX4_153 : tu_sV RX4 153 tu_Y_X4_isSyllable 2 := ⟨⟨tu_tb_in 640 rfl rfl, tu_tb_in 642 rfl rfl, tu_tb_in 17 rfl rfl, tu_tb_in 47 rfl rfl, co_X4_isSyllable⟩, by decide, by decide, by decide⟩
set_option maxRecDepth 20000 in
theorem co_X4_isBeat : Cond.code tu_Y_X4_isBeat.1 tu_Y_X4_isBeat.2.1 tu_Y_X4_isBeat.2.2.1 tu_Y_X4_isBeat.2.2.2.1 ∈ tu_tb := tu_tb_in 655 rfl rfl
set_option maxRecDepth 20000 in
theorem sv_RX4_156 : tu_sV RX4 156 tu_Y_X4_isBeat 2 := ⟨⟨tu_tb_in 652 rfl rfl, tu_tb_in 654 rfl rfl, tu_tb_in 19 rfl rfl, tu_tb_in 47 rfl rfl, co_X4_isBeat⟩, by decide, by decide, by decide⟩
set_option maxRecDepth 20000 in
theorem co_X4_kindAt : Cond.code tu_Y_X4_kindAt.1 tu_Y_X4_kindAt.2.1 tu_Y_X4_kindAt.2.2.1 tu_Y_X4_kindAt.2.2.2.1 ∈ tu_tb := tu_tb_in 663 rfl rfl
set_option maxRecDepth 20000 in
theorem sv_RX4_159 : tu_sV RX4 159 tu_Y_X4_kindAt 2 := ⟨⟨tu_tb_in 660 rfl rfl, tu_tb_in 662 rfl rfl, tu_tb_in 21 rfl rfl, tu_tb_in 47 rfl rfl, co_X4_kindAt⟩, by decide, by decide, by decide⟩
set_option maxRecDepth 20000 in
theorem co_X4_sings : Cond.code tu_Y_X4_sings.1 tu_Y_X4_sings.2.1 tu_Y_X4_sings.2.2.1 tu_Y_X4_sings.2.2.2.1 ∈ tu_tb := tu_tb_in 674 rfl rfl
set_option maxRecDepth 20000 in
theorem sv_RX4_162 : tu_sV RX4 162 tu_Y_X4_sings 1 := ⟨⟨tu_tb_in 671 rfl rfl, tu_tb_in 673 rfl rfl, tu_tb_in 22 rfl rfl, tu_tb_in 47 rfl rfl, co_X4_sings⟩, by decide, by decide, by decide⟩
set_option maxRecDepth 20000 in
theorem co_X4_costOf : Cond.code tu_Y_X4_costOf.1 tu_Y_X4_costOf.2.1 tu_Y_X4_costOf.2.2.1 tu_Y_X4_costOf.2.2.2.1 ∈ tu_tb := tu_tb_in 706 rfl rfl
set_option maxRecDepth 20000 in
theorem sv_RX4_166 : tu_sV RX4 166 tu_Y_X4_costOf 2 := ⟨⟨tu_tb_in 703 rfl rfl, tu_tb_in 705 rfl rfl, tu_tb_in 25 rfl rfl, tu_tb_in 47 rfl rfl, co_X4_costOf⟩, by decide, by decide, by decide⟩
set_option maxRecDepth 20000 in
theorem co_X4_sungTimes : Cond.code tu_Y_X4_sungTimes.1 tu_Y_X4_sungTimes.2.1 tu_Y_X4_sungTimes.2.2.1 tu_Y_X4_sungTimes.2.2.2.1 ∈ tu_tb := tu_tb_in 697 rfl rfl
set_option maxRecDepth 20000 in
theorem sv_RX4_169 : tu_sV RX4 169 tu_Y_X4_sungTimes 1 := ⟨⟨tu_tb_in 694 rfl rfl, tu_tb_in 696 rfl rfl, tu_tb_in 23 rfl rfl, tu_tb_in 47 rfl rfl, co_X4_sungTimes⟩, by decide, by decide, by decide⟩
set_option maxRecDepth 20000 in
theorem co_X4_cheapestPhrase : Cond.code tu_Y_X4_cheapestPhrase.1 tu_Y_X4_cheapestPhrase.2.1 tu_Y_X4_cheapestPhrase.2.2.1 tu_Y_X4_cheapestPhrase.2.2.2.1 ∈ tu_tb := tu_tb_in 701 rfl rfl
set_option maxRecDepth 20000 in
theorem sv_RX4_172 : tu_sV RX4 172 tu_Y_X4_cheapestPhrase 1 := ⟨⟨tu_tb_in 698 rfl rfl, tu_tb_in 700 rfl rfl, tu_tb_in 24 rfl rfl, tu_tb_in 47 rfl rfl, co_X4_cheapestPhrase⟩, by decide, by decide, by decide⟩
set_option maxRecDepth 20000 in
theorem co_X4_playedTimes : Cond.code tu_Y_X4_playedTimes.1 tu_Y_X4_playedTimes.2.1 tu_Y_X4_playedTimes.2.2.1 tu_Y_X4_playedTimes.2.2.2.1 ∈ tu_tb := tu_tb_in 746 rfl rfl
set_option maxRecDepth 20000 in
theorem sv_RX4_175 : tu_sV RX4 175 tu_Y_X4_playedTimes 1 := ⟨⟨tu_tb_in 743 rfl rfl, tu_tb_in 745 rfl rfl, tu_tb_in 33 rfl rfl, tu_tb_in 47 rfl rfl, co_X4_playedTimes⟩, by decide, by decide, by decide⟩
set_option maxRecDepth 20000 in
theorem co_X4_longestRow : Cond.code tu_Y_X4_longestRow.1 tu_Y_X4_longestRow.2.1 tu_Y_X4_longestRow.2.2.1 tu_Y_X4_longestRow.2.2.2.1 ∈ tu_tb := tu_tb_in 750 rfl rfl
set_option maxRecDepth 20000 in
theorem sv_RX4_178 : tu_sV RX4 178 tu_Y_X4_longestRow 1 := ⟨⟨tu_tb_in 747 rfl rfl, tu_tb_in 749 rfl rfl, tu_tb_in 34 rfl rfl, tu_tb_in 47 rfl rfl, co_X4_longestRow⟩, by decide, by decide, by decide⟩
set_option maxRecDepth 20000 in
theorem co_X4_burdens : Cond.code tu_Y_X4_burdens.1 tu_Y_X4_burdens.2.1 tu_Y_X4_burdens.2.2.1 tu_Y_X4_burdens.2.2.2.1 ∈ tu_tb := tu_tb_in 766 rfl rfl
set_option maxRecDepth 20000 in
theorem sv_RX4_181 : tu_sV RX4 181 tu_Y_X4_burdens 0 := ⟨⟨tu_tb_in 763 rfl rfl, tu_tb_in 765 rfl rfl, tu_tb_in 35 rfl rfl, tu_tb_in 47 rfl rfl, co_X4_burdens⟩, by decide, by decide, by decide⟩
set_option maxRecDepth 20000 in
theorem co_X4_freeBeats : Cond.code tu_Y_X4_freeBeats.1 tu_Y_X4_freeBeats.2.1 tu_Y_X4_freeBeats.2.2.1 tu_Y_X4_freeBeats.2.2.2.1 ∈ tu_tb := tu_tb_in 778 rfl rfl
set_option maxRecDepth 20000 in
theorem sv_RX4_184 : tu_sV RX4 184 tu_Y_X4_freeBeats 0 := ⟨⟨tu_tb_in 775 rfl rfl, tu_tb_in 777 rfl rfl, tu_tb_in 36 rfl rfl, tu_tb_in 47 rfl rfl, co_X4_freeBeats⟩, by decide, by decide, by decide⟩
set_option maxRecDepth 20000 in
theorem co_X4_hurting : Cond.code tu_Y_X4_hurting.1 tu_Y_X4_hurting.2.1 tu_Y_X4_hurting.2.2.1 tu_Y_X4_hurting.2.2.2.1 ∈ tu_tb := tu_tb_in 790 rfl rfl
set_option maxRecDepth 20000 in
theorem sv_RX4_187 : tu_sV RX4 187 tu_Y_X4_hurting 0 := ⟨⟨tu_tb_in 787 rfl rfl, tu_tb_in 789 rfl rfl, tu_tb_in 39 rfl rfl, tu_tb_in 47 rfl rfl, co_X4_hurting⟩, by decide, by decide, by decide⟩
set_option maxRecDepth 20000 in
theorem co_X4_phraseFor : Cond.code tu_Y_X4_phraseFor.1 tu_Y_X4_phraseFor.2.1 tu_Y_X4_phraseFor.2.2.1 tu_Y_X4_phraseFor.2.2.2.1 ∈ tu_tb := tu_tb_in 802 rfl rfl
set_option maxRecDepth 20000 in
theorem sv_RX4_190 : tu_sV RX4 190 tu_Y_X4_phraseFor 1 := ⟨⟨tu_tb_in 799 rfl rfl, tu_tb_in 801 rfl rfl, tu_tb_in 40 rfl rfl, tu_tb_in 47 rfl rfl, co_X4_phraseFor⟩, by decide, by decide, by decide⟩
set_option maxRecDepth 20000 in
theorem co_X3_set : Cond.code tu_Y_X3_set.1 tu_Y_X3_set.2.1 tu_Y_X3_set.2.2.1 tu_Y_X3_set.2.2.2.1 ∈ tu_tb := tu_tb_in 211 rfl rfl
set_option maxRecDepth 20000 in
theorem sv_RL_13 : tu_sV RL 13 tu_Y_X3_set 2 := ⟨⟨tu_tb_in 208 rfl rfl, tu_tb_in 209 rfl rfl, tu_tb_in 210 rfl rfl, tu_tb_in 42 rfl rfl, co_X3_set⟩, by decide, by decide, by decide⟩
set_option maxRecDepth 20000 in
theorem co_X4_set : Cond.code tu_Y_X4_set.1 tu_Y_X4_set.2.1 tu_Y_X4_set.2.2.1 tu_Y_X4_set.2.2.2.1 ∈ tu_tb := tu_tb_in 582 rfl rfl
set_option maxRecDepth 20000 in
theorem sv_RL_17 : tu_sV RL 17 tu_Y_X4_set 2 := ⟨⟨tu_tb_in 579 rfl rfl, tu_tb_in 580 rfl rfl, tu_tb_in 581 rfl rfl, tu_tb_in 47 rfl rfl, co_X4_set⟩, by decide, by decide, by decide⟩
set_option maxRecDepth 20000 in
theorem co_X3_write : Cond.code tu_Y_X3_write.1 tu_Y_X3_write.2.1 tu_Y_X3_write.2.2.1 tu_Y_X3_write.2.2.2.1 ∈ tu_tb := tu_tb_in 227 rfl rfl
set_option maxRecDepth 20000 in
theorem sv_RL_18 : tu_sV RL 18 tu_Y_X3_write 0 := ⟨⟨tu_tb_in 224 rfl rfl, tu_tb_in 225 rfl rfl, tu_tb_in 226 rfl rfl, tu_tb_in 42 rfl rfl, co_X3_write⟩, by decide, by decide, by decide⟩
set_option maxRecDepth 20000 in
theorem co_X4_write : Cond.code tu_Y_X4_write.1 tu_Y_X4_write.2.1 tu_Y_X4_write.2.2.1 tu_Y_X4_write.2.2.2.1 ∈ tu_tb := tu_tb_in 599 rfl rfl
set_option maxRecDepth 20000 in
theorem sv_RL_22 : tu_sV RL 22 tu_Y_X4_write 0 := ⟨⟨tu_tb_in 596 rfl rfl, tu_tb_in 597 rfl rfl, tu_tb_in 598 rfl rfl, tu_tb_in 47 rfl rfl, co_X4_write⟩, by decide, by decide, by decide⟩
set_option maxRecDepth 20000 in
theorem co_X3_dropLine : Cond.code tu_Y_X3_dropLine.1 tu_Y_X3_dropLine.2.1 tu_Y_X3_dropLine.2.2.1 tu_Y_X3_dropLine.2.2.2.1 ∈ tu_tb := tu_tb_in 272 rfl rfl
set_option maxRecDepth 20000 in
theorem sv_RL_23 : tu_sV RL 23 tu_Y_X3_dropLine 1 := ⟨⟨tu_tb_in 269 rfl rfl, tu_tb_in 270 rfl rfl, tu_tb_in 271 rfl rfl, tu_tb_in 42 rfl rfl, co_X3_dropLine⟩, by decide, by decide, by decide⟩
set_option maxRecDepth 20000 in
theorem co_X4_dropLine : Cond.code tu_Y_X4_dropLine.1 tu_Y_X4_dropLine.2.1 tu_Y_X4_dropLine.2.2.1 tu_Y_X4_dropLine.2.2.2.1 ∈ tu_tb := tu_tb_in 619 rfl rfl
set_option maxRecDepth 20000 in
theorem sv_RL_27 : tu_sV RL 27 tu_Y_X4_dropLine 1 := ⟨⟨tu_tb_in 616 rfl rfl, tu_tb_in 617 rfl rfl, tu_tb_in 618 rfl rfl, tu_tb_in 47 rfl rfl, co_X4_dropLine⟩, by decide, by decide, by decide⟩
set_option maxRecDepth 20000 in
theorem co_X3_dropPhrase : Cond.code tu_Y_X3_dropPhrase.1 tu_Y_X3_dropPhrase.2.1 tu_Y_X3_dropPhrase.2.2.1 tu_Y_X3_dropPhrase.2.2.2.1 ∈ tu_tb := tu_tb_in 287 rfl rfl
set_option maxRecDepth 20000 in
theorem sv_RL_28 : tu_sV RL 28 tu_Y_X3_dropPhrase 1 := ⟨⟨tu_tb_in 284 rfl rfl, tu_tb_in 285 rfl rfl, tu_tb_in 286 rfl rfl, tu_tb_in 42 rfl rfl, co_X3_dropPhrase⟩, by decide, by decide, by decide⟩
set_option maxRecDepth 20000 in
theorem co_X4_dropPhrase : Cond.code tu_Y_X4_dropPhrase.1 tu_Y_X4_dropPhrase.2.1 tu_Y_X4_dropPhrase.2.2.1 tu_Y_X4_dropPhrase.2.2.2.1 ∈ tu_tb := tu_tb_in 631 rfl rfl
set_option maxRecDepth 20000 in
theorem sv_RL_31 : tu_sV RL 31 tu_Y_X4_dropPhrase 1 := ⟨⟨tu_tb_in 628 rfl rfl, tu_tb_in 629 rfl rfl, tu_tb_in 630 rfl rfl, tu_tb_in 47 rfl rfl, co_X4_dropPhrase⟩, by decide, by decide, by decide⟩
set_option maxRecDepth 20000 in
theorem co_X3_stress : Cond.code tu_Y_X3_stress.1 tu_Y_X3_stress.2.1 tu_Y_X3_stress.2.2.1 tu_Y_X3_stress.2.2.2.1 ∈ tu_tb := tu_tb_in 299 rfl rfl
set_option maxRecDepth 20000 in
theorem sv_RL_32 : tu_sV RL 32 tu_Y_X3_stress 3 := ⟨⟨tu_tb_in 296 rfl rfl, tu_tb_in 297 rfl rfl, tu_tb_in 298 rfl rfl, tu_tb_in 42 rfl rfl, co_X3_stress⟩, by decide, by decide, by decide⟩
set_option maxRecDepth 20000 in
theorem co_X4_stress : Cond.code tu_Y_X4_stress.1 tu_Y_X4_stress.2.1 tu_Y_X4_stress.2.2.1 tu_Y_X4_stress.2.2.2.1 ∈ tu_tb := tu_tb_in 639 rfl rfl
set_option maxRecDepth 20000 in
theorem sv_RL_36 : tu_sV RL 36 tu_Y_X4_stress 3 := ⟨⟨tu_tb_in 636 rfl rfl, tu_tb_in 637 rfl rfl, tu_tb_in 638 rfl rfl, tu_tb_in 47 rfl rfl, co_X4_stress⟩, by decide, by decide, by decide⟩
set_option maxRecDepth 20000 in
theorem co_X3_beat : Cond.code tu_Y_X3_beat.1 tu_Y_X3_beat.2.1 tu_Y_X3_beat.2.2.1 tu_Y_X3_beat.2.2.2.1 ∈ tu_tb := tu_tb_in 308 rfl rfl
set_option maxRecDepth 20000 in
theorem sv_RL_37 : tu_sV RL 37 tu_Y_X3_beat 3 := ⟨⟨tu_tb_in 305 rfl rfl, tu_tb_in 306 rfl rfl, tu_tb_in 307 rfl rfl, tu_tb_in 42 rfl rfl, co_X3_beat⟩, by decide, by decide, by decide⟩
set_option maxRecDepth 20000 in
theorem co_X4_beat : Cond.code tu_Y_X4_beat.1 tu_Y_X4_beat.2.1 tu_Y_X4_beat.2.2.1 tu_Y_X4_beat.2.2.2.1 ∈ tu_tb := tu_tb_in 651 rfl rfl
set_option maxRecDepth 20000 in
theorem sv_RL_41 : tu_sV RL 41 tu_Y_X4_beat 3 := ⟨⟨tu_tb_in 648 rfl rfl, tu_tb_in 649 rfl rfl, tu_tb_in 650 rfl rfl, tu_tb_in 47 rfl rfl, co_X4_beat⟩, by decide, by decide, by decide⟩
set_option maxRecDepth 20000 in
theorem co_X3_sing : Cond.code tu_Y_X3_sing.1 tu_Y_X3_sing.2.1 tu_Y_X3_sing.2.2.1 tu_Y_X3_sing.2.2.2.1 ∈ tu_tb := tu_tb_in 317 rfl rfl
set_option maxRecDepth 20000 in
theorem sv_RL_42 : tu_sV RL 42 tu_Y_X3_sing 1 := ⟨⟨tu_tb_in 314 rfl rfl, tu_tb_in 315 rfl rfl, tu_tb_in 316 rfl rfl, tu_tb_in 42 rfl rfl, co_X3_sing⟩, by decide, by decide, by decide⟩
set_option maxRecDepth 20000 in
theorem co_X4_sing : Cond.code tu_Y_X4_sing.1 tu_Y_X4_sing.2.1 tu_Y_X4_sing.2.2.1 tu_Y_X4_sing.2.2.2.1 ∈ tu_tb := tu_tb_in 670 rfl rfl
set_option maxRecDepth 20000 in
theorem sv_RL_45 : tu_sV RL 45 tu_Y_X4_sing 1 := ⟨⟨tu_tb_in 667 rfl rfl, tu_tb_in 668 rfl rfl, tu_tb_in 669 rfl rfl, tu_tb_in 47 rfl rfl, co_X4_sing⟩, by decide, by decide, by decide⟩
set_option maxRecDepth 20000 in
theorem co_X3_play : Cond.code tu_Y_X3_play.1 tu_Y_X3_play.2.1 tu_Y_X3_play.2.2.1 tu_Y_X3_play.2.2.2.1 ∈ tu_tb := tu_tb_in 325 rfl rfl
set_option maxRecDepth 20000 in
theorem sv_RL_46 : tu_sV RL 46 tu_Y_X3_play 1 := ⟨⟨tu_tb_in 322 rfl rfl, tu_tb_in 323 rfl rfl, tu_tb_in 324 rfl rfl, tu_tb_in 42 rfl rfl, co_X3_play⟩, by decide, by decide, by decide⟩
set_option maxRecDepth 20000 in
theorem co_X4_play : Cond.code tu_Y_X4_play.1 tu_Y_X4_play.2.1 tu_Y_X4_play.2.2.1 tu_Y_X4_play.2.2.2.1 ∈ tu_tb := tu_tb_in 678 rfl rfl
set_option maxRecDepth 20000 in
theorem sv_RL_49 : tu_sV RL 49 tu_Y_X4_play 1 := ⟨⟨tu_tb_in 675 rfl rfl, tu_tb_in 676 rfl rfl, tu_tb_in 677 rfl rfl, tu_tb_in 47 rfl rfl, co_X4_play⟩, by decide, by decide, by decide⟩
set_option maxRecDepth 20000 in
theorem co_X3_verse : Cond.code tu_Y_X3_verse.1 tu_Y_X3_verse.2.1 tu_Y_X3_verse.2.2.1 tu_Y_X3_verse.2.2.2.1 ∈ tu_tb := tu_tb_in 333 rfl rfl
set_option maxRecDepth 20000 in
theorem sv_RL_50 : tu_sV RL 50 tu_Y_X3_verse 3 := ⟨⟨tu_tb_in 330 rfl rfl, tu_tb_in 331 rfl rfl, tu_tb_in 332 rfl rfl, tu_tb_in 42 rfl rfl, co_X3_verse⟩, by decide, by decide, by decide⟩
set_option maxRecDepth 20000 in
theorem co_X4_verse : Cond.code tu_Y_X4_verse.1 tu_Y_X4_verse.2.1 tu_Y_X4_verse.2.2.1 tu_Y_X4_verse.2.2.2.1 ∈ tu_tb := tu_tb_in 682 rfl rfl
set_option maxRecDepth 20000 in
theorem sv_RL_53 : tu_sV RL 53 tu_Y_X4_verse 3 := ⟨⟨tu_tb_in 679 rfl rfl, tu_tb_in 680 rfl rfl, tu_tb_in 681 rfl rfl, tu_tb_in 47 rfl rfl, co_X4_verse⟩, by decide, by decide, by decide⟩
set_option maxRecDepth 20000 in
theorem co_X3_clear : Cond.code tu_Y_X3_clear.1 tu_Y_X3_clear.2.1 tu_Y_X3_clear.2.2.1 tu_Y_X3_clear.2.2.2.1 ∈ tu_tb := tu_tb_in 337 rfl rfl
set_option maxRecDepth 20000 in
theorem sv_RL_54 : tu_sV RL 54 tu_Y_X3_clear 1 := ⟨⟨tu_tb_in 334 rfl rfl, tu_tb_in 335 rfl rfl, tu_tb_in 336 rfl rfl, tu_tb_in 42 rfl rfl, co_X3_clear⟩, by decide, by decide, by decide⟩
set_option maxRecDepth 20000 in
theorem co_X4_clear : Cond.code tu_Y_X4_clear.1 tu_Y_X4_clear.2.1 tu_Y_X4_clear.2.2.1 tu_Y_X4_clear.2.2.2.1 ∈ tu_tb := tu_tb_in 686 rfl rfl
set_option maxRecDepth 20000 in
theorem sv_RL_58 : tu_sV RL 58 tu_Y_X4_clear 1 := ⟨⟨tu_tb_in 683 rfl rfl, tu_tb_in 684 rfl rfl, tu_tb_in 685 rfl rfl, tu_tb_in 47 rfl rfl, co_X4_clear⟩, by decide, by decide, by decide⟩
set_option maxRecDepth 20000 in
theorem co_X3_line : Cond.code tu_Y_X3_line.1 tu_Y_X3_line.2.1 tu_Y_X3_line.2.2.1 tu_Y_X3_line.2.2.2.1 ∈ tu_tb := tu_tb_in 341 rfl rfl
set_option maxRecDepth 20000 in
theorem sv_RL_59 : tu_sV RL 59 tu_Y_X3_line 2 := ⟨⟨tu_tb_in 338 rfl rfl, tu_tb_in 339 rfl rfl, tu_tb_in 340 rfl rfl, tu_tb_in 42 rfl rfl, co_X3_line⟩, by decide, by decide, by decide⟩
set_option maxRecDepth 20000 in
theorem co_X4_line : Cond.code tu_Y_X4_line.1 tu_Y_X4_line.2.1 tu_Y_X4_line.2.2.1 tu_Y_X4_line.2.2.2.1 ∈ tu_tb := tu_tb_in 690 rfl rfl
set_option maxRecDepth 20000 in
theorem sv_RL_62 : tu_sV RL 62 tu_Y_X4_line 2 := ⟨⟨tu_tb_in 687 rfl rfl, tu_tb_in 688 rfl rfl, tu_tb_in 689 rfl rfl, tu_tb_in 47 rfl rfl, co_X4_line⟩, by decide, by decide, by decide⟩
set_option maxRecDepth 20000 in
theorem co_X3_phrase : Cond.code tu_Y_X3_phrase.1 tu_Y_X3_phrase.2.1 tu_Y_X3_phrase.2.2.1 tu_Y_X3_phrase.2.2.2.1 ∈ tu_tb := tu_tb_in 394 rfl rfl
set_option maxRecDepth 20000 in
theorem sv_RL_63 : tu_sV RL 63 tu_Y_X3_phrase 2 := ⟨⟨tu_tb_in 391 rfl rfl, tu_tb_in 392 rfl rfl, tu_tb_in 393 rfl rfl, tu_tb_in 42 rfl rfl, co_X3_phrase⟩, by decide, by decide, by decide⟩
set_option maxRecDepth 20000 in
theorem co_X4_phrase : Cond.code tu_Y_X4_phrase.1 tu_Y_X4_phrase.2.1 tu_Y_X4_phrase.2.2.1 tu_Y_X4_phrase.2.2.2.1 ∈ tu_tb := tu_tb_in 742 rfl rfl
set_option maxRecDepth 20000 in
theorem sv_RL_66 : tu_sV RL 66 tu_Y_X4_phrase 2 := ⟨⟨tu_tb_in 739 rfl rfl, tu_tb_in 740 rfl rfl, tu_tb_in 741 rfl rfl, tu_tb_in 47 rfl rfl, co_X4_phrase⟩, by decide, by decide, by decide⟩
set_option maxRecDepth 20000 in
theorem co_X3_isStressed : Cond.code tu_Y_X3_isStressed.1 tu_Y_X3_isStressed.2.1 tu_Y_X3_isStressed.2.2.1 tu_Y_X3_isStressed.2.2.2.1 ∈ tu_tb := tu_tb_in 413 rfl rfl
set_option maxRecDepth 20000 in
theorem sv_RL_67 : tu_sV RL 67 tu_Y_X3_isStressed 2 := ⟨⟨tu_tb_in 410 rfl rfl, tu_tb_in 411 rfl rfl, tu_tb_in 412 rfl rfl, tu_tb_in 42 rfl rfl, co_X3_isStressed⟩, by decide, by decide, by decide⟩
set_option maxRecDepth 20000 in
theorem co_X4_isStressed : Cond.code tu_Y_X4_isStressed.1 tu_Y_X4_isStressed.2.1 tu_Y_X4_isStressed.2.2.1 tu_Y_X4_isStressed.2.2.2.1 ∈ tu_tb := tu_tb_in 754 rfl rfl
set_option maxRecDepth 20000 in
theorem sv_RL_70 : tu_sV RL 70 tu_Y_X4_isStressed 2 := ⟨⟨tu_tb_in 751 rfl rfl, tu_tb_in 752 rfl rfl, tu_tb_in 753 rfl rfl, tu_tb_in 47 rfl rfl, co_X4_isStressed⟩, by decide, by decide, by decide⟩
set_option maxRecDepth 20000 in
theorem co_X3_kindOf : Cond.code tu_Y_X3_kindOf.1 tu_Y_X3_kindOf.2.1 tu_Y_X3_kindOf.2.2.1 tu_Y_X3_kindOf.2.2.2.1 ∈ tu_tb := tu_tb_in 417 rfl rfl
set_option maxRecDepth 20000 in
theorem sv_RL_71 : tu_sV RL 71 tu_Y_X3_kindOf 2 := ⟨⟨tu_tb_in 414 rfl rfl, tu_tb_in 415 rfl rfl, tu_tb_in 416 rfl rfl, tu_tb_in 42 rfl rfl, co_X3_kindOf⟩, by decide, by decide, by decide⟩
set_option maxRecDepth 20000 in
theorem co_X4_kindOf : Cond.code tu_Y_X4_kindOf.1 tu_Y_X4_kindOf.2.1 tu_Y_X4_kindOf.2.2.1 tu_Y_X4_kindOf.2.2.2.1 ∈ tu_tb := tu_tb_in 758 rfl rfl
set_option maxRecDepth 20000 in
theorem sv_RL_74 : tu_sV RL 74 tu_Y_X4_kindOf 2 := ⟨⟨tu_tb_in 755 rfl rfl, tu_tb_in 756 rfl rfl, tu_tb_in 757 rfl rfl, tu_tb_in 47 rfl rfl, co_X4_kindOf⟩, by decide, by decide, by decide⟩
set_option maxRecDepth 20000 in
theorem co_X3_count : Cond.code tu_Y_X3_count.1 tu_Y_X3_count.2.1 tu_Y_X3_count.2.2.1 tu_Y_X3_count.2.2.2.1 ∈ tu_tb := tu_tb_in 421 rfl rfl
set_option maxRecDepth 20000 in
theorem sv_RL_75 : tu_sV RL 75 tu_Y_X3_count 1 := ⟨⟨tu_tb_in 418 rfl rfl, tu_tb_in 419 rfl rfl, tu_tb_in 420 rfl rfl, tu_tb_in 42 rfl rfl, co_X3_count⟩, by decide, by decide, by decide⟩
set_option maxRecDepth 20000 in
theorem co_X4_count : Cond.code tu_Y_X4_count.1 tu_Y_X4_count.2.1 tu_Y_X4_count.2.2.1 tu_Y_X4_count.2.2.2.1 ∈ tu_tb := tu_tb_in 762 rfl rfl
set_option maxRecDepth 20000 in
theorem sv_RL_78 : tu_sV RL 78 tu_Y_X4_count 1 := ⟨⟨tu_tb_in 759 rfl rfl, tu_tb_in 760 rfl rfl, tu_tb_in 761 rfl rfl, tu_tb_in 47 rfl rfl, co_X4_count⟩, by decide, by decide, by decide⟩
set_option maxRecDepth 20000 in
theorem co_X3_at : Cond.code tu_Y_X3_at.1 tu_Y_X3_at.2.1 tu_Y_X3_at.2.2.1 tu_Y_X3_at.2.2.2.1 ∈ tu_tb := tu_tb_in 430 rfl rfl
set_option maxRecDepth 20000 in
theorem sv_RL_79 : tu_sV RL 79 tu_Y_X3_at 2 := ⟨⟨tu_tb_in 427 rfl rfl, tu_tb_in 428 rfl rfl, tu_tb_in 429 rfl rfl, tu_tb_in 42 rfl rfl, co_X3_at⟩, by decide, by decide, by decide⟩
set_option maxRecDepth 20000 in
theorem co_X4_at : Cond.code tu_Y_X4_at.1 tu_Y_X4_at.2.1 tu_Y_X4_at.2.2.1 tu_Y_X4_at.2.2.2.1 ∈ tu_tb := tu_tb_in 770 rfl rfl
set_option maxRecDepth 20000 in
theorem sv_RL_83 : tu_sV RL 83 tu_Y_X4_at 2 := ⟨⟨tu_tb_in 767 rfl rfl, tu_tb_in 768 rfl rfl, tu_tb_in 769 rfl rfl, tu_tb_in 47 rfl rfl, co_X4_at⟩, by decide, by decide, by decide⟩
set_option maxRecDepth 20000 in
theorem co_X3_fit : Cond.code tu_Y_X3_fit.1 tu_Y_X3_fit.2.1 tu_Y_X3_fit.2.2.1 tu_Y_X3_fit.2.2.2.1 ∈ tu_tb := tu_tb_in 434 rfl rfl
set_option maxRecDepth 20000 in
theorem sv_RL_84 : tu_sV RL 84 tu_Y_X3_fit 3 := ⟨⟨tu_tb_in 431 rfl rfl, tu_tb_in 432 rfl rfl, tu_tb_in 433 rfl rfl, tu_tb_in 42 rfl rfl, co_X3_fit⟩, by decide, by decide, by decide⟩
set_option maxRecDepth 20000 in
theorem co_X4_fit : Cond.code tu_Y_X4_fit.1 tu_Y_X4_fit.2.1 tu_Y_X4_fit.2.2.1 tu_Y_X4_fit.2.2.2.1 ∈ tu_tb := tu_tb_in 774 rfl rfl
set_option maxRecDepth 20000 in
theorem sv_RL_87 : tu_sV RL 87 tu_Y_X4_fit 3 := ⟨⟨tu_tb_in 771 rfl rfl, tu_tb_in 772 rfl rfl, tu_tb_in 773 rfl rfl, tu_tb_in 47 rfl rfl, co_X4_fit⟩, by decide, by decide, by decide⟩
set_option maxRecDepth 20000 in
theorem co_X3_lies : Cond.code tu_Y_X3_lies.1 tu_Y_X3_lies.2.1 tu_Y_X3_lies.2.2.1 tu_Y_X3_lies.2.2.2.1 ∈ tu_tb := tu_tb_in 462 rfl rfl
set_option maxRecDepth 20000 in
theorem sv_RL_88 : tu_sV RL 88 tu_Y_X3_lies 4 := ⟨⟨tu_tb_in 459 rfl rfl, tu_tb_in 460 rfl rfl, tu_tb_in 461 rfl rfl, tu_tb_in 42 rfl rfl, co_X3_lies⟩, by decide, by decide, by decide⟩
set_option maxRecDepth 20000 in
theorem co_X4_lies : Cond.code tu_Y_X4_lies.1 tu_Y_X4_lies.2.1 tu_Y_X4_lies.2.2.1 tu_Y_X4_lies.2.2.2.1 ∈ tu_tb := tu_tb_in 794 rfl rfl
set_option maxRecDepth 20000 in
theorem sv_RL_92 : tu_sV RL 92 tu_Y_X4_lies 4 := ⟨⟨tu_tb_in 791 rfl rfl, tu_tb_in 792 rfl rfl, tu_tb_in 793 rfl rfl, tu_tb_in 47 rfl rfl, co_X4_lies⟩, by decide, by decide, by decide⟩
set_option maxRecDepth 20000 in
theorem co_X3_whole : Cond.code tu_Y_X3_whole.1 tu_Y_X3_whole.2.1 tu_Y_X3_whole.2.2.1 tu_Y_X3_whole.2.2.2.1 ∈ tu_tb := tu_tb_in 467 rfl rfl
set_option maxRecDepth 20000 in
theorem sv_RL_93 : tu_sV RL 93 tu_Y_X3_whole 1 := ⟨⟨tu_tb_in 464 rfl rfl, tu_tb_in 465 rfl rfl, tu_tb_in 466 rfl rfl, tu_tb_in 42 rfl rfl, co_X3_whole⟩, by decide, by decide, by decide⟩
set_option maxRecDepth 20000 in
theorem co_X4_whole : Cond.code tu_Y_X4_whole.1 tu_Y_X4_whole.2.1 tu_Y_X4_whole.2.2.1 tu_Y_X4_whole.2.2.2.1 ∈ tu_tb := tu_tb_in 798 rfl rfl
set_option maxRecDepth 20000 in
theorem sv_RL_96 : tu_sV RL 96 tu_Y_X4_whole 1 := ⟨⟨tu_tb_in 795 rfl rfl, tu_tb_in 796 rfl rfl, tu_tb_in 797 rfl rfl, tu_tb_in 47 rfl rfl, co_X4_whole⟩, by decide, by decide, by decide⟩
set_option maxRecDepth 20000 in
theorem co_X3_bestPhrase : Cond.code tu_Y_X3_bestPhrase.1 tu_Y_X3_bestPhrase.2.1 tu_Y_X3_bestPhrase.2.2.1 tu_Y_X3_bestPhrase.2.2.2.1 ∈ tu_tb := tu_tb_in 471 rfl rfl
set_option maxRecDepth 20000 in
theorem sv_RL_97 : tu_sV RL 97 tu_Y_X3_bestPhrase 0 := ⟨⟨tu_tb_in 468 rfl rfl, tu_tb_in 469 rfl rfl, tu_tb_in 470 rfl rfl, tu_tb_in 42 rfl rfl, co_X3_bestPhrase⟩, by decide, by decide, by decide⟩
set_option maxRecDepth 20000 in
theorem co_X4_bestPhrase : Cond.code tu_Y_X4_bestPhrase.1 tu_Y_X4_bestPhrase.2.1 tu_Y_X4_bestPhrase.2.2.1 tu_Y_X4_bestPhrase.2.2.2.1 ∈ tu_tb := tu_tb_in 806 rfl rfl
set_option maxRecDepth 20000 in
theorem sv_RL_100 : tu_sV RL 100 tu_Y_X4_bestPhrase 0 := ⟨⟨tu_tb_in 803 rfl rfl, tu_tb_in 804 rfl rfl, tu_tb_in 805 rfl rfl, tu_tb_in 47 rfl rfl, co_X4_bestPhrase⟩, by decide, by decide, by decide⟩
set_option maxRecDepth 20000 in
theorem co_X3_bestChange : Cond.code tu_Y_X3_bestChange.1 tu_Y_X3_bestChange.2.1 tu_Y_X3_bestChange.2.2.1 tu_Y_X3_bestChange.2.2.2.1 ∈ tu_tb := tu_tb_in 475 rfl rfl
set_option maxRecDepth 20000 in
theorem sv_RL_101 : tu_sV RL 101 tu_Y_X3_bestChange 3 := ⟨⟨tu_tb_in 472 rfl rfl, tu_tb_in 473 rfl rfl, tu_tb_in 474 rfl rfl, tu_tb_in 42 rfl rfl, co_X3_bestChange⟩, by decide, by decide, by decide⟩
set_option maxRecDepth 20000 in
theorem co_X4_bestChange : Cond.code tu_Y_X4_bestChange.1 tu_Y_X4_bestChange.2.1 tu_Y_X4_bestChange.2.2.1 tu_Y_X4_bestChange.2.2.2.1 ∈ tu_tb := tu_tb_in 810 rfl rfl
set_option maxRecDepth 20000 in
theorem sv_RL_104 : tu_sV RL 104 tu_Y_X4_bestChange 3 := ⟨⟨tu_tb_in 807 rfl rfl, tu_tb_in 808 rfl rfl, tu_tb_in 809 rfl rfl, tu_tb_in 47 rfl rfl, co_X4_bestChange⟩, by decide, by decide, by decide⟩
set_option maxRecDepth 20000 in
theorem co_X3_enoughBreath : Cond.code tu_Y_X3_enoughBreath.1 tu_Y_X3_enoughBreath.2.1 tu_Y_X3_enoughBreath.2.2.1 tu_Y_X3_enoughBreath.2.2.2.1 ∈ tu_tb := tu_tb_in 483 rfl rfl
set_option maxRecDepth 20000 in
theorem sv_RL_105 : tu_sV RL 105 tu_Y_X3_enoughBreath 2 := ⟨⟨tu_tb_in 480 rfl rfl, tu_tb_in 481 rfl rfl, tu_tb_in 482 rfl rfl, tu_tb_in 42 rfl rfl, co_X3_enoughBreath⟩, by decide, by decide, by decide⟩
set_option maxRecDepth 20000 in
theorem co_X4_enoughBreath : Cond.code tu_Y_X4_enoughBreath.1 tu_Y_X4_enoughBreath.2.1 tu_Y_X4_enoughBreath.2.2.1 tu_Y_X4_enoughBreath.2.2.2.1 ∈ tu_tb := tu_tb_in 814 rfl rfl
set_option maxRecDepth 20000 in
theorem sv_RL_108 : tu_sV RL 108 tu_Y_X4_enoughBreath 2 := ⟨⟨tu_tb_in 811 rfl rfl, tu_tb_in 812 rfl rfl, tu_tb_in 813 rfl rfl, tu_tb_in 47 rfl rfl, co_X4_enoughBreath⟩, by decide, by decide, by decide⟩
set_option maxRecDepth 20000 in
theorem co_X3_put : Cond.code tu_Y_X3_put.1 tu_Y_X3_put.2.1 tu_Y_X3_put.2.2.1 tu_Y_X3_put.2.2.2.1 ∈ tu_tb := tu_tb_in 487 rfl rfl
set_option maxRecDepth 20000 in
theorem sv_RL_111 : tu_sV RL 111 tu_Y_X3_put 1 := ⟨⟨tu_tb_in 484 rfl rfl, tu_tb_in 485 rfl rfl, tu_tb_in 486 rfl rfl, tu_tb_in 42 rfl rfl, co_X3_put⟩, by decide, by decide, by decide⟩
set_option maxRecDepth 20000 in
theorem co_X4_put : Cond.code tu_Y_X4_put.1 tu_Y_X4_put.2.1 tu_Y_X4_put.2.2.1 tu_Y_X4_put.2.2.2.1 ∈ tu_tb := tu_tb_in 818 rfl rfl
set_option maxRecDepth 20000 in
theorem sv_RL_115 : tu_sV RL 115 tu_Y_X4_put 1 := ⟨⟨tu_tb_in 815 rfl rfl, tu_tb_in 816 rfl rfl, tu_tb_in 817 rfl rfl, tu_tb_in 47 rfl rfl, co_X4_put⟩, by decide, by decide, by decide⟩
set_option maxRecDepth 20000 in
theorem co_X3_wipe : Cond.code tu_Y_X3_wipe.1 tu_Y_X3_wipe.2.1 tu_Y_X3_wipe.2.2.1 tu_Y_X3_wipe.2.2.2.1 ∈ tu_tb := tu_tb_in 501 rfl rfl
set_option maxRecDepth 20000 in
theorem sv_RL_116 : tu_sV RL 116 tu_Y_X3_wipe 0 := ⟨⟨tu_tb_in 498 rfl rfl, tu_tb_in 499 rfl rfl, tu_tb_in 500 rfl rfl, tu_tb_in 42 rfl rfl, co_X3_wipe⟩, by decide, by decide, by decide⟩
set_option maxRecDepth 20000 in
theorem co_X4_wipe : Cond.code tu_Y_X4_wipe.1 tu_Y_X4_wipe.2.1 tu_Y_X4_wipe.2.2.1 tu_Y_X4_wipe.2.2.2.1 ∈ tu_tb := tu_tb_in 823 rfl rfl
set_option maxRecDepth 20000 in
theorem sv_RL_119 : tu_sV RL 119 tu_Y_X4_wipe 0 := ⟨⟨tu_tb_in 820 rfl rfl, tu_tb_in 821 rfl rfl, tu_tb_in 822 rfl rfl, tu_tb_in 47 rfl rfl, co_X4_wipe⟩, by decide, by decide, by decide⟩
set_option maxRecDepth 20000 in
theorem co_X3_fault : Cond.code tu_Y_X3_fault.1 tu_Y_X3_fault.2.1 tu_Y_X3_fault.2.2.1 tu_Y_X3_fault.2.2.2.1 ∈ tu_tb := tu_tb_in 505 rfl rfl
set_option maxRecDepth 20000 in
theorem sv_RL_120 : tu_sV RL 120 tu_Y_X3_fault 0 := ⟨⟨tu_tb_in 502 rfl rfl, tu_tb_in 503 rfl rfl, tu_tb_in 504 rfl rfl, tu_tb_in 42 rfl rfl, co_X3_fault⟩, by decide, by decide, by decide⟩
set_option maxRecDepth 20000 in
theorem co_X4_fault : Cond.code tu_Y_X4_fault.1 tu_Y_X4_fault.2.1 tu_Y_X4_fault.2.2.1 tu_Y_X4_fault.2.2.2.1 ∈ tu_tb := tu_tb_in 827 rfl rfl
set_option maxRecDepth 20000 in
theorem sv_RL_123 : tu_sV RL 123 tu_Y_X4_fault 0 := ⟨⟨tu_tb_in 824 rfl rfl, tu_tb_in 825 rfl rfl, tu_tb_in 826 rfl rfl, tu_tb_in 47 rfl rfl, co_X4_fault⟩, by decide, by decide, by decide⟩
set_option maxRecDepth 20000 in
theorem co_X3_undo : Cond.code tu_Y_X3_undo.1 tu_Y_X3_undo.2.1 tu_Y_X3_undo.2.2.1 tu_Y_X3_undo.2.2.2.1 ∈ tu_tb := tu_tb_in 509 rfl rfl
set_option maxRecDepth 20000 in
theorem sv_RL_124 : tu_sV RL 124 tu_Y_X3_undo 0 := ⟨⟨tu_tb_in 506 rfl rfl, tu_tb_in 507 rfl rfl, tu_tb_in 508 rfl rfl, tu_tb_in 42 rfl rfl, co_X3_undo⟩, by decide, by decide, by decide⟩
set_option maxRecDepth 20000 in
theorem co_X4_undo : Cond.code tu_Y_X4_undo.1 tu_Y_X4_undo.2.1 tu_Y_X4_undo.2.2.1 tu_Y_X4_undo.2.2.2.1 ∈ tu_tb := tu_tb_in 831 rfl rfl
set_option maxRecDepth 20000 in
theorem sv_RL_127 : tu_sV RL 127 tu_Y_X4_undo 0 := ⟨⟨tu_tb_in 828 rfl rfl, tu_tb_in 829 rfl rfl, tu_tb_in 830 rfl rfl, tu_tb_in 47 rfl rfl, co_X4_undo⟩, by decide, by decide, by decide⟩
set_option maxRecDepth 20000 in
theorem co_X3_save : Cond.code tu_Y_X3_save.1 tu_Y_X3_save.2.1 tu_Y_X3_save.2.2.1 tu_Y_X3_save.2.2.2.1 ∈ tu_tb := tu_tb_in 513 rfl rfl
set_option maxRecDepth 20000 in
theorem sv_RL_128 : tu_sV RL 128 tu_Y_X3_save 1 := ⟨⟨tu_tb_in 510 rfl rfl, tu_tb_in 511 rfl rfl, tu_tb_in 512 rfl rfl, tu_tb_in 42 rfl rfl, co_X3_save⟩, by decide, by decide, by decide⟩
set_option maxRecDepth 20000 in
theorem co_X4_save : Cond.code tu_Y_X4_save.1 tu_Y_X4_save.2.1 tu_Y_X4_save.2.2.1 tu_Y_X4_save.2.2.2.1 ∈ tu_tb := tu_tb_in 835 rfl rfl
set_option maxRecDepth 20000 in
theorem sv_RL_131 : tu_sV RL 131 tu_Y_X4_save 1 := ⟨⟨tu_tb_in 832 rfl rfl, tu_tb_in 833 rfl rfl, tu_tb_in 834 rfl rfl, tu_tb_in 47 rfl rfl, co_X4_save⟩, by decide, by decide, by decide⟩
set_option maxRecDepth 20000 in
theorem co_X3_restore : Cond.code tu_Y_X3_restore.1 tu_Y_X3_restore.2.1 tu_Y_X3_restore.2.2.1 tu_Y_X3_restore.2.2.2.1 ∈ tu_tb := tu_tb_in 517 rfl rfl
set_option maxRecDepth 20000 in
theorem sv_RL_132 : tu_sV RL 132 tu_Y_X3_restore 1 := ⟨⟨tu_tb_in 514 rfl rfl, tu_tb_in 515 rfl rfl, tu_tb_in 516 rfl rfl, tu_tb_in 42 rfl rfl, co_X3_restore⟩, by decide, by decide, by decide⟩
set_option maxRecDepth 20000 in
theorem co_X4_restore : Cond.code tu_Y_X4_restore.1 tu_Y_X4_restore.2.1 tu_Y_X4_restore.2.2.1 tu_Y_X4_restore.2.2.2.1 ∈ tu_tb := tu_tb_in 839 rfl rfl
set_option maxRecDepth 20000 in
theorem sv_RL_135 : tu_sV RL 135 tu_Y_X4_restore 1 := ⟨⟨tu_tb_in 836 rfl rfl, tu_tb_in 837 rfl rfl, tu_tb_in 838 rfl rfl, tu_tb_in 47 rfl rfl, co_X4_restore⟩, by decide, by decide, by decide⟩
theorem iw_X0 : ∀ w ∈ u_ws RX0 TX0 11, w ∈ tu_tb := by decide +kernel
theorem iw_X1 : ∀ w ∈ u_ws RX1 TX1 13, w ∈ tu_tb := by decide +kernel
theorem iw_X2 : ∀ w ∈ u_ws RX2 TX2 2, w ∈ tu_tb := by decide +kernel
theorem iw_X3 : ∀ w ∈ u_ws RX3 TX3 7, w ∈ tu_tb := by decide +kernel
theorem iw_X4 : ∀ w ∈ u_ws RX4 TX4 18, w ∈ tu_tb := by decide +kernel
set_option maxRecDepth 20000 in
theorem fl_RX0_9 : tu_fl RX0 9 0 0 := ⟨RX0, TX0, 11, rfl, by decide, iw_X0, tu_tb_in 68 rfl rfl⟩
set_option maxRecDepth 20000 in
theorem fl_RX0_15 : tu_fl RX0 15 0 1 := ⟨RX0, TX0, 11, rfl, by decide, iw_X0, tu_tb_in 71 rfl rfl⟩
set_option maxRecDepth 20000 in
theorem fp_RX0_15 : tu_fp RX0 15 0 1 := ⟨RX0, TX0, 11, rfl, by decide, iw_X0, tu_tb_in 71 rfl rfl, rfl, by decide +kernel, ⟨tyX0, tyX0_ok⟩, nmX0⟩
set_option maxRecDepth 20000 in
theorem fl_RX0_19 : tu_fl RX0 19 0 2 := ⟨RX0, TX0, 11, rfl, by decide, iw_X0, tu_tb_in 73 rfl rfl⟩
set_option maxRecDepth 20000 in
theorem fl_RX0_22 : tu_fl RX0 22 0 3 := ⟨RX0, TX0, 11, rfl, by decide, iw_X0, tu_tb_in 76 rfl rfl⟩
set_option maxRecDepth 20000 in
theorem fl_RX0_25 : tu_fl RX0 25 0 4 := ⟨RX0, TX0, 11, rfl, by decide, iw_X0, tu_tb_in 79 rfl rfl⟩
set_option maxRecDepth 20000 in
theorem fp_RX0_25 : tu_fp RX0 25 0 4 := ⟨RX0, TX0, 11, rfl, by decide, iw_X0, tu_tb_in 79 rfl rfl, rfl, by decide +kernel, ⟨tyX0, tyX0_ok⟩, nmX0⟩
set_option maxRecDepth 20000 in
theorem fl_RX0_28 : tu_fl RX0 28 0 5 := ⟨RX0, TX0, 11, rfl, by decide, iw_X0, tu_tb_in 81 rfl rfl⟩
set_option maxRecDepth 20000 in
theorem fl_RX0_31 : tu_fl RX0 31 0 6 := ⟨RX0, TX0, 11, rfl, by decide, iw_X0, tu_tb_in 84 rfl rfl⟩
set_option maxRecDepth 20000 in
theorem fl_RX0_34 : tu_fl RX0 34 0 7 := ⟨RX0, TX0, 11, rfl, by decide, iw_X0, tu_tb_in 87 rfl rfl⟩
set_option maxRecDepth 20000 in
theorem fp_RX0_34 : tu_fp RX0 34 0 7 := ⟨RX0, TX0, 11, rfl, by decide, iw_X0, tu_tb_in 87 rfl rfl, rfl, by decide +kernel, ⟨tyX0, tyX0_ok⟩, nmX0⟩
set_option maxRecDepth 20000 in
theorem fl_RX0_37 : tu_fl RX0 37 0 8 := ⟨RX0, TX0, 11, rfl, by decide, iw_X0, tu_tb_in 89 rfl rfl⟩
set_option maxRecDepth 20000 in
theorem fl_RX0_40 : tu_fl RX0 40 0 9 := ⟨RX0, TX0, 11, rfl, by decide, iw_X0, tu_tb_in 91 rfl rfl⟩
set_option maxRecDepth 20000 in
theorem fp_RX0_40 : tu_fp RX0 40 0 9 := ⟨RX0, TX0, 11, rfl, by decide, iw_X0, tu_tb_in 91 rfl rfl, rfl, by decide +kernel, ⟨tyX0, tyX0_ok⟩, nmX0⟩
set_option maxRecDepth 20000 in
theorem fl_RX0_43 : tu_fl RX0 43 0 10 := ⟨RX0, TX0, 11, rfl, by decide, iw_X0, tu_tb_in 93 rfl rfl⟩
set_option maxRecDepth 20000 in
theorem fl_RX1_52 : tu_fl RX1 52 0 0 := ⟨RX0, TX0, 11, rfl, by decide, iw_X0, tu_tb_in 69 rfl rfl⟩
set_option maxRecDepth 20000 in
theorem fl_RX1_9 : tu_fl RX1 9 1 0 := ⟨RX1, TX1, 13, rfl, by decide, iw_X1, tu_tb_in 141 rfl rfl⟩
set_option maxRecDepth 20000 in
theorem fp_RX1_9 : tu_fp RX1 9 1 0 := ⟨RX1, TX1, 13, rfl, by decide, iw_X1, tu_tb_in 141 rfl rfl, rfl, by decide +kernel, ⟨tyX1, tyX1_ok⟩, nmX1⟩
set_option maxRecDepth 20000 in
theorem fl_RX1_15 : tu_fl RX1 15 1 1 := ⟨RX1, TX1, 13, rfl, by decide, iw_X1, tu_tb_in 143 rfl rfl⟩
set_option maxRecDepth 20000 in
theorem fp_RX1_15 : tu_fp RX1 15 1 1 := ⟨RX1, TX1, 13, rfl, by decide, iw_X1, tu_tb_in 143 rfl rfl, rfl, by decide +kernel, ⟨tyX1, tyX1_ok⟩, nmX1⟩
set_option maxRecDepth 20000 in
theorem fl_RX1_18 : tu_fl RX1 18 1 2 := ⟨RX1, TX1, 13, rfl, by decide, iw_X1, tu_tb_in 144 rfl rfl⟩
set_option maxRecDepth 20000 in
theorem fp_RX1_18 : tu_fp RX1 18 1 2 := ⟨RX1, TX1, 13, rfl, by decide, iw_X1, tu_tb_in 144 rfl rfl, rfl, by decide +kernel, ⟨tyX1, tyX1_ok⟩, nmX1⟩
set_option maxRecDepth 20000 in
theorem fl_RX1_21 : tu_fl RX1 21 1 3 := ⟨RX1, TX1, 13, rfl, by decide, iw_X1, tu_tb_in 145 rfl rfl⟩
set_option maxRecDepth 20000 in
theorem fp_RX1_21 : tu_fp RX1 21 1 3 := ⟨RX1, TX1, 13, rfl, by decide, iw_X1, tu_tb_in 145 rfl rfl, rfl, by decide +kernel, ⟨tyX1, tyX1_ok⟩, nmX1⟩
set_option maxRecDepth 20000 in
theorem fl_RX1_57 : tu_fl RX1 57 0 2 := ⟨RX0, TX0, 11, rfl, by decide, iw_X0, tu_tb_in 74 rfl rfl⟩
set_option maxRecDepth 20000 in
theorem fl_RX1_24 : tu_fl RX1 24 1 4 := ⟨RX1, TX1, 13, rfl, by decide, iw_X1, tu_tb_in 146 rfl rfl⟩
set_option maxRecDepth 20000 in
theorem fp_RX1_24 : tu_fp RX1 24 1 4 := ⟨RX1, TX1, 13, rfl, by decide, iw_X1, tu_tb_in 146 rfl rfl, rfl, by decide +kernel, ⟨tyX1, tyX1_ok⟩, nmX1⟩
set_option maxRecDepth 20000 in
theorem fl_RX1_60 : tu_fl RX1 60 0 5 := ⟨RX0, TX0, 11, rfl, by decide, iw_X0, tu_tb_in 82 rfl rfl⟩
set_option maxRecDepth 20000 in
theorem fl_RX1_27 : tu_fl RX1 27 1 5 := ⟨RX1, TX1, 13, rfl, by decide, iw_X1, tu_tb_in 147 rfl rfl⟩
set_option maxRecDepth 20000 in
theorem fp_RX1_27 : tu_fp RX1 27 1 5 := ⟨RX1, TX1, 13, rfl, by decide, iw_X1, tu_tb_in 147 rfl rfl, rfl, by decide +kernel, ⟨tyX1, tyX1_ok⟩, nmX1⟩
set_option maxRecDepth 20000 in
theorem fl_RX1_63 : tu_fl RX1 63 0 3 := ⟨RX0, TX0, 11, rfl, by decide, iw_X0, tu_tb_in 77 rfl rfl⟩
set_option maxRecDepth 20000 in
theorem fl_RX1_30 : tu_fl RX1 30 1 6 := ⟨RX1, TX1, 13, rfl, by decide, iw_X1, tu_tb_in 148 rfl rfl⟩
set_option maxRecDepth 20000 in
theorem fl_RX1_70 : tu_fl RX1 70 0 6 := ⟨RX0, TX0, 11, rfl, by decide, iw_X0, tu_tb_in 85 rfl rfl⟩
set_option maxRecDepth 20000 in
theorem fl_RX1_34 : tu_fl RX1 34 1 7 := ⟨RX1, TX1, 13, rfl, by decide, iw_X1, tu_tb_in 149 rfl rfl⟩
set_option maxRecDepth 20000 in
theorem fl_RX1_37 : tu_fl RX1 37 1 8 := ⟨RX1, TX1, 13, rfl, by decide, iw_X1, tu_tb_in 150 rfl rfl⟩
set_option maxRecDepth 20000 in
theorem fl_RX1_40 : tu_fl RX1 40 1 9 := ⟨RX1, TX1, 13, rfl, by decide, iw_X1, tu_tb_in 151 rfl rfl⟩
set_option maxRecDepth 20000 in
theorem fl_RX1_43 : tu_fl RX1 43 1 10 := ⟨RX1, TX1, 13, rfl, by decide, iw_X1, tu_tb_in 152 rfl rfl⟩
set_option maxRecDepth 20000 in
theorem fl_RX1_46 : tu_fl RX1 46 1 11 := ⟨RX1, TX1, 13, rfl, by decide, iw_X1, tu_tb_in 153 rfl rfl⟩
set_option maxRecDepth 20000 in
theorem fl_RX1_49 : tu_fl RX1 49 1 12 := ⟨RX1, TX1, 13, rfl, by decide, iw_X1, tu_tb_in 155 rfl rfl⟩
set_option maxRecDepth 20000 in
theorem fl_RX2_15 : tu_fl RX2 15 2 1 := ⟨RX2, TX2, 2, rfl, by decide, iw_X2, tu_tb_in 127 rfl rfl⟩
set_option maxRecDepth 20000 in
theorem fp_RX2_15 : tu_fp RX2 15 2 1 := ⟨RX2, TX2, 2, rfl, by decide, iw_X2, tu_tb_in 127 rfl rfl, rfl, by decide +kernel, ⟨tyX2, tyX2_ok⟩, nmX2⟩
set_option maxRecDepth 20000 in
theorem fl_RX2_9 : tu_fl RX2 9 2 0 := ⟨RX2, TX2, 2, rfl, by decide, iw_X2, tu_tb_in 125 rfl rfl⟩
set_option maxRecDepth 20000 in
theorem fl_RX3_10 : tu_fl RX3 10 3 0 := ⟨RX3, TX3, 7, rfl, by decide, iw_X3, tu_tb_in 185 rfl rfl⟩
set_option maxRecDepth 20000 in
theorem fl_RX3_55 : tu_fl RX3 55 0 0 := ⟨RX0, TX0, 11, rfl, by decide, iw_X0, tu_tb_in 70 rfl rfl⟩
set_option maxRecDepth 20000 in
theorem fl_RX3_19 : tu_fl RX3 19 3 1 := ⟨RX3, TX3, 7, rfl, by decide, iw_X3, tu_tb_in 186 rfl rfl⟩
set_option maxRecDepth 20000 in
theorem fl_RX3_68 : tu_fl RX3 68 0 1 := ⟨RX0, TX0, 11, rfl, by decide, iw_X0, tu_tb_in 72 rfl rfl⟩
set_option maxRecDepth 20000 in
theorem fl_RX3_71 : tu_fl RX3 71 0 4 := ⟨RX0, TX0, 11, rfl, by decide, iw_X0, tu_tb_in 80 rfl rfl⟩
set_option maxRecDepth 20000 in
theorem fl_RX3_74 : tu_fl RX3 74 2 1 := ⟨RX2, TX2, 2, rfl, by decide, iw_X2, tu_tb_in 128 rfl rfl⟩
set_option maxRecDepth 20000 in
theorem fp_RX3_74 : tu_fp RX3 74 2 1 := ⟨RX2, TX2, 2, rfl, by decide, iw_X2, tu_tb_in 128 rfl rfl, rfl, by decide +kernel, ⟨tyX2, tyX2_ok⟩, nmX2⟩
set_option maxRecDepth 20000 in
theorem fl_RX3_81 : tu_fl RX3 81 2 0 := ⟨RX2, TX2, 2, rfl, by decide, iw_X2, tu_tb_in 126 rfl rfl⟩
set_option maxRecDepth 20000 in
theorem fl_RX3_100 : tu_fl RX3 100 0 7 := ⟨RX0, TX0, 11, rfl, by decide, iw_X0, tu_tb_in 88 rfl rfl⟩
set_option maxRecDepth 20000 in
theorem fp_RX3_100 : tu_fp RX3 100 0 7 := ⟨RX0, TX0, 11, rfl, by decide, iw_X0, tu_tb_in 88 rfl rfl, rfl, by decide +kernel, ⟨tyX0, tyX0_ok⟩, nmX0⟩
set_option maxRecDepth 20000 in
theorem fl_RX3_109 : tu_fl RX3 109 0 9 := ⟨RX0, TX0, 11, rfl, by decide, iw_X0, tu_tb_in 92 rfl rfl⟩
set_option maxRecDepth 20000 in
theorem fp_RX3_109 : tu_fp RX3 109 0 9 := ⟨RX0, TX0, 11, rfl, by decide, iw_X0, tu_tb_in 92 rfl rfl, rfl, by decide +kernel, ⟨tyX0, tyX0_ok⟩, nmX0⟩
set_option maxRecDepth 20000 in
theorem fl_RX3_116 : tu_fl RX3 116 0 3 := ⟨RX0, TX0, 11, rfl, by decide, iw_X0, tu_tb_in 78 rfl rfl⟩
set_option maxRecDepth 20000 in
theorem fl_RX3_122 : tu_fl RX3 122 0 6 := ⟨RX0, TX0, 11, rfl, by decide, iw_X0, tu_tb_in 86 rfl rfl⟩
set_option maxRecDepth 20000 in
theorem fl_RX3_131 : tu_fl RX3 131 0 2 := ⟨RX0, TX0, 11, rfl, by decide, iw_X0, tu_tb_in 75 rfl rfl⟩
set_option maxRecDepth 20000 in
theorem fl_RX3_144 : tu_fl RX3 144 0 5 := ⟨RX0, TX0, 11, rfl, by decide, iw_X0, tu_tb_in 83 rfl rfl⟩
set_option maxRecDepth 20000 in
theorem fl_RX3_34 : tu_fl RX3 34 3 4 := ⟨RX3, TX3, 7, rfl, by decide, iw_X3, tu_tb_in 189 rfl rfl⟩
set_option maxRecDepth 20000 in
theorem fp_RX3_34 : tu_fp RX3 34 3 4 := ⟨RX3, TX3, 7, rfl, by decide, iw_X3, tu_tb_in 189 rfl rfl, rfl, by decide +kernel, ⟨tyX3, tyX3_ok⟩, nmX3⟩
set_option maxRecDepth 20000 in
theorem fl_RX3_160 : tu_fl RX3 160 0 10 := ⟨RX0, TX0, 11, rfl, by decide, iw_X0, tu_tb_in 94 rfl rfl⟩
set_option maxRecDepth 20000 in
theorem fl_RX3_163 : tu_fl RX3 163 0 8 := ⟨RX0, TX0, 11, rfl, by decide, iw_X0, tu_tb_in 90 rfl rfl⟩
set_option maxRecDepth 20000 in
theorem fl_RX3_26 : tu_fl RX3 26 3 2 := ⟨RX3, TX3, 7, rfl, by decide, iw_X3, tu_tb_in 187 rfl rfl⟩
set_option maxRecDepth 20000 in
theorem fl_RX3_183 : tu_fl RX3 183 1 11 := ⟨RX1, TX1, 13, rfl, by decide, iw_X1, tu_tb_in 154 rfl rfl⟩
set_option maxRecDepth 20000 in
theorem fl_RX3_186 : tu_fl RX3 186 1 12 := ⟨RX1, TX1, 13, rfl, by decide, iw_X1, tu_tb_in 156 rfl rfl⟩
set_option maxRecDepth 20000 in
theorem fl_RX3_199 : tu_fl RX3 199 1 0 := ⟨RX1, TX1, 13, rfl, by decide, iw_X1, tu_tb_in 142 rfl rfl⟩
set_option maxRecDepth 20000 in
theorem fp_RX3_199 : tu_fp RX3 199 1 0 := ⟨RX1, TX1, 13, rfl, by decide, iw_X1, tu_tb_in 142 rfl rfl, rfl, by decide +kernel, ⟨tyX1, tyX1_ok⟩, nmX1⟩
set_option maxRecDepth 20000 in
theorem fl_RX3_30 : tu_fl RX3 30 3 3 := ⟨RX3, TX3, 7, rfl, by decide, iw_X3, tu_tb_in 188 rfl rfl⟩
set_option maxRecDepth 20000 in
theorem fl_RX3_38 : tu_fl RX3 38 3 5 := ⟨RX3, TX3, 7, rfl, by decide, iw_X3, tu_tb_in 190 rfl rfl⟩
set_option maxRecDepth 20000 in
theorem fl_RX3_41 : tu_fl RX3 41 3 6 := ⟨RX3, TX3, 7, rfl, by decide, iw_X3, tu_tb_in 191 rfl rfl⟩
set_option maxRecDepth 20000 in
theorem fl_RX4_40 : tu_fl RX4 40 4 2 := ⟨RX4, TX4, 18, rfl, by decide, iw_X4, tu_tb_in 526 rfl rfl⟩
set_option maxRecDepth 20000 in
theorem fp_RX4_40 : tu_fp RX4 40 4 2 := ⟨RX4, TX4, 18, rfl, by decide, iw_X4, tu_tb_in 526 rfl rfl, rfl, by decide +kernel, ⟨tyX4, tyX4_ok⟩, nmX4⟩
set_option maxRecDepth 20000 in
theorem fl_RX4_13 : tu_fl RX4 13 4 1 := ⟨RX4, TX4, 18, rfl, by decide, iw_X4, tu_tb_in 525 rfl rfl⟩
set_option maxRecDepth 20000 in
theorem fl_RX4_7 : tu_fl RX4 7 4 0 := ⟨RX4, TX4, 18, rfl, by decide, iw_X4, tu_tb_in 524 rfl rfl⟩
set_option maxRecDepth 20000 in
theorem fl_RX4_66 : tu_fl RX4 66 4 10 := ⟨RX4, TX4, 18, rfl, by decide, iw_X4, tu_tb_in 534 rfl rfl⟩
set_option maxRecDepth 20000 in
theorem fp_RX4_66 : tu_fp RX4 66 4 10 := ⟨RX4, TX4, 18, rfl, by decide, iw_X4, tu_tb_in 534 rfl rfl, rfl, by decide +kernel, ⟨tyX4, tyX4_ok⟩, nmX4⟩
set_option maxRecDepth 20000 in
theorem fl_RX4_69 : tu_fl RX4 69 4 11 := ⟨RX4, TX4, 18, rfl, by decide, iw_X4, tu_tb_in 535 rfl rfl⟩
set_option maxRecDepth 20000 in
theorem fp_RX4_69 : tu_fp RX4 69 4 11 := ⟨RX4, TX4, 18, rfl, by decide, iw_X4, tu_tb_in 535 rfl rfl, rfl, by decide +kernel, ⟨tyX4, tyX4_ok⟩, nmX4⟩
set_option maxRecDepth 20000 in
theorem fl_RX4_72 : tu_fl RX4 72 4 12 := ⟨RX4, TX4, 18, rfl, by decide, iw_X4, tu_tb_in 536 rfl rfl⟩
set_option maxRecDepth 20000 in
theorem fp_RX4_72 : tu_fp RX4 72 4 12 := ⟨RX4, TX4, 18, rfl, by decide, iw_X4, tu_tb_in 536 rfl rfl, rfl, by decide +kernel, ⟨tyX4, tyX4_ok⟩, nmX4⟩
set_option maxRecDepth 20000 in
theorem fl_RX4_75 : tu_fl RX4 75 4 13 := ⟨RX4, TX4, 18, rfl, by decide, iw_X4, tu_tb_in 537 rfl rfl⟩
set_option maxRecDepth 20000 in
theorem fp_RX4_75 : tu_fp RX4 75 4 13 := ⟨RX4, TX4, 18, rfl, by decide, iw_X4, tu_tb_in 537 rfl rfl, rfl, by decide +kernel, ⟨tyX4, tyX4_ok⟩, nmX4⟩
set_option maxRecDepth 20000 in
theorem fl_RX4_78 : tu_fl RX4 78 4 14 := ⟨RX4, TX4, 18, rfl, by decide, iw_X4, tu_tb_in 538 rfl rfl⟩
set_option maxRecDepth 20000 in
theorem fp_RX4_78 : tu_fp RX4 78 4 14 := ⟨RX4, TX4, 18, rfl, by decide, iw_X4, tu_tb_in 538 rfl rfl, rfl, by decide +kernel, ⟨tyX4, tyX4_ok⟩, nmX4⟩
set_option maxRecDepth 20000 in
theorem fl_RX4_81 : tu_fl RX4 81 4 15 := ⟨RX4, TX4, 18, rfl, by decide, iw_X4, tu_tb_in 539 rfl rfl⟩
set_option maxRecDepth 20000 in
theorem fp_RX4_81 : tu_fp RX4 81 4 15 := ⟨RX4, TX4, 18, rfl, by decide, iw_X4, tu_tb_in 539 rfl rfl, rfl, by decide +kernel, ⟨tyX4, tyX4_ok⟩, nmX4⟩
set_option maxRecDepth 20000 in
theorem fl_RX4_25 : tu_fl RX4 25 4 7 := ⟨RX4, TX4, 18, rfl, by decide, iw_X4, tu_tb_in 531 rfl rfl⟩
set_option maxRecDepth 20000 in
theorem fl_RX4_31 : tu_fl RX4 31 4 9 := ⟨RX4, TX4, 18, rfl, by decide, iw_X4, tu_tb_in 533 rfl rfl⟩
set_option maxRecDepth 20000 in
theorem fl_RX4_28 : tu_fl RX4 28 4 8 := ⟨RX4, TX4, 18, rfl, by decide, iw_X4, tu_tb_in 532 rfl rfl⟩
set_option maxRecDepth 20000 in
theorem fl_RX4_34 : tu_fl RX4 34 4 16 := ⟨RX4, TX4, 18, rfl, by decide, iw_X4, tu_tb_in 540 rfl rfl⟩
set_option maxRecDepth 20000 in
theorem fl_RX4_37 : tu_fl RX4 37 4 17 := ⟨RX4, TX4, 18, rfl, by decide, iw_X4, tu_tb_in 541 rfl rfl⟩
set_option maxRecDepth 20000 in
theorem fl_RX4_134 : tu_fl RX4 134 4 6 := ⟨RX4, TX4, 18, rfl, by decide, iw_X4, tu_tb_in 530 rfl rfl⟩
set_option maxRecDepth 20000 in
theorem fp_RX4_134 : tu_fp RX4 134 4 6 := ⟨RX4, TX4, 18, rfl, by decide, iw_X4, tu_tb_in 530 rfl rfl, rfl, by decide +kernel, ⟨tyX4, tyX4_ok⟩, nmX4⟩
set_option maxRecDepth 20000 in
theorem fl_RX4_22 : tu_fl RX4 22 4 5 := ⟨RX4, TX4, 18, rfl, by decide, iw_X4, tu_tb_in 529 rfl rfl⟩
set_option maxRecDepth 20000 in
theorem fl_RX4_16 : tu_fl RX4 16 4 3 := ⟨RX4, TX4, 18, rfl, by decide, iw_X4, tu_tb_in 527 rfl rfl⟩
set_option maxRecDepth 20000 in
theorem fl_RX4_19 : tu_fl RX4 19 4 4 := ⟨RX4, TX4, 18, rfl, by decide, iw_X4, tu_tb_in 528 rfl rfl⟩
set_option maxRecDepth 20000 in
theorem kw_RX1_75 : Cond.constant RX1 75 (1000000) ∈ tu_tb := tu_tb_in 375 rfl rfl
set_option maxRecDepth 20000 in
theorem kw_RX2_19 : Cond.constantLong RX2 19 (255) ∈ tu_tb := tu_tb_in 491 rfl rfl
set_option maxRecDepth 20000 in
theorem kw_RX2_21 : Cond.constantLong RX2 21 (33) ∈ tu_tb := tu_tb_in 492 rfl rfl
set_option maxRecDepth 20000 in
theorem kw_RX2_23 : Cond.constantLong RX2 23 (126) ∈ tu_tb := tu_tb_in 493 rfl rfl
set_option maxRecDepth 20000 in
theorem kw_RX3_169 : Cond.constant RX3 169 (1000000) ∈ tu_tb := tu_tb_in 357 rfl rfl
set_option maxRecDepth 20000 in
theorem kw_RX4_88 : Cond.constant RX4 88 (1000000000) ∈ tu_tb := tu_tb_in 702 rfl rfl
set_option maxRecDepth 20000 in
theorem kw_RX4_92 : Cond.constant RX4 92 (1000000) ∈ tu_tb := tu_tb_in 730 rfl rfl
set_option maxRecDepth 20000 in
theorem kw_RX4_193 : Cond.constantLong RX4 193 (255) ∈ tu_tb := tu_tb_in 819 rfl rfl
set_option maxRecDepth 20000 in
theorem kw_RL_109 : Cond.constantLong RL 109 (4294967295) ∈ tu_tb := tu_tb_in 840 rfl rfl
set_option maxRecDepth 20000 in
theorem ac_RX0 : Cond.methodLink RX0 49 arraycopyName ∈ tu_tb := tu_tb_in 65 rfl rfl
set_option maxRecDepth 20000 in
theorem ac_RX1 : Cond.methodLink RX1 64 arraycopyName ∈ tu_tb := tu_tb_in 366 rfl rfl
set_option maxRecDepth 20000 in
theorem mn_RX1 : Cond.methodLink RX1 84 Lib.Math.min.name ∈ tu_tb := tu_tb_in 380 rfl rfl
set_option maxRecDepth 20000 in
theorem mx_RX0 : Cond.methodLink RX0 89 Lib.Math.max.name ∈ tu_tb := tu_tb_in 407 rfl rfl
set_option maxRecDepth 20000 in
theorem gs_1 : Cond.fieldLink RX3 45 RX3 "LEAST_VALUES" "[I" ∈ tu_tb := tu_tb_in 212 rfl rfl
set_option maxRecDepth 20000 in
theorem gs_2 : Cond.fieldLink RX3 49 RX3 "GREATEST_VALUES" "[I" ∈ tu_tb := tu_tb_in 214 rfl rfl
theorem nf_le : 8 + (nativeFrameWords "java/lang/System" "arraycopy" 5 + 11) ≤ 40 := by decide
