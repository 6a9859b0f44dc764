def tu_Y_X0_takeOver : tu_Y := (yX0_takeOver, cX0_takeOver, 2, none, 1, 40)
def tu_Y_X0_hasLine : tu_Y := (yX0_hasLine, cX0_hasLine, 2, (some .boolean), 0, 0)
def tu_Y_X0_hasPhrase : tu_Y := (yX0_hasPhrase, cX0_hasPhrase, 2, (some .boolean), 0, 0)
def tu_Y_X0_hasSyllable : tu_Y := (yX0_hasSyllable, cX0_hasSyllable, 3, (some .boolean), 1, 21)
def tu_Y_X0_hasBeat : tu_Y := (yX0_hasBeat, cX0_hasBeat, 3, (some .boolean), 1, 21)
def tu_Y_X0_beginPart : tu_Y := (yX0_beginPart, cX0_beginPart, 2, none, 0, 0)
def tu_Y_X0_addSign : tu_Y := (yX0_addSign, cX0_addSign, 2, none, 1, 22)
def tu_Y_X0_addSyllable : tu_Y := (yX0_addSyllable, cX0_addSyllable, 3, none, 0, 0)
def tu_Y_X0_addBeat : tu_Y := (yX0_addBeat, cX0_addBeat, 3, none, 0, 0)
def tu_Y_X0_removeLine : tu_Y := (yX0_removeLine, cX0_removeLine, 3, none, 1, 40)
def tu_Y_X0_removePhrase : tu_Y := (yX0_removePhrase, cX0_removePhrase, 3, none, 1, 40)
def tu_Y_X0_withoutNumber : tu_Y := (yX0_withoutNumber, cX0_withoutNumber, 5, (some .int), 0, 0)
def tu_Y_X0_addToBallad : tu_Y := (yX0_addToBallad, cX0_addToBallad, 2, none, 0, 0)
def tu_Y_X0_addToTune : tu_Y := (yX0_addToTune, cX0_addToTune, 2, none, 0, 0)
def tu_Y_X0_timesSung : tu_Y := (yX0_timesSung, cX0_timesSung, 2, (some .int), 1, 24)
def tu_Y_X0_timesPlayed : tu_Y := (yX0_timesPlayed, cX0_timesPlayed, 2, (some .int), 1, 24)
def tu_Y_X0_timesIn : tu_Y := (yX0_timesIn, cX0_timesIn, 5, (some .int), 0, 0)
def tu_Y_X0_burdens : tu_Y := (yX0_burdens, cX0_burdens, 3, (some .int), 2, 45)
def tu_Y_X0_stressedOf : tu_Y := (yX0_stressedOf, cX0_stressedOf, 4, (some .int), 0, 0)
def tu_Y_X0_beatsOfKind : tu_Y := (yX0_beatsOfKind, cX0_beatsOfKind, 5, (some .int), 0, 0)
def tu_Y_X0_longestRow : tu_Y := (yX0_longestRow, cX0_longestRow, 5, (some .int), 1, 21)
def tu_Y_X1_take : tu_Y := (yX1_take, cX1_take, 5, none, 1, 40)
def tu_Y_X1_turnStress : tu_Y := (yX1_turnStress, cX1_turnStress, 2, none, 0, 0)
def tu_Y_X1_leastCost : tu_Y := (yX1_leastCost, cX1_leastCost, 5, (some .int), 2, 45)
def tu_Y_X1_mostHeld : tu_Y := (yX1_mostHeld, cX1_mostHeld, 2, (some .int), 1, 21)
def tu_Y_X1_hurts : tu_Y := (yX1_hurts, cX1_hurts, 3, (some .boolean), 0, 0)
def tu_Y_X1_costOfFree : tu_Y := (yX1_costOfFree, cX1_costOfFree, 3, (some .int), 0, 0)
def tu_Y_X1_costOfHeld : tu_Y := (yX1_costOfHeld, cX1_costOfHeld, 4, (some .int), 1, 22)
def tu_Y_X1_countWays : tu_Y := (yX1_countWays, cX1_countWays, 4, (some .int), 3, 71)
def tu_Y_X1_waysFrom : tu_Y := (yX1_waysFrom, cX1_waysFrom, 7, (some .int), 2, 45)
def tu_Y_X1_findBestWay : tu_Y := (yX1_findBestWay, cX1_findBestWay, 3, none, 3, 68)
def tu_Y_X1_heldByBestWay : tu_Y := (yX1_heldByBestWay, cX1_heldByBestWay, 4, (some .int), 2, 45)
def tu_Y_X1_freeBeats : tu_Y := (yX1_freeBeats, cX1_freeBeats, 3, (some .int), 4, 90)
def tu_Y_X1_hurtSyllables : tu_Y := (yX1_hurtSyllables, cX1_hurtSyllables, 3, (some .int), 4, 90)
def tu_Y_X2_isSyllable : tu_Y := (yX2_isSyllable, cX2_isSyllable, 1, (some .boolean), 0, 0)
def tu_Y_X2_isBeat : tu_Y := (yX2_isBeat, cX2_isBeat, 1, (some .boolean), 0, 0)
def tu_Y_X2_signsIn : tu_Y := (yX2_signsIn, cX2_signsIn, 7, (some .int), 0, 0)
def tu_Y_X2_append : tu_Y := (yX2_append, cX2_append, 5, none, 0, 0)
def tu_Y_X2_beginsPart : tu_Y := (yX2_beginsPart, cX2_beginsPart, 2, (some .boolean), 0, 0)
def tu_Y_X2_parts : tu_Y := (yX2_parts, cX2_parts, 3, (some .int), 1, 21)
def tu_Y_X2_phraseParts : tu_Y := (yX2_phraseParts, cX2_phraseParts, 3, (some .int), 0, 0)
def tu_Y_X2_faultPlace : tu_Y := (yX2_faultPlace, cX2_faultPlace, 5, (some .int), 1, 20)
def tu_Y_X3_set : tu_Y := (yX3_set, cX3_set, 4, (some .int), 3, 83)
def tu_Y_X3_write : tu_Y := (yX3_write, cX3_write, 4, (some .int), 3, 83)
def tu_Y_X3_dropLine : tu_Y := (yX3_dropLine, cX3_dropLine, 2, (some .int), 3, 83)
def tu_Y_X3_dropPhrase : tu_Y := (yX3_dropPhrase, cX3_dropPhrase, 2, (some .int), 3, 83)
def tu_Y_X3_stress : tu_Y := (yX3_stress, cX3_stress, 6, (some .int), 3, 83)
def tu_Y_X3_beat : tu_Y := (yX3_beat, cX3_beat, 6, (some .int), 3, 83)
def tu_Y_X3_sing : tu_Y := (yX3_sing, cX3_sing, 2, (some .int), 3, 83)
def tu_Y_X3_play : tu_Y := (yX3_play, cX3_play, 2, (some .int), 3, 83)
def tu_Y_X3_verse : tu_Y := (yX3_verse, cX3_verse, 5, (some .int), 3, 83)
def tu_Y_X3_clear : tu_Y := (yX3_clear, cX3_clear, 3, (some .int), 3, 83)
def tu_Y_X3_line : tu_Y := (yX3_line, cX3_line, 3, (some .int), 5, 116)
def tu_Y_X3_phrase : tu_Y := (yX3_phrase, cX3_phrase, 3, (some .int), 2, 45)
def tu_Y_X3_isStressed : tu_Y := (yX3_isStressed, cX3_isStressed, 3, (some .int), 2, 43)
def tu_Y_X3_kindOf : tu_Y := (yX3_kindOf, cX3_kindOf, 3, (some .int), 2, 43)
def tu_Y_X3_count : tu_Y := (yX3_count, cX3_count, 2, (some .int), 3, 67)
def tu_Y_X3_at : tu_Y := (yX3_at, cX3_at, 3, (some .int), 0, 0)
def tu_Y_X3_fit : tu_Y := (yX3_fit, cX3_fit, 5, (some .int), 5, 112)
def tu_Y_X3_lies : tu_Y := (yX3_lies, cX3_lies, 5, (some .int), 4, 91)
def tu_Y_X3_whole : tu_Y := (yX3_whole, cX3_whole, 10, (some .int), 4, 91)
def tu_Y_X3_bestPhrase : tu_Y := (yX3_bestPhrase, cX3_bestPhrase, 10, (some .int), 4, 91)
def tu_Y_X3_bestChange : tu_Y := (yX3_bestChange, cX3_bestChange, 8, (some .int), 3, 69)
def tu_Y_X3_enoughBreath : tu_Y := (yX3_enoughBreath, cX3_enoughBreath, 7, (some .int), 3, 69)
def tu_Y_X3_put : tu_Y := (yX3_put, cX3_put, 4, (some .int), 1, 26)
def tu_Y_X3_wipe : tu_Y := (yX3_wipe, cX3_wipe, 2, (some .int), 0, 0)
def tu_Y_X3_fault : tu_Y := (yX3_fault, cX3_fault, 1, (some .int), 2, 44)
def tu_Y_X3_record : tu_Y := (yX3_record, cX3_record, 3, none, 2, 61)
def tu_Y_X3_leastCostOf : tu_Y := (yX3_leastCostOf, cX3_leastCostOf, 3, (some .int), 3, 69)
def tu_Y_X3_cheapestPhrase : tu_Y := (yX3_cheapestPhrase, cX3_cheapestPhrase, 6, (some .int), 4, 91)
def tu_Y_L_cell : tu_Y := (yL_cell, cL_cell, 2, (some .int), 0, 0)
def tu_Y_L_low : tu_Y := (yL_low, cL_low, 2, (some .int), 0, 0)
def tu_Y_L_lay : tu_Y := (yL_lay, cL_lay, 20, none, 0, 0)
def tu_Y_L_sung : tu_Y := (yL_sung, cL_sung, 5, (some .int), 0, 0)
def tu_Y_L_bits : tu_Y := (yL_bits, cL_bits, 3, (some .int), 0, 0)
def tu_Y_L_same : tu_Y := (yL_same, cL_same, 15, (some .boolean), 6, 138)
def tu_Y_L_whole : tu_Y := (yL_whole, cL_whole, 19, (some .boolean), 5, 120)
set_option maxRecDepth 20000 in
theorem co_X0_hasLine : Cond.code tu_Y_X0_hasLine.1 tu_Y_X0_hasLine.2.1 tu_Y_X0_hasLine.2.2.1 tu_Y_X0_hasLine.2.2.2.1 ∈ tu_tb := tu_tb_in 243 rfl rfl
set_option maxRecDepth 20000 in
theorem sv_RX0_55 : tu_sV RX0 55 tu_Y_X0_hasLine 1 := ⟨⟨tu_tb_in 271 rfl rfl, tu_tb_in 241 rfl rfl, tu_tb_in 242 rfl rfl, tu_tb_in 11 rfl rfl, co_X0_hasLine⟩, by decide, by decide, by decide⟩
set_option maxRecDepth 20000 in
theorem co_X0_hasPhrase : Cond.code tu_Y_X0_hasPhrase.1 tu_Y_X0_hasPhrase.2.1 tu_Y_X0_hasPhrase.2.2.1 tu_Y_X0_hasPhrase.2.2.2.1 ∈ tu_tb := tu_tb_in 258 rfl rfl
set_option maxRecDepth 20000 in
theorem sv_RX0_59 : tu_sV RX0 59 tu_Y_X0_hasPhrase 1 := ⟨⟨tu_tb_in 280 rfl rfl, tu_tb_in 256 rfl rfl, tu_tb_in 257 rfl rfl, tu_tb_in 11 rfl rfl, co_X0_hasPhrase⟩, by decide, by decide, by decide⟩
set_option maxRecDepth 20000 in
theorem co_X2_isSyllable : Cond.code tu_Y_X2_isSyllable.1 tu_Y_X2_isSyllable.2.1 tu_Y_X2_isSyllable.2.2.1 tu_Y_X2_isSyllable.2.2.2.1 ∈ tu_tb := tu_tb_in 201 rfl rfl
set_option maxRecDepth 20000 in
theorem ss_RX0_62 : tu_sS RX0 62 tu_Y_X2_isSyllable 1 := ⟨⟨tu_tb_in 226 rfl rfl, tu_tb_in 200 rfl rfl, tu_tb_in 13 rfl rfl, co_X2_isSyllable⟩, by decide, by decide, by decide⟩
set_option maxRecDepth 20000 in
theorem co_X0_addSyllable : Cond.code tu_Y_X0_addSyllable.1 tu_Y_X0_addSyllable.2.1 tu_Y_X0_addSyllable.2.2.1 tu_Y_X0_addSyllable.2.2.2.1 ∈ tu_tb := tu_tb_in 230 rfl rfl
set_option maxRecDepth 20000 in
theorem sv_RX0_68 : tu_sV RX0 68 tu_Y_X0_addSyllable 1 := ⟨⟨tu_tb_in 227 rfl rfl, tu_tb_in 228 rfl rfl, tu_tb_in 229 rfl rfl, tu_tb_in 11 rfl rfl, co_X0_addSyllable⟩, by decide, by decide, by decide⟩
set_option maxRecDepth 20000 in
theorem co_X2_isBeat : Cond.code tu_Y_X2_isBeat.1 tu_Y_X2_isBeat.2.1 tu_Y_X2_isBeat.2.2.1 tu_Y_X2_isBeat.2.2.2.1 ∈ tu_tb := tu_tb_in 204 rfl rfl
set_option maxRecDepth 20000 in
theorem ss_RX0_72 : tu_sS RX0 72 tu_Y_X2_isBeat 1 := ⟨⟨tu_tb_in 231 rfl rfl, tu_tb_in 203 rfl rfl, tu_tb_in 13 rfl rfl, co_X2_isBeat⟩, by decide, by decide, by decide⟩
set_option maxRecDepth 20000 in
theorem co_X0_addBeat : Cond.code tu_Y_X0_addBeat.1 tu_Y_X0_addBeat.2.1 tu_Y_X0_addBeat.2.2.1 tu_Y_X0_addBeat.2.2.2.1 ∈ tu_tb := tu_tb_in 235 rfl rfl
set_option maxRecDepth 20000 in
theorem sv_RX0_75 : tu_sV RX0 75 tu_Y_X0_addBeat 1 := ⟨⟨tu_tb_in 232 rfl rfl, tu_tb_in 233 rfl rfl, tu_tb_in 234 rfl rfl, tu_tb_in 11 rfl rfl, co_X0_addBeat⟩, by decide, by decide, by decide⟩
set_option maxRecDepth 20000 in
theorem co_X0_withoutNumber : Cond.code tu_Y_X0_withoutNumber.1 tu_Y_X0_withoutNumber.2.1 tu_Y_X0_withoutNumber.2.2.1 tu_Y_X0_withoutNumber.2.2.2.1 ∈ tu_tb := tu_tb_in 250 rfl rfl
set_option maxRecDepth 20000 in
theorem ss_RX0_78 : tu_sS RX0 78 tu_Y_X0_withoutNumber 3 := ⟨⟨tu_tb_in 248 rfl rfl, tu_tb_in 249 rfl rfl, tu_tb_in 11 rfl rfl, co_X0_withoutNumber⟩, by decide, by decide, by decide⟩
set_option maxRecDepth 20000 in
theorem co_X0_timesIn : Cond.code tu_Y_X0_timesIn.1 tu_Y_X0_timesIn.2.1 tu_Y_X0_timesIn.2.2.1 tu_Y_X0_timesIn.2.2.2.1 ∈ tu_tb := tu_tb_in 430 rfl rfl
set_option maxRecDepth 20000 in
theorem ss_RX0_82 : tu_sS RX0 82 tu_Y_X0_timesIn 3 := ⟨⟨tu_tb_in 428 rfl rfl, tu_tb_in 429 rfl rfl, tu_tb_in 11 rfl rfl, co_X0_timesIn⟩, by decide, by decide, by decide⟩
set_option maxRecDepth 20000 in
theorem co_X0_timesSung : Cond.code tu_Y_X0_timesSung.1 tu_Y_X0_timesSung.2.1 tu_Y_X0_timesSung.2.2.1 tu_Y_X0_timesSung.2.2.2.1 ∈ tu_tb := tu_tb_in 427 rfl rfl
set_option maxRecDepth 20000 in
theorem sv_RX0_85 : tu_sV RX0 85 tu_Y_X0_timesSung 1 := ⟨⟨tu_tb_in 473 rfl rfl, tu_tb_in 425 rfl rfl, tu_tb_in 426 rfl rfl, tu_tb_in 11 rfl rfl, co_X0_timesSung⟩, by decide, by decide, by decide⟩
set_option maxRecDepth 20000 in
theorem co_X1_costOfFree : Cond.code tu_Y_X1_costOfFree.1 tu_Y_X1_costOfFree.2.1 tu_Y_X1_costOfFree.2.2.1 tu_Y_X1_costOfFree.2.2.2.1 ∈ tu_tb := tu_tb_in 365 rfl rfl
set_option maxRecDepth 20000 in
theorem sv_RX1_71 : tu_sV RX1 71 tu_Y_X1_costOfFree 2 := ⟨⟨tu_tb_in 362 rfl rfl, tu_tb_in 364 rfl rfl, tu_tb_in 2 rfl rfl, tu_tb_in 14 rfl rfl, co_X1_costOfFree⟩, by decide, by decide, by decide⟩
set_option maxRecDepth 20000 in
theorem co_X1_mostHeld : Cond.code tu_Y_X1_mostHeld.1 tu_Y_X1_mostHeld.2.1 tu_Y_X1_mostHeld.2.2.1 tu_Y_X1_mostHeld.2.2.2.1 ∈ tu_tb := tu_tb_in 370 rfl rfl
set_option maxRecDepth 20000 in
theorem sv_RX1_76 : tu_sV RX1 76 tu_Y_X1_mostHeld 1 := ⟨⟨tu_tb_in 367 rfl rfl, tu_tb_in 369 rfl rfl, tu_tb_in 3 rfl rfl, tu_tb_in 14 rfl rfl, co_X1_mostHeld⟩, by decide, by decide, by decide⟩
set_option maxRecDepth 20000 in
theorem co_X1_costOfHeld : Cond.code tu_Y_X1_costOfHeld.1 tu_Y_X1_costOfHeld.2.1 tu_Y_X1_costOfHeld.2.2.1 tu_Y_X1_costOfHeld.2.2.2.1 ∈ tu_tb := tu_tb_in 377 rfl rfl
set_option maxRecDepth 20000 in
theorem sv_RX1_80 : tu_sV RX1 80 tu_Y_X1_costOfHeld 3 := ⟨⟨tu_tb_in 374 rfl rfl, tu_tb_in 376 rfl rfl, tu_tb_in 4 rfl rfl, tu_tb_in 14 rfl rfl, co_X1_costOfHeld⟩, by decide, by decide, by decide⟩
set_option maxRecDepth 20000 in
theorem co_X1_hurts : Cond.code tu_Y_X1_hurts.1 tu_Y_X1_hurts.2.1 tu_Y_X1_hurts.2.2.1 tu_Y_X1_hurts.2.2.2.1 ∈ tu_tb := tu_tb_in 381 rfl rfl
set_option maxRecDepth 20000 in
theorem sv_RX1_89 : tu_sV RX1 89 tu_Y_X1_hurts 2 := ⟨⟨tu_tb_in 378 rfl rfl, tu_tb_in 380 rfl rfl, tu_tb_in 5 rfl rfl, tu_tb_in 14 rfl rfl, co_X1_hurts⟩, by decide, by decide, by decide⟩
set_option maxRecDepth 20000 in
theorem co_X1_waysFrom : Cond.code tu_Y_X1_waysFrom.1 tu_Y_X1_waysFrom.2.1 tu_Y_X1_waysFrom.2.2.1 tu_Y_X1_waysFrom.2.2.2.1 ∈ tu_tb := tu_tb_in 390 rfl rfl
set_option maxRecDepth 20000 in
theorem sv_RX1_93 : tu_sV RX1 93 tu_Y_X1_waysFrom 3 := ⟨⟨tu_tb_in 387 rfl rfl, tu_tb_in 389 rfl rfl, tu_tb_in 6 rfl rfl, tu_tb_in 14 rfl rfl, co_X1_waysFrom⟩, by decide, by decide, by decide⟩
set_option maxRecDepth 20000 in
theorem co_X1_heldByBestWay : Cond.code tu_Y_X1_heldByBestWay.1 tu_Y_X1_heldByBestWay.2.1 tu_Y_X1_heldByBestWay.2.2.1 tu_Y_X1_heldByBestWay.2.2.2.1 ∈ tu_tb := tu_tb_in 402 rfl rfl
set_option maxRecDepth 20000 in
theorem sv_RX1_97 : tu_sV RX1 97 tu_Y_X1_heldByBestWay 2 := ⟨⟨tu_tb_in 399 rfl rfl, tu_tb_in 401 rfl rfl, tu_tb_in 7 rfl rfl, tu_tb_in 14 rfl rfl, co_X1_heldByBestWay⟩, by decide, by decide, by decide⟩
set_option maxRecDepth 20000 in
theorem co_X1_findBestWay : Cond.code tu_Y_X1_findBestWay.1 tu_Y_X1_findBestWay.2.1 tu_Y_X1_findBestWay.2.2.1 tu_Y_X1_findBestWay.2.2.2.1 ∈ tu_tb := tu_tb_in 398 rfl rfl
set_option maxRecDepth 20000 in
theorem sv_RX1_100 : tu_sV RX1 100 tu_Y_X1_findBestWay 0 := ⟨⟨tu_tb_in 395 rfl rfl, tu_tb_in 396 rfl rfl, tu_tb_in 397 rfl rfl, tu_tb_in 14 rfl rfl, co_X1_findBestWay⟩, by decide, by decide, by decide⟩
set_option maxRecDepth 20000 in
theorem co_X2_beginsPart : Cond.code tu_Y_X2_beginsPart.1 tu_Y_X2_beginsPart.2.1 tu_Y_X2_beginsPart.2.2.1 tu_Y_X2_beginsPart.2.2.2.1 ∈ tu_tb := tu_tb_in 216 rfl rfl
set_option maxRecDepth 20000 in
theorem sv_RX2_25 : tu_sV RX2 25 tu_Y_X2_beginsPart 1 := ⟨⟨tu_tb_in 213 rfl rfl, tu_tb_in 214 rfl rfl, tu_tb_in 215 rfl rfl, tu_tb_in 13 rfl rfl, co_X2_beginsPart⟩, by decide, by decide, by decide⟩
set_option maxRecDepth 20000 in
theorem ss_RX2_29 : tu_sS RX2 29 tu_Y_X2_isSyllable 1 := ⟨⟨tu_tb_in 199 rfl rfl, tu_tb_in 200 rfl rfl, tu_tb_in 13 rfl rfl, co_X2_isSyllable⟩, by decide, by decide, by decide⟩
set_option maxRecDepth 20000 in
theorem ss_RX2_33 : tu_sS RX2 33 tu_Y_X2_isBeat 1 := ⟨⟨tu_tb_in 202 rfl rfl, tu_tb_in 203 rfl rfl, tu_tb_in 13 rfl rfl, co_X2_isBeat⟩, by decide, by decide, by decide⟩
set_option maxRecDepth 20000 in
theorem co_X3_record : Cond.code tu_Y_X3_record.1 tu_Y_X3_record.2.1 tu_Y_X3_record.2.2.1 tu_Y_X3_record.2.2.2.1 ∈ tu_tb := tu_tb_in 186 rfl rfl
set_option maxRecDepth 20000 in
theorem sv_RX3_52 : tu_sV RX3 52 tu_Y_X3_record 0 := ⟨⟨tu_tb_in 183 rfl rfl, tu_tb_in 185 rfl rfl, tu_tb_in 0 rfl rfl, tu_tb_in 10 rfl rfl, co_X3_record⟩, by decide, by decide, by decide⟩
set_option maxRecDepth 20000 in
theorem co_X2_faultPlace : Cond.code tu_Y_X2_faultPlace.1 tu_Y_X2_faultPlace.2.1 tu_Y_X2_faultPlace.2.2.1 tu_Y_X2_faultPlace.2.2.2.1 ∈ tu_tb := tu_tb_in 198 rfl rfl
set_option maxRecDepth 20000 in
theorem sv_RX3_58 : tu_sV RX3 58 tu_Y_X2_faultPlace 0 := ⟨⟨tu_tb_in 195 rfl rfl, tu_tb_in 196 rfl rfl, tu_tb_in 197 rfl rfl, tu_tb_in 13 rfl rfl, co_X2_faultPlace⟩, by decide, by decide, by decide⟩
set_option maxRecDepth 20000 in
theorem co_X2_phraseParts : Cond.code tu_Y_X2_phraseParts.1 tu_Y_X2_phraseParts.2.1 tu_Y_X2_phraseParts.2.2.1 tu_Y_X2_phraseParts.2.2.2.1 ∈ tu_tb := tu_tb_in 208 rfl rfl
set_option maxRecDepth 20000 in
theorem sv_RX3_62 : tu_sV RX3 62 tu_Y_X2_phraseParts 0 := ⟨⟨tu_tb_in 205 rfl rfl, tu_tb_in 206 rfl rfl, tu_tb_in 207 rfl rfl, tu_tb_in 13 rfl rfl, co_X2_phraseParts⟩, by decide, by decide, by decide⟩
set_option maxRecDepth 20000 in
theorem co_X2_parts : Cond.code tu_Y_X2_parts.1 tu_Y_X2_parts.2.1 tu_Y_X2_parts.2.2.1 tu_Y_X2_parts.2.2.2.1 ∈ tu_tb := tu_tb_in 212 rfl rfl
set_option maxRecDepth 20000 in
theorem sv_RX3_65 : tu_sV RX3 65 tu_Y_X2_parts 0 := ⟨⟨tu_tb_in 209 rfl rfl, tu_tb_in 210 rfl rfl, tu_tb_in 211 rfl rfl, tu_tb_in 13 rfl rfl, co_X2_parts⟩, by decide, by decide, by decide⟩
set_option maxRecDepth 20000 in
theorem sv_RX3_77 : tu_sV RX3 77 tu_Y_X2_beginsPart 1 := ⟨⟨tu_tb_in 217 rfl rfl, tu_tb_in 214 rfl rfl, tu_tb_in 215 rfl rfl, tu_tb_in 13 rfl rfl, co_X2_beginsPart⟩, by decide, by decide, by decide⟩
set_option maxRecDepth 20000 in
theorem co_X0_beginPart : Cond.code tu_Y_X0_beginPart.1 tu_Y_X0_beginPart.2.1 tu_Y_X0_beginPart.2.2.1 tu_Y_X0_beginPart.2.2.2.1 ∈ tu_tb := tu_tb_in 221 rfl rfl
set_option maxRecDepth 20000 in
theorem sv_RX3_85 : tu_sV RX3 85 tu_Y_X0_beginPart 1 := ⟨⟨tu_tb_in 218 rfl rfl, tu_tb_in 219 rfl rfl, tu_tb_in 220 rfl rfl, tu_tb_in 11 rfl rfl, co_X0_beginPart⟩, by decide, by decide, by decide⟩
set_option maxRecDepth 20000 in
theorem co_X0_addSign : Cond.code tu_Y_X0_addSign.1 tu_Y_X0_addSign.2.1 tu_Y_X0_addSign.2.2.1 tu_Y_X0_addSign.2.2.2.1 ∈ tu_tb := tu_tb_in 225 rfl rfl
set_option maxRecDepth 20000 in
theorem sv_RX3_89 : tu_sV RX3 89 tu_Y_X0_addSign 1 := ⟨⟨tu_tb_in 222 rfl rfl, tu_tb_in 223 rfl rfl, tu_tb_in 224 rfl rfl, tu_tb_in 11 rfl rfl, co_X0_addSign⟩, by decide, by decide, by decide⟩
set_option maxRecDepth 20000 in
theorem sv_RX3_93 : tu_sV RX3 93 tu_Y_X0_hasLine 1 := ⟨⟨tu_tb_in 240 rfl rfl, tu_tb_in 241 rfl rfl, tu_tb_in 242 rfl rfl, tu_tb_in 11 rfl rfl, co_X0_hasLine⟩, by decide, by decide, by decide⟩
set_option maxRecDepth 20000 in
theorem co_X0_removeLine : Cond.code tu_Y_X0_removeLine.1 tu_Y_X0_removeLine.2.1 tu_Y_X0_removeLine.2.2.1 tu_Y_X0_removeLine.2.2.2.1 ∈ tu_tb := tu_tb_in 247 rfl rfl
set_option maxRecDepth 20000 in
theorem sv_RX3_96 : tu_sV RX3 96 tu_Y_X0_removeLine 1 := ⟨⟨tu_tb_in 244 rfl rfl, tu_tb_in 245 rfl rfl, tu_tb_in 246 rfl rfl, tu_tb_in 11 rfl rfl, co_X0_removeLine⟩, by decide, by decide, by decide⟩
set_option maxRecDepth 20000 in
theorem sv_RX3_103 : tu_sV RX3 103 tu_Y_X0_hasPhrase 1 := ⟨⟨tu_tb_in 255 rfl rfl, tu_tb_in 256 rfl rfl, tu_tb_in 257 rfl rfl, tu_tb_in 11 rfl rfl, co_X0_hasPhrase⟩, by decide, by decide, by decide⟩
set_option maxRecDepth 20000 in
theorem co_X0_removePhrase : Cond.code tu_Y_X0_removePhrase.1 tu_Y_X0_removePhrase.2.1 tu_Y_X0_removePhrase.2.2.1 tu_Y_X0_removePhrase.2.2.2.1 ∈ tu_tb := tu_tb_in 262 rfl rfl
set_option maxRecDepth 20000 in
theorem sv_RX3_106 : tu_sV RX3 106 tu_Y_X0_removePhrase 1 := ⟨⟨tu_tb_in 259 rfl rfl, tu_tb_in 260 rfl rfl, tu_tb_in 261 rfl rfl, tu_tb_in 11 rfl rfl, co_X0_removePhrase⟩, by decide, by decide, by decide⟩
set_option maxRecDepth 20000 in
theorem co_X0_hasSyllable : Cond.code tu_Y_X0_hasSyllable.1 tu_Y_X0_hasSyllable.2.1 tu_Y_X0_hasSyllable.2.2.1 tu_Y_X0_hasSyllable.2.2.2.1 ∈ tu_tb := tu_tb_in 270 rfl rfl
set_option maxRecDepth 20000 in
theorem sv_RX3_112 : tu_sV RX3 112 tu_Y_X0_hasSyllable 2 := ⟨⟨tu_tb_in 267 rfl rfl, tu_tb_in 268 rfl rfl, tu_tb_in 269 rfl rfl, tu_tb_in 11 rfl rfl, co_X0_hasSyllable⟩, by decide, by decide, by decide⟩
set_option maxRecDepth 20000 in
theorem co_X0_hasBeat : Cond.code tu_Y_X0_hasBeat.1 tu_Y_X0_hasBeat.2.1 tu_Y_X0_hasBeat.2.2.1 tu_Y_X0_hasBeat.2.2.2.1 ∈ tu_tb := tu_tb_in 279 rfl rfl
set_option maxRecDepth 20000 in
theorem sv_RX3_119 : tu_sV RX3 119 tu_Y_X0_hasBeat 2 := ⟨⟨tu_tb_in 276 rfl rfl, tu_tb_in 277 rfl rfl, tu_tb_in 278 rfl rfl, tu_tb_in 11 rfl rfl, co_X0_hasBeat⟩, by decide, by decide, by decide⟩
set_option maxRecDepth 20000 in
theorem co_X0_addToBallad : Cond.code tu_Y_X0_addToBallad.1 tu_Y_X0_addToBallad.2.1 tu_Y_X0_addToBallad.2.2.1 tu_Y_X0_addToBallad.2.2.2.1 ∈ tu_tb := tu_tb_in 288 rfl rfl
set_option maxRecDepth 20000 in
theorem sv_RX3_125 : tu_sV RX3 125 tu_Y_X0_addToBallad 1 := ⟨⟨tu_tb_in 285 rfl rfl, tu_tb_in 286 rfl rfl, tu_tb_in 287 rfl rfl, tu_tb_in 11 rfl rfl, co_X0_addToBallad⟩, by decide, by decide, by decide⟩
set_option maxRecDepth 20000 in
theorem co_X0_addToTune : Cond.code tu_Y_X0_addToTune.1 tu_Y_X0_addToTune.2.1 tu_Y_X0_addToTune.2.2.1 tu_Y_X0_addToTune.2.2.2.1 ∈ tu_tb := tu_tb_in 296 rfl rfl
set_option maxRecDepth 20000 in
theorem sv_RX3_128 : tu_sV RX3 128 tu_Y_X0_addToTune 1 := ⟨⟨tu_tb_in 293 rfl rfl, tu_tb_in 294 rfl rfl, tu_tb_in 295 rfl rfl, tu_tb_in 11 rfl rfl, co_X0_addToTune⟩, by decide, by decide, by decide⟩
set_option maxRecDepth 20000 in
theorem co_X0_stressedOf : Cond.code tu_Y_X0_stressedOf.1 tu_Y_X0_stressedOf.2.1 tu_Y_X0_stressedOf.2.2.1 tu_Y_X0_stressedOf.2.2.2.1 ∈ tu_tb := tu_tb_in 423 rfl rfl
set_option maxRecDepth 20000 in
theorem sv_RX3_134 : tu_sV RX3 134 tu_Y_X0_stressedOf 1 := ⟨⟨tu_tb_in 420 rfl rfl, tu_tb_in 421 rfl rfl, tu_tb_in 422 rfl rfl, tu_tb_in 11 rfl rfl, co_X0_stressedOf⟩, by decide, by decide, by decide⟩
set_option maxRecDepth 20000 in
theorem sv_RX3_138 : tu_sV RX3 138 tu_Y_X0_timesSung 1 := ⟨⟨tu_tb_in 424 rfl rfl, tu_tb_in 425 rfl rfl, tu_tb_in 426 rfl rfl, tu_tb_in 11 rfl rfl, co_X0_timesSung⟩, by decide, by decide, by decide⟩
set_option maxRecDepth 20000 in
theorem co_X3_cheapestPhrase : Cond.code tu_Y_X3_cheapestPhrase.1 tu_Y_X3_cheapestPhrase.2.1 tu_Y_X3_cheapestPhrase.2.2.1 tu_Y_X3_cheapestPhrase.2.2.2.1 ∈ tu_tb := tu_tb_in 434 rfl rfl
set_option maxRecDepth 20000 in
theorem sv_RX3_141 : tu_sV RX3 141 tu_Y_X3_cheapestPhrase 1 := ⟨⟨tu_tb_in 431 rfl rfl, tu_tb_in 433 rfl rfl, tu_tb_in 8 rfl rfl, tu_tb_in 10 rfl rfl, co_X3_cheapestPhrase⟩, by decide, by decide, by decide⟩
set_option maxRecDepth 20000 in
theorem co_X0_beatsOfKind : Cond.code tu_Y_X0_beatsOfKind.1 tu_Y_X0_beatsOfKind.2.1 tu_Y_X0_beatsOfKind.2.2.1 tu_Y_X0_beatsOfKind.2.2.2.1 ∈ tu_tb := tu_tb_in 449 rfl rfl
set_option maxRecDepth 20000 in
theorem sv_RX3_147 : tu_sV RX3 147 tu_Y_X0_beatsOfKind 2 := ⟨⟨tu_tb_in 446 rfl rfl, tu_tb_in 447 rfl rfl, tu_tb_in 448 rfl rfl, tu_tb_in 11 rfl rfl, co_X0_beatsOfKind⟩, by decide, by decide, by decide⟩
set_option maxRecDepth 20000 in
theorem co_X0_timesPlayed : Cond.code tu_Y_X0_timesPlayed.1 tu_Y_X0_timesPlayed.2.1 tu_Y_X0_timesPlayed.2.2.1 tu_Y_X0_timesPlayed.2.2.2.1 ∈ tu_tb := tu_tb_in 453 rfl rfl
set_option maxRecDepth 20000 in
theorem sv_RX3_151 : tu_sV RX3 151 tu_Y_X0_timesPlayed 1 := ⟨⟨tu_tb_in 450 rfl rfl, tu_tb_in 451 rfl rfl, tu_tb_in 452 rfl rfl, tu_tb_in 11 rfl rfl, co_X0_timesPlayed⟩, by decide, by decide, by decide⟩
set_option maxRecDepth 20000 in
theorem co_X0_longestRow : Cond.code tu_Y_X0_longestRow.1 tu_Y_X0_longestRow.2.1 tu_Y_X0_longestRow.2.2.1 tu_Y_X0_longestRow.2.2.2.1 ∈ tu_tb := tu_tb_in 457 rfl rfl
set_option maxRecDepth 20000 in
theorem sv_RX3_154 : tu_sV RX3 154 tu_Y_X0_longestRow 1 := ⟨⟨tu_tb_in 454 rfl rfl, tu_tb_in 455 rfl rfl, tu_tb_in 456 rfl rfl, tu_tb_in 11 rfl rfl, co_X0_longestRow⟩, by decide, by decide, by decide⟩
set_option maxRecDepth 20000 in
theorem co_X0_burdens : Cond.code tu_Y_X0_burdens.1 tu_Y_X0_burdens.2.1 tu_Y_X0_burdens.2.2.1 tu_Y_X0_burdens.2.2.2.1 ∈ tu_tb := tu_tb_in 472 rfl rfl
set_option maxRecDepth 20000 in
theorem sv_RX3_157 : tu_sV RX3 157 tu_Y_X0_burdens 0 := ⟨⟨tu_tb_in 469 rfl rfl, tu_tb_in 470 rfl rfl, tu_tb_in 471 rfl rfl, tu_tb_in 11 rfl rfl, co_X0_burdens⟩, by decide, by decide, by decide⟩
set_option maxRecDepth 20000 in
theorem co_X3_leastCostOf : Cond.code tu_Y_X3_leastCostOf.1 tu_Y_X3_leastCostOf.2.1 tu_Y_X3_leastCostOf.2.2.1 tu_Y_X3_leastCostOf.2.2.2.1 ∈ tu_tb := tu_tb_in 352 rfl rfl
set_option maxRecDepth 20000 in
theorem sv_RX3_166 : tu_sV RX3 166 tu_Y_X3_leastCostOf 2 := ⟨⟨tu_tb_in 349 rfl rfl, tu_tb_in 351 rfl rfl, tu_tb_in 1 rfl rfl, tu_tb_in 10 rfl rfl, co_X3_leastCostOf⟩, by decide, by decide, by decide⟩
set_option maxRecDepth 20000 in
theorem co_X1_countWays : Cond.code tu_Y_X1_countWays.1 tu_Y_X1_countWays.2.1 tu_Y_X1_countWays.2.2.1 tu_Y_X1_countWays.2.2.2.1 ∈ tu_tb := tu_tb_in 386 rfl rfl
set_option maxRecDepth 20000 in
theorem sv_RX3_170 : tu_sV RX3 170 tu_Y_X1_countWays 1 := ⟨⟨tu_tb_in 383 rfl rfl, tu_tb_in 384 rfl rfl, tu_tb_in 385 rfl rfl, tu_tb_in 14 rfl rfl, co_X1_countWays⟩, by decide, by decide, by decide⟩
set_option maxRecDepth 20000 in
theorem co_X1_freeBeats : Cond.code tu_Y_X1_freeBeats.1 tu_Y_X1_freeBeats.2.1 tu_Y_X1_freeBeats.2.2.1 tu_Y_X1_freeBeats.2.2.2.1 ∈ tu_tb := tu_tb_in 394 rfl rfl
set_option maxRecDepth 20000 in
theorem sv_RX3_174 : tu_sV RX3 174 tu_Y_X1_freeBeats 0 := ⟨⟨tu_tb_in 391 rfl rfl, tu_tb_in 392 rfl rfl, tu_tb_in 393 rfl rfl, tu_tb_in 14 rfl rfl, co_X1_freeBeats⟩, by decide, by decide, by decide⟩
set_option maxRecDepth 20000 in
theorem co_X1_hurtSyllables : Cond.code tu_Y_X1_hurtSyllables.1 tu_Y_X1_hurtSyllables.2.1 tu_Y_X1_hurtSyllables.2.2.1 tu_Y_X1_hurtSyllables.2.2.2.1 ∈ tu_tb := tu_tb_in 406 rfl rfl
set_option maxRecDepth 20000 in
theorem sv_RX3_177 : tu_sV RX3 177 tu_Y_X1_hurtSyllables 0 := ⟨⟨tu_tb_in 403 rfl rfl, tu_tb_in 404 rfl rfl, tu_tb_in 405 rfl rfl, tu_tb_in 14 rfl rfl, co_X1_hurtSyllables⟩, by decide, by decide, by decide⟩
set_option maxRecDepth 20000 in
theorem sv_RX3_180 : tu_sV RX3 180 tu_Y_X1_findBestWay 0 := ⟨⟨tu_tb_in 411 rfl rfl, tu_tb_in 396 rfl rfl, tu_tb_in 397 rfl rfl, tu_tb_in 14 rfl rfl, co_X1_findBestWay⟩, by decide, by decide, by decide⟩
set_option maxRecDepth 20000 in
theorem co_X1_take : Cond.code tu_Y_X1_take.1 tu_Y_X1_take.2.1 tu_Y_X1_take.2.2.1 tu_Y_X1_take.2.2.2.1 ∈ tu_tb := tu_tb_in 356 rfl rfl
set_option maxRecDepth 20000 in
theorem sv_RX3_189 : tu_sV RX3 189 tu_Y_X1_take 3 := ⟨⟨tu_tb_in 353 rfl rfl, tu_tb_in 354 rfl rfl, tu_tb_in 355 rfl rfl, tu_tb_in 14 rfl rfl, co_X1_take⟩, by decide, by decide, by decide⟩
set_option maxRecDepth 20000 in
theorem co_X1_turnStress : Cond.code tu_Y_X1_turnStress.1 tu_Y_X1_turnStress.2.1 tu_Y_X1_turnStress.2.2.1 tu_Y_X1_turnStress.2.2.2.1 ∈ tu_tb := tu_tb_in 492 rfl rfl
set_option maxRecDepth 20000 in
theorem sv_RX3_193 : tu_sV RX3 193 tu_Y_X1_turnStress 1 := ⟨⟨tu_tb_in 489 rfl rfl, tu_tb_in 490 rfl rfl, tu_tb_in 491 rfl rfl, tu_tb_in 14 rfl rfl, co_X1_turnStress⟩, by decide, by decide, by decide⟩
set_option maxRecDepth 20000 in
theorem co_X1_leastCost : Cond.code tu_Y_X1_leastCost.1 tu_Y_X1_leastCost.2.1 tu_Y_X1_leastCost.2.2.1 tu_Y_X1_leastCost.2.2.2.1 ∈ tu_tb := tu_tb_in 361 rfl rfl
set_option maxRecDepth 20000 in
theorem sv_RX3_196 : tu_sV RX3 196 tu_Y_X1_leastCost 0 := ⟨⟨tu_tb_in 358 rfl rfl, tu_tb_in 359 rfl rfl, tu_tb_in 360 rfl rfl, tu_tb_in 14 rfl rfl, co_X1_leastCost⟩, by decide, by decide, by decide⟩
set_option maxRecDepth 20000 in
theorem co_X2_signsIn : Cond.code tu_Y_X2_signsIn.1 tu_Y_X2_signsIn.2.1 tu_Y_X2_signsIn.2.2.1 tu_Y_X2_signsIn.2.2.2.1 ∈ tu_tb := tu_tb_in 311 rfl rfl
set_option maxRecDepth 20000 in
theorem ss_RX3_202 : tu_sS RX3 202 tu_Y_X2_signsIn 1 := ⟨⟨tu_tb_in 309 rfl rfl, tu_tb_in 310 rfl rfl, tu_tb_in 13 rfl rfl, co_X2_signsIn⟩, by decide, by decide, by decide⟩
set_option maxRecDepth 20000 in
theorem co_X2_append : Cond.code tu_Y_X2_append.1 tu_Y_X2_append.2.1 tu_Y_X2_append.2.2.1 tu_Y_X2_append.2.2.2.1 ∈ tu_tb := tu_tb_in 318 rfl rfl
set_option maxRecDepth 20000 in
theorem sv_RX3_206 : tu_sV RX3 206 tu_Y_X2_append 2 := ⟨⟨tu_tb_in 315 rfl rfl, tu_tb_in 316 rfl rfl, tu_tb_in 317 rfl rfl, tu_tb_in 13 rfl rfl, co_X2_append⟩, by decide, by decide, by decide⟩
set_option maxRecDepth 20000 in
theorem co_X0_takeOver : Cond.code tu_Y_X0_takeOver.1 tu_Y_X0_takeOver.2.1 tu_Y_X0_takeOver.2.2.1 tu_Y_X0_takeOver.2.2.2.1 ∈ tu_tb := tu_tb_in 190 rfl rfl
set_option maxRecDepth 20000 in
theorem sv_RX3_210 : tu_sV RX3 210 tu_Y_X0_takeOver 1 := ⟨⟨tu_tb_in 187 rfl rfl, tu_tb_in 188 rfl rfl, tu_tb_in 189 rfl rfl, tu_tb_in 11 rfl rfl, co_X0_takeOver⟩, by decide, by decide, by decide⟩
set_option maxRecDepth 20000 in
theorem co_L_sung : Cond.code tu_Y_L_sung.1 tu_Y_L_sung.2.1 tu_Y_L_sung.2.2.1 tu_Y_L_sung.2.2.2.1 ∈ tu_tb := tu_tb_in 341 rfl rfl
set_option maxRecDepth 20000 in
theorem ss_RL_10 : tu_sS RL 10 tu_Y_L_sung 3 := ⟨⟨tu_tb_in 339 rfl rfl, tu_tb_in 340 rfl rfl, tu_tb_in 9 rfl rfl, co_L_sung⟩, by decide, by decide, by decide⟩
set_option maxRecDepth 20000 in
theorem co_L_lay : Cond.code tu_Y_L_lay.1 tu_Y_L_lay.2.1 tu_Y_L_lay.2.2.1 tu_Y_L_lay.2.2.2.1 ∈ tu_tb := tu_tb_in 344 rfl rfl
set_option maxRecDepth 20000 in
theorem ss_RL_16 : tu_sS RL 16 tu_Y_L_lay 7 := ⟨⟨tu_tb_in 342 rfl rfl, tu_tb_in 343 rfl rfl, tu_tb_in 9 rfl rfl, co_L_lay⟩, by decide, by decide, by decide⟩
set_option maxRecDepth 20000 in
theorem co_X3_fit : Cond.code tu_Y_X3_fit.1 tu_Y_X3_fit.2.1 tu_Y_X3_fit.2.2.1 tu_Y_X3_fit.2.2.2.1 ∈ tu_tb := tu_tb_in 348 rfl rfl
set_option maxRecDepth 20000 in
theorem sv_RL_20 : tu_sV RL 20 tu_Y_X3_fit 3 := ⟨⟨tu_tb_in 345 rfl rfl, tu_tb_in 346 rfl rfl, tu_tb_in 347 rfl rfl, tu_tb_in 10 rfl rfl, co_X3_fit⟩, by decide, by decide, by decide⟩
set_option maxRecDepth 20000 in
theorem co_X3_lies : Cond.code tu_Y_X3_lies.1 tu_Y_X3_lies.2.1 tu_Y_X3_lies.2.2.1 tu_Y_X3_lies.2.2.2.1 ∈ tu_tb := tu_tb_in 410 rfl rfl
set_option maxRecDepth 20000 in
theorem sv_RL_26 : tu_sV RL 26 tu_Y_X3_lies 4 := ⟨⟨tu_tb_in 407 rfl rfl, tu_tb_in 408 rfl rfl, tu_tb_in 409 rfl rfl, tu_tb_in 10 rfl rfl, co_X3_lies⟩, by decide, by decide, by decide⟩
set_option maxRecDepth 20000 in
theorem co_X3_isStressed : Cond.code tu_Y_X3_isStressed.1 tu_Y_X3_isStressed.2.1 tu_Y_X3_isStressed.2.2.1 tu_Y_X3_isStressed.2.2.2.1 ∈ tu_tb := tu_tb_in 415 rfl rfl
set_option maxRecDepth 20000 in
theorem sv_RL_30 : tu_sV RL 30 tu_Y_X3_isStressed 2 := ⟨⟨tu_tb_in 412 rfl rfl, tu_tb_in 413 rfl rfl, tu_tb_in 414 rfl rfl, tu_tb_in 10 rfl rfl, co_X3_isStressed⟩, by decide, by decide, by decide⟩
set_option maxRecDepth 20000 in
theorem co_X3_line : Cond.code tu_Y_X3_line.1 tu_Y_X3_line.2.1 tu_Y_X3_line.2.2.1 tu_Y_X3_line.2.2.2.1 ∈ tu_tb := tu_tb_in 419 rfl rfl
set_option maxRecDepth 20000 in
theorem sv_RL_34 : tu_sV RL 34 tu_Y_X3_line 2 := ⟨⟨tu_tb_in 416 rfl rfl, tu_tb_in 417 rfl rfl, tu_tb_in 418 rfl rfl, tu_tb_in 10 rfl rfl, co_X3_line⟩, by decide, by decide, by decide⟩
set_option maxRecDepth 20000 in
theorem co_L_bits : Cond.code tu_Y_L_bits.1 tu_Y_L_bits.2.1 tu_Y_L_bits.2.2.1 tu_Y_L_bits.2.2.2.1 ∈ tu_tb := tu_tb_in 437 rfl rfl
set_option maxRecDepth 20000 in
theorem ss_RL_37 : tu_sS RL 37 tu_Y_L_bits 1 := ⟨⟨tu_tb_in 435 rfl rfl, tu_tb_in 436 rfl rfl, tu_tb_in 9 rfl rfl, co_L_bits⟩, by decide, by decide, by decide⟩
set_option maxRecDepth 20000 in
theorem co_X3_kindOf : Cond.code tu_Y_X3_kindOf.1 tu_Y_X3_kindOf.2.1 tu_Y_X3_kindOf.2.2.1 tu_Y_X3_kindOf.2.2.2.1 ∈ tu_tb := tu_tb_in 441 rfl rfl
set_option maxRecDepth 20000 in
theorem sv_RL_41 : tu_sV RL 41 tu_Y_X3_kindOf 2 := ⟨⟨tu_tb_in 438 rfl rfl, tu_tb_in 439 rfl rfl, tu_tb_in 440 rfl rfl, tu_tb_in 10 rfl rfl, co_X3_kindOf⟩, by decide, by decide, by decide⟩
set_option maxRecDepth 20000 in
theorem co_X3_phrase : Cond.code tu_Y_X3_phrase.1 tu_Y_X3_phrase.2.1 tu_Y_X3_phrase.2.2.1 tu_Y_X3_phrase.2.2.2.1 ∈ tu_tb := tu_tb_in 445 rfl rfl
set_option maxRecDepth 20000 in
theorem sv_RL_44 : tu_sV RL 44 tu_Y_X3_phrase 2 := ⟨⟨tu_tb_in 442 rfl rfl, tu_tb_in 443 rfl rfl, tu_tb_in 444 rfl rfl, tu_tb_in 10 rfl rfl, co_X3_phrase⟩, by decide, by decide, by decide⟩
set_option maxRecDepth 20000 in
theorem co_X3_at : Cond.code tu_Y_X3_at.1 tu_Y_X3_at.2.1 tu_Y_X3_at.2.2.1 tu_Y_X3_at.2.2.2.1 ∈ tu_tb := tu_tb_in 464 rfl rfl
set_option maxRecDepth 20000 in
theorem sv_RL_47 : tu_sV RL 47 tu_Y_X3_at 2 := ⟨⟨tu_tb_in 461 rfl rfl, tu_tb_in 462 rfl rfl, tu_tb_in 463 rfl rfl, tu_tb_in 10 rfl rfl, co_X3_at⟩, by decide, by decide, by decide⟩
set_option maxRecDepth 20000 in
theorem co_X3_count : Cond.code tu_Y_X3_count.1 tu_Y_X3_count.2.1 tu_Y_X3_count.2.2.1 tu_Y_X3_count.2.2.2.1 ∈ tu_tb := tu_tb_in 468 rfl rfl
set_option maxRecDepth 20000 in
theorem sv_RL_51 : tu_sV RL 51 tu_Y_X3_count 1 := ⟨⟨tu_tb_in 465 rfl rfl, tu_tb_in 466 rfl rfl, tu_tb_in 467 rfl rfl, tu_tb_in 10 rfl rfl, co_X3_count⟩, by decide, by decide, by decide⟩
set_option maxRecDepth 20000 in
theorem co_X3_whole : Cond.code tu_Y_X3_whole.1 tu_Y_X3_whole.2.1 tu_Y_X3_whole.2.2.1 tu_Y_X3_whole.2.2.2.1 ∈ tu_tb := tu_tb_in 480 rfl rfl
set_option maxRecDepth 20000 in
theorem sv_RL_54 : tu_sV RL 54 tu_Y_X3_whole 1 := ⟨⟨tu_tb_in 477 rfl rfl, tu_tb_in 478 rfl rfl, tu_tb_in 479 rfl rfl, tu_tb_in 10 rfl rfl, co_X3_whole⟩, by decide, by decide, by decide⟩
set_option maxRecDepth 20000 in
theorem co_X3_bestPhrase : Cond.code tu_Y_X3_bestPhrase.1 tu_Y_X3_bestPhrase.2.1 tu_Y_X3_bestPhrase.2.2.1 tu_Y_X3_bestPhrase.2.2.2.1 ∈ tu_tb := tu_tb_in 484 rfl rfl
set_option maxRecDepth 20000 in
theorem sv_RL_57 : tu_sV RL 57 tu_Y_X3_bestPhrase 0 := ⟨⟨tu_tb_in 481 rfl rfl, tu_tb_in 482 rfl rfl, tu_tb_in 483 rfl rfl, tu_tb_in 10 rfl rfl, co_X3_bestPhrase⟩, by decide, by decide, by decide⟩
set_option maxRecDepth 20000 in
theorem co_L_low : Cond.code tu_Y_L_low.1 tu_Y_L_low.2.1 tu_Y_L_low.2.2.1 tu_Y_L_low.2.2.2.1 ∈ tu_tb := tu_tb_in 334 rfl rfl
set_option maxRecDepth 20000 in
theorem ss_RL_61 : tu_sS RL 61 tu_Y_L_low 2 := ⟨⟨tu_tb_in 332 rfl rfl, tu_tb_in 333 rfl rfl, tu_tb_in 9 rfl rfl, co_L_low⟩, by decide, by decide, by decide⟩
set_option maxRecDepth 20000 in
theorem co_X3_bestChange : Cond.code tu_Y_X3_bestChange.1 tu_Y_X3_bestChange.2.1 tu_Y_X3_bestChange.2.2.1 tu_Y_X3_bestChange.2.2.2.1 ∈ tu_tb := tu_tb_in 488 rfl rfl
set_option maxRecDepth 20000 in
theorem sv_RL_64 : tu_sV RL 64 tu_Y_X3_bestChange 3 := ⟨⟨tu_tb_in 485 rfl rfl, tu_tb_in 486 rfl rfl, tu_tb_in 487 rfl rfl, tu_tb_in 10 rfl rfl, co_X3_bestChange⟩, by decide, by decide, by decide⟩
set_option maxRecDepth 20000 in
theorem co_X3_enoughBreath : Cond.code tu_Y_X3_enoughBreath.1 tu_Y_X3_enoughBreath.2.1 tu_Y_X3_enoughBreath.2.2.1 tu_Y_X3_enoughBreath.2.2.2.1 ∈ tu_tb := tu_tb_in 496 rfl rfl
set_option maxRecDepth 20000 in
theorem sv_RL_67 : tu_sV RL 67 tu_Y_X3_enoughBreath 2 := ⟨⟨tu_tb_in 493 rfl rfl, tu_tb_in 494 rfl rfl, tu_tb_in 495 rfl rfl, tu_tb_in 10 rfl rfl, co_X3_enoughBreath⟩, by decide, by decide, by decide⟩
set_option maxRecDepth 20000 in
theorem co_L_cell : Cond.code tu_Y_L_cell.1 tu_Y_L_cell.2.1 tu_Y_L_cell.2.2.1 tu_Y_L_cell.2.2.2.1 ∈ tu_tb := tu_tb_in 329 rfl rfl
set_option maxRecDepth 20000 in
theorem ss_RL_71 : tu_sS RL 71 tu_Y_L_cell 2 := ⟨⟨tu_tb_in 327 rfl rfl, tu_tb_in 328 rfl rfl, tu_tb_in 9 rfl rfl, co_L_cell⟩, by decide, by decide, by decide⟩
set_option maxRecDepth 20000 in
theorem co_X3_wipe : Cond.code tu_Y_X3_wipe.1 tu_Y_X3_wipe.2.1 tu_Y_X3_wipe.2.2.1 tu_Y_X3_wipe.2.2.2.1 ∈ tu_tb := tu_tb_in 322 rfl rfl
set_option maxRecDepth 20000 in
theorem sv_RL_75 : tu_sV RL 75 tu_Y_X3_wipe 0 := ⟨⟨tu_tb_in 319 rfl rfl, tu_tb_in 320 rfl rfl, tu_tb_in 321 rfl rfl, tu_tb_in 10 rfl rfl, co_X3_wipe⟩, by decide, by decide, by decide⟩
set_option maxRecDepth 20000 in
theorem co_X3_put : Cond.code tu_Y_X3_put.1 tu_Y_X3_put.2.1 tu_Y_X3_put.2.2.1 tu_Y_X3_put.2.2.2.1 ∈ tu_tb := tu_tb_in 308 rfl rfl
set_option maxRecDepth 20000 in
theorem sv_RL_82 : tu_sV RL 82 tu_Y_X3_put 1 := ⟨⟨tu_tb_in 305 rfl rfl, tu_tb_in 306 rfl rfl, tu_tb_in 307 rfl rfl, tu_tb_in 10 rfl rfl, co_X3_put⟩, by decide, by decide, by decide⟩
set_option maxRecDepth 20000 in
theorem co_X3_fault : Cond.code tu_Y_X3_fault.1 tu_Y_X3_fault.2.1 tu_Y_X3_fault.2.2.1 tu_Y_X3_fault.2.2.2.1 ∈ tu_tb := tu_tb_in 326 rfl rfl
set_option maxRecDepth 20000 in
theorem sv_RL_86 : tu_sV RL 86 tu_Y_X3_fault 0 := ⟨⟨tu_tb_in 323 rfl rfl, tu_tb_in 324 rfl rfl, tu_tb_in 325 rfl rfl, tu_tb_in 10 rfl rfl, co_X3_fault⟩, by decide, by decide, by decide⟩
set_option maxRecDepth 20000 in
theorem co_X3_write : Cond.code tu_Y_X3_write.1 tu_Y_X3_write.2.1 tu_Y_X3_write.2.2.1 tu_Y_X3_write.2.2.2.1 ∈ tu_tb := tu_tb_in 194 rfl rfl
set_option maxRecDepth 20000 in
theorem sv_RL_89 : tu_sV RL 89 tu_Y_X3_write 0 := ⟨⟨tu_tb_in 191 rfl rfl, tu_tb_in 192 rfl rfl, tu_tb_in 193 rfl rfl, tu_tb_in 10 rfl rfl, co_X3_write⟩, by decide, by decide, by decide⟩
set_option maxRecDepth 20000 in
theorem co_X3_dropLine : Cond.code tu_Y_X3_dropLine.1 tu_Y_X3_dropLine.2.1 tu_Y_X3_dropLine.2.2.1 tu_Y_X3_dropLine.2.2.2.1 ∈ tu_tb := tu_tb_in 239 rfl rfl
set_option maxRecDepth 20000 in
theorem sv_RL_100 : tu_sV RL 100 tu_Y_X3_dropLine 1 := ⟨⟨tu_tb_in 236 rfl rfl, tu_tb_in 237 rfl rfl, tu_tb_in 238 rfl rfl, tu_tb_in 10 rfl rfl, co_X3_dropLine⟩, by decide, by decide, by decide⟩
set_option maxRecDepth 20000 in
theorem co_X3_dropPhrase : Cond.code tu_Y_X3_dropPhrase.1 tu_Y_X3_dropPhrase.2.1 tu_Y_X3_dropPhrase.2.2.1 tu_Y_X3_dropPhrase.2.2.2.1 ∈ tu_tb := tu_tb_in 254 rfl rfl
set_option maxRecDepth 20000 in
theorem sv_RL_103 : tu_sV RL 103 tu_Y_X3_dropPhrase 1 := ⟨⟨tu_tb_in 251 rfl rfl, tu_tb_in 252 rfl rfl, tu_tb_in 253 rfl rfl, tu_tb_in 10 rfl rfl, co_X3_dropPhrase⟩, by decide, by decide, by decide⟩
set_option maxRecDepth 20000 in
theorem co_X3_stress : Cond.code tu_Y_X3_stress.1 tu_Y_X3_stress.2.1 tu_Y_X3_stress.2.2.1 tu_Y_X3_stress.2.2.2.1 ∈ tu_tb := tu_tb_in 266 rfl rfl
set_option maxRecDepth 20000 in
theorem sv_RL_106 : tu_sV RL 106 tu_Y_X3_stress 3 := ⟨⟨tu_tb_in 263 rfl rfl, tu_tb_in 264 rfl rfl, tu_tb_in 265 rfl rfl, tu_tb_in 10 rfl rfl, co_X3_stress⟩, by decide, by decide, by decide⟩
set_option maxRecDepth 20000 in
theorem co_X3_beat : Cond.code tu_Y_X3_beat.1 tu_Y_X3_beat.2.1 tu_Y_X3_beat.2.2.1 tu_Y_X3_beat.2.2.2.1 ∈ tu_tb := tu_tb_in 275 rfl rfl
set_option maxRecDepth 20000 in
theorem sv_RL_110 : tu_sV RL 110 tu_Y_X3_beat 3 := ⟨⟨tu_tb_in 272 rfl rfl, tu_tb_in 273 rfl rfl, tu_tb_in 274 rfl rfl, tu_tb_in 10 rfl rfl, co_X3_beat⟩, by decide, by decide, by decide⟩
set_option maxRecDepth 20000 in
theorem co_X3_sing : Cond.code tu_Y_X3_sing.1 tu_Y_X3_sing.2.1 tu_Y_X3_sing.2.2.1 tu_Y_X3_sing.2.2.2.1 ∈ tu_tb := tu_tb_in 284 rfl rfl
set_option maxRecDepth 20000 in
theorem sv_RL_113 : tu_sV RL 113 tu_Y_X3_sing 1 := ⟨⟨tu_tb_in 281 rfl rfl, tu_tb_in 282 rfl rfl, tu_tb_in 283 rfl rfl, tu_tb_in 10 rfl rfl, co_X3_sing⟩, by decide, by decide, by decide⟩
set_option maxRecDepth 20000 in
theorem co_X3_play : Cond.code tu_Y_X3_play.1 tu_Y_X3_play.2.1 tu_Y_X3_play.2.2.1 tu_Y_X3_play.2.2.2.1 ∈ tu_tb := tu_tb_in 292 rfl rfl
set_option maxRecDepth 20000 in
theorem sv_RL_116 : tu_sV RL 116 tu_Y_X3_play 1 := ⟨⟨tu_tb_in 289 rfl rfl, tu_tb_in 290 rfl rfl, tu_tb_in 291 rfl rfl, tu_tb_in 10 rfl rfl, co_X3_play⟩, by decide, by decide, by decide⟩
set_option maxRecDepth 20000 in
theorem co_X3_verse : Cond.code tu_Y_X3_verse.1 tu_Y_X3_verse.2.1 tu_Y_X3_verse.2.2.1 tu_Y_X3_verse.2.2.2.1 ∈ tu_tb := tu_tb_in 300 rfl rfl
set_option maxRecDepth 20000 in
theorem sv_RL_119 : tu_sV RL 119 tu_Y_X3_verse 3 := ⟨⟨tu_tb_in 297 rfl rfl, tu_tb_in 298 rfl rfl, tu_tb_in 299 rfl rfl, tu_tb_in 10 rfl rfl, co_X3_verse⟩, by decide, by decide, by decide⟩
set_option maxRecDepth 20000 in
theorem co_X3_clear : Cond.code tu_Y_X3_clear.1 tu_Y_X3_clear.2.1 tu_Y_X3_clear.2.2.1 tu_Y_X3_clear.2.2.2.1 ∈ tu_tb := tu_tb_in 304 rfl rfl
set_option maxRecDepth 20000 in
theorem sv_RL_122 : tu_sV RL 122 tu_Y_X3_clear 1 := ⟨⟨tu_tb_in 301 rfl rfl, tu_tb_in 302 rfl rfl, tu_tb_in 303 rfl rfl, tu_tb_in 10 rfl rfl, co_X3_clear⟩, by decide, by decide, by decide⟩
set_option maxRecDepth 20000 in
theorem co_X3_set : Cond.code tu_Y_X3_set.1 tu_Y_X3_set.2.1 tu_Y_X3_set.2.2.1 tu_Y_X3_set.2.2.2.1 ∈ tu_tb := tu_tb_in 178 rfl rfl
set_option maxRecDepth 20000 in
theorem sv_RL_126 : tu_sV RL 126 tu_Y_X3_set 2 := ⟨⟨tu_tb_in 175 rfl rfl, tu_tb_in 176 rfl rfl, tu_tb_in 177 rfl rfl, tu_tb_in 10 rfl rfl, co_X3_set⟩, by decide, by decide, by decide⟩
set_option maxRecDepth 20000 in
theorem co_L_same : Cond.code tu_Y_L_same.1 tu_Y_L_same.2.1 tu_Y_L_same.2.2.1 tu_Y_L_same.2.2.2.1 ∈ tu_tb := tu_tb_in 338 rfl rfl
set_option maxRecDepth 20000 in
theorem ss_RL_129 : tu_sS RL 129 tu_Y_L_same 7 := ⟨⟨tu_tb_in 336 rfl rfl, tu_tb_in 337 rfl rfl, tu_tb_in 9 rfl rfl, co_L_same⟩, by decide, by decide, by decide⟩
set_option maxRecDepth 20000 in
theorem co_L_whole : Cond.code tu_Y_L_whole.1 tu_Y_L_whole.2.1 tu_Y_L_whole.2.2.1 tu_Y_L_whole.2.2.2.1 ∈ tu_tb := tu_tb_in 476 rfl rfl
set_option maxRecDepth 20000 in
theorem ss_RL_133 : tu_sS RL 133 tu_Y_L_whole 8 := ⟨⟨tu_tb_in 474 rfl rfl, tu_tb_in 475 rfl rfl, tu_tb_in 9 rfl rfl, co_L_whole⟩, by decide, by decide, by decide⟩
theorem iw_X0 : ∀ w ∈ u_ws RX0 TX0 11, w ∈ tu_tb := by decide +kernel
theorem iw_X1 : ∀ w ∈ u_ws RX1 TX1 13, w ∈ tu_tb := by decide +kernel
theorem iw_X2 : ∀ w ∈ u_ws RX2 TX2 2, w ∈ tu_tb := by decide +kernel
theorem iw_X3 : ∀ w ∈ u_ws RX3 TX3 7, w ∈ tu_tb := by decide +kernel
set_option maxRecDepth 20000 in
theorem fl_RX0_9 : tu_fl RX0 9 0 0 := ⟨RX0, TX0, 11, rfl, by decide, iw_X0, tu_tb_in 35 rfl rfl⟩
set_option maxRecDepth 20000 in
theorem fl_RX0_15 : tu_fl RX0 15 0 1 := ⟨RX0, TX0, 11, rfl, by decide, iw_X0, tu_tb_in 38 rfl rfl⟩
set_option maxRecDepth 20000 in
theorem fp_RX0_15 : tu_fp RX0 15 0 1 := ⟨RX0, TX0, 11, rfl, by decide, iw_X0, tu_tb_in 38 rfl rfl, rfl, by decide +kernel, ⟨tyX0, tyX0_ok⟩, nmX0⟩
set_option maxRecDepth 20000 in
theorem fl_RX0_19 : tu_fl RX0 19 0 2 := ⟨RX0, TX0, 11, rfl, by decide, iw_X0, tu_tb_in 40 rfl rfl⟩
set_option maxRecDepth 20000 in
theorem fl_RX0_22 : tu_fl RX0 22 0 3 := ⟨RX0, TX0, 11, rfl, by decide, iw_X0, tu_tb_in 43 rfl rfl⟩
set_option maxRecDepth 20000 in
theorem fl_RX0_25 : tu_fl RX0 25 0 4 := ⟨RX0, TX0, 11, rfl, by decide, iw_X0, tu_tb_in 46 rfl rfl⟩
set_option maxRecDepth 20000 in
theorem fp_RX0_25 : tu_fp RX0 25 0 4 := ⟨RX0, TX0, 11, rfl, by decide, iw_X0, tu_tb_in 46 rfl rfl, rfl, by decide +kernel, ⟨tyX0, tyX0_ok⟩, nmX0⟩
set_option maxRecDepth 20000 in
theorem fl_RX0_28 : tu_fl RX0 28 0 5 := ⟨RX0, TX0, 11, rfl, by decide, iw_X0, tu_tb_in 48 rfl rfl⟩
set_option maxRecDepth 20000 in
theorem fl_RX0_31 : tu_fl RX0 31 0 6 := ⟨RX0, TX0, 11, rfl, by decide, iw_X0, tu_tb_in 51 rfl rfl⟩
set_option maxRecDepth 20000 in
theorem fl_RX0_34 : tu_fl RX0 34 0 7 := ⟨RX0, TX0, 11, rfl, by decide, iw_X0, tu_tb_in 54 rfl rfl⟩
set_option maxRecDepth 20000 in
theorem fp_RX0_34 : tu_fp RX0 34 0 7 := ⟨RX0, TX0, 11, rfl, by decide, iw_X0, tu_tb_in 54 rfl rfl, rfl, by decide +kernel, ⟨tyX0, tyX0_ok⟩, nmX0⟩
set_option maxRecDepth 20000 in
theorem fl_RX0_37 : tu_fl RX0 37 0 8 := ⟨RX0, TX0, 11, rfl, by decide, iw_X0, tu_tb_in 56 rfl rfl⟩
set_option maxRecDepth 20000 in
theorem fl_RX0_40 : tu_fl RX0 40 0 9 := ⟨RX0, TX0, 11, rfl, by decide, iw_X0, tu_tb_in 58 rfl rfl⟩
set_option maxRecDepth 20000 in
theorem fp_RX0_40 : tu_fp RX0 40 0 9 := ⟨RX0, TX0, 11, rfl, by decide, iw_X0, tu_tb_in 58 rfl rfl, rfl, by decide +kernel, ⟨tyX0, tyX0_ok⟩, nmX0⟩
set_option maxRecDepth 20000 in
theorem fl_RX0_43 : tu_fl RX0 43 0 10 := ⟨RX0, TX0, 11, rfl, by decide, iw_X0, tu_tb_in 60 rfl rfl⟩
set_option maxRecDepth 20000 in
theorem fl_RX1_52 : tu_fl RX1 52 0 0 := ⟨RX0, TX0, 11, rfl, by decide, iw_X0, tu_tb_in 36 rfl rfl⟩
set_option maxRecDepth 20000 in
theorem fl_RX1_9 : tu_fl RX1 9 1 0 := ⟨RX1, TX1, 13, rfl, by decide, iw_X1, tu_tb_in 108 rfl rfl⟩
set_option maxRecDepth 20000 in
theorem fp_RX1_9 : tu_fp RX1 9 1 0 := ⟨RX1, TX1, 13, rfl, by decide, iw_X1, tu_tb_in 108 rfl rfl, rfl, by decide +kernel, ⟨tyX1, tyX1_ok⟩, nmX1⟩
set_option maxRecDepth 20000 in
theorem fl_RX1_15 : tu_fl RX1 15 1 1 := ⟨RX1, TX1, 13, rfl, by decide, iw_X1, tu_tb_in 110 rfl rfl⟩
set_option maxRecDepth 20000 in
theorem fp_RX1_15 : tu_fp RX1 15 1 1 := ⟨RX1, TX1, 13, rfl, by decide, iw_X1, tu_tb_in 110 rfl rfl, rfl, by decide +kernel, ⟨tyX1, tyX1_ok⟩, nmX1⟩
set_option maxRecDepth 20000 in
theorem fl_RX1_18 : tu_fl RX1 18 1 2 := ⟨RX1, TX1, 13, rfl, by decide, iw_X1, tu_tb_in 111 rfl rfl⟩
set_option maxRecDepth 20000 in
theorem fp_RX1_18 : tu_fp RX1 18 1 2 := ⟨RX1, TX1, 13, rfl, by decide, iw_X1, tu_tb_in 111 rfl rfl, rfl, by decide +kernel, ⟨tyX1, tyX1_ok⟩, nmX1⟩
set_option maxRecDepth 20000 in
theorem fl_RX1_21 : tu_fl RX1 21 1 3 := ⟨RX1, TX1, 13, rfl, by decide, iw_X1, tu_tb_in 112 rfl rfl⟩
set_option maxRecDepth 20000 in
theorem fp_RX1_21 : tu_fp RX1 21 1 3 := ⟨RX1, TX1, 13, rfl, by decide, iw_X1, tu_tb_in 112 rfl rfl, rfl, by decide +kernel, ⟨tyX1, tyX1_ok⟩, nmX1⟩
set_option maxRecDepth 20000 in
theorem fl_RX1_57 : tu_fl RX1 57 0 2 := ⟨RX0, TX0, 11, rfl, by decide, iw_X0, tu_tb_in 41 rfl rfl⟩
set_option maxRecDepth 20000 in
theorem fl_RX1_24 : tu_fl RX1 24 1 4 := ⟨RX1, TX1, 13, rfl, by decide, iw_X1, tu_tb_in 113 rfl rfl⟩
set_option maxRecDepth 20000 in
theorem fp_RX1_24 : tu_fp RX1 24 1 4 := ⟨RX1, TX1, 13, rfl, by decide, iw_X1, tu_tb_in 113 rfl rfl, rfl, by decide +kernel, ⟨tyX1, tyX1_ok⟩, nmX1⟩
set_option maxRecDepth 20000 in
theorem fl_RX1_60 : tu_fl RX1 60 0 5 := ⟨RX0, TX0, 11, rfl, by decide, iw_X0, tu_tb_in 49 rfl rfl⟩
set_option maxRecDepth 20000 in
theorem fl_RX1_27 : tu_fl RX1 27 1 5 := ⟨RX1, TX1, 13, rfl, by decide, iw_X1, tu_tb_in 114 rfl rfl⟩
set_option maxRecDepth 20000 in
theorem fp_RX1_27 : tu_fp RX1 27 1 5 := ⟨RX1, TX1, 13, rfl, by decide, iw_X1, tu_tb_in 114 rfl rfl, rfl, by decide +kernel, ⟨tyX1, tyX1_ok⟩, nmX1⟩
set_option maxRecDepth 20000 in
theorem fl_RX1_63 : tu_fl RX1 63 0 3 := ⟨RX0, TX0, 11, rfl, by decide, iw_X0, tu_tb_in 44 rfl rfl⟩
set_option maxRecDepth 20000 in
theorem fl_RX1_30 : tu_fl RX1 30 1 6 := ⟨RX1, TX1, 13, rfl, by decide, iw_X1, tu_tb_in 115 rfl rfl⟩
set_option maxRecDepth 20000 in
theorem fl_RX1_70 : tu_fl RX1 70 0 6 := ⟨RX0, TX0, 11, rfl, by decide, iw_X0, tu_tb_in 52 rfl rfl⟩
set_option maxRecDepth 20000 in
theorem fl_RX1_34 : tu_fl RX1 34 1 7 := ⟨RX1, TX1, 13, rfl, by decide, iw_X1, tu_tb_in 116 rfl rfl⟩
set_option maxRecDepth 20000 in
theorem fl_RX1_37 : tu_fl RX1 37 1 8 := ⟨RX1, TX1, 13, rfl, by decide, iw_X1, tu_tb_in 117 rfl rfl⟩
set_option maxRecDepth 20000 in
theorem fl_RX1_40 : tu_fl RX1 40 1 9 := ⟨RX1, TX1, 13, rfl, by decide, iw_X1, tu_tb_in 118 rfl rfl⟩
set_option maxRecDepth 20000 in
theorem fl_RX1_43 : tu_fl RX1 43 1 10 := ⟨RX1, TX1, 13, rfl, by decide, iw_X1, tu_tb_in 119 rfl rfl⟩
set_option maxRecDepth 20000 in
theorem fl_RX1_46 : tu_fl RX1 46 1 11 := ⟨RX1, TX1, 13, rfl, by decide, iw_X1, tu_tb_in 120 rfl rfl⟩
set_option maxRecDepth 20000 in
theorem fl_RX1_49 : tu_fl RX1 49 1 12 := ⟨RX1, TX1, 13, rfl, by decide, iw_X1, tu_tb_in 122 rfl rfl⟩
set_option maxRecDepth 20000 in
theorem fl_RX2_15 : tu_fl RX2 15 2 1 := ⟨RX2, TX2, 2, rfl, by decide, iw_X2, tu_tb_in 94 rfl rfl⟩
set_option maxRecDepth 20000 in
theorem fp_RX2_15 : tu_fp RX2 15 2 1 := ⟨RX2, TX2, 2, rfl, by decide, iw_X2, tu_tb_in 94 rfl rfl, rfl, by decide +kernel, ⟨tyX2, tyX2_ok⟩, nmX2⟩
set_option maxRecDepth 20000 in
theorem fl_RX2_9 : tu_fl RX2 9 2 0 := ⟨RX2, TX2, 2, rfl, by decide, iw_X2, tu_tb_in 92 rfl rfl⟩
set_option maxRecDepth 20000 in
theorem fl_RX3_10 : tu_fl RX3 10 3 0 := ⟨RX3, TX3, 7, rfl, by decide, iw_X3, tu_tb_in 152 rfl rfl⟩
set_option maxRecDepth 20000 in
theorem fl_RX3_55 : tu_fl RX3 55 0 0 := ⟨RX0, TX0, 11, rfl, by decide, iw_X0, tu_tb_in 37 rfl rfl⟩
set_option maxRecDepth 20000 in
theorem fl_RX3_19 : tu_fl RX3 19 3 1 := ⟨RX3, TX3, 7, rfl, by decide, iw_X3, tu_tb_in 153 rfl rfl⟩
set_option maxRecDepth 20000 in
theorem fl_RX3_68 : tu_fl RX3 68 0 1 := ⟨RX0, TX0, 11, rfl, by decide, iw_X0, tu_tb_in 39 rfl rfl⟩
set_option maxRecDepth 20000 in
theorem fl_RX3_71 : tu_fl RX3 71 0 4 := ⟨RX0, TX0, 11, rfl, by decide, iw_X0, tu_tb_in 47 rfl rfl⟩
set_option maxRecDepth 20000 in
theorem fl_RX3_74 : tu_fl RX3 74 2 1 := ⟨RX2, TX2, 2, rfl, by decide, iw_X2, tu_tb_in 95 rfl rfl⟩
set_option maxRecDepth 20000 in
theorem fp_RX3_74 : tu_fp RX3 74 2 1 := ⟨RX2, TX2, 2, rfl, by decide, iw_X2, tu_tb_in 95 rfl rfl, rfl, by decide +kernel, ⟨tyX2, tyX2_ok⟩, nmX2⟩
set_option maxRecDepth 20000 in
theorem fl_RX3_81 : tu_fl RX3 81 2 0 := ⟨RX2, TX2, 2, rfl, by decide, iw_X2, tu_tb_in 93 rfl rfl⟩
set_option maxRecDepth 20000 in
theorem fl_RX3_100 : tu_fl RX3 100 0 7 := ⟨RX0, TX0, 11, rfl, by decide, iw_X0, tu_tb_in 55 rfl rfl⟩
set_option maxRecDepth 20000 in
theorem fp_RX3_100 : tu_fp RX3 100 0 7 := ⟨RX0, TX0, 11, rfl, by decide, iw_X0, tu_tb_in 55 rfl rfl, rfl, by decide +kernel, ⟨tyX0, tyX0_ok⟩, nmX0⟩
set_option maxRecDepth 20000 in
theorem fl_RX3_109 : tu_fl RX3 109 0 9 := ⟨RX0, TX0, 11, rfl, by decide, iw_X0, tu_tb_in 59 rfl rfl⟩
set_option maxRecDepth 20000 in
theorem fp_RX3_109 : tu_fp RX3 109 0 9 := ⟨RX0, TX0, 11, rfl, by decide, iw_X0, tu_tb_in 59 rfl rfl, rfl, by decide +kernel, ⟨tyX0, tyX0_ok⟩, nmX0⟩
set_option maxRecDepth 20000 in
theorem fl_RX3_116 : tu_fl RX3 116 0 3 := ⟨RX0, TX0, 11, rfl, by decide, iw_X0, tu_tb_in 45 rfl rfl⟩
set_option maxRecDepth 20000 in
theorem fl_RX3_122 : tu_fl RX3 122 0 6 := ⟨RX0, TX0, 11, rfl, by decide, iw_X0, tu_tb_in 53 rfl rfl⟩
set_option maxRecDepth 20000 in
theorem fl_RX3_131 : tu_fl RX3 131 0 2 := ⟨RX0, TX0, 11, rfl, by decide, iw_X0, tu_tb_in 42 rfl rfl⟩
set_option maxRecDepth 20000 in
theorem fl_RX3_144 : tu_fl RX3 144 0 5 := ⟨RX0, TX0, 11, rfl, by decide, iw_X0, tu_tb_in 50 rfl rfl⟩
set_option maxRecDepth 20000 in
theorem fl_RX3_34 : tu_fl RX3 34 3 4 := ⟨RX3, TX3, 7, rfl, by decide, iw_X3, tu_tb_in 156 rfl rfl⟩
set_option maxRecDepth 20000 in
theorem fp_RX3_34 : tu_fp RX3 34 3 4 := ⟨RX3, TX3, 7, rfl, by decide, iw_X3, tu_tb_in 156 rfl rfl, rfl, by decide +kernel, ⟨tyX3, tyX3_ok⟩, nmX3⟩
set_option maxRecDepth 20000 in
theorem fl_RX3_160 : tu_fl RX3 160 0 10 := ⟨RX0, TX0, 11, rfl, by decide, iw_X0, tu_tb_in 61 rfl rfl⟩
set_option maxRecDepth 20000 in
theorem fl_RX3_163 : tu_fl RX3 163 0 8 := ⟨RX0, TX0, 11, rfl, by decide, iw_X0, tu_tb_in 57 rfl rfl⟩
set_option maxRecDepth 20000 in
theorem fl_RX3_26 : tu_fl RX3 26 3 2 := ⟨RX3, TX3, 7, rfl, by decide, iw_X3, tu_tb_in 154 rfl rfl⟩
set_option maxRecDepth 20000 in
theorem fl_RX3_183 : tu_fl RX3 183 1 11 := ⟨RX1, TX1, 13, rfl, by decide, iw_X1, tu_tb_in 121 rfl rfl⟩
set_option maxRecDepth 20000 in
theorem fl_RX3_186 : tu_fl RX3 186 1 12 := ⟨RX1, TX1, 13, rfl, by decide, iw_X1, tu_tb_in 123 rfl rfl⟩
set_option maxRecDepth 20000 in
theorem fl_RX3_199 : tu_fl RX3 199 1 0 := ⟨RX1, TX1, 13, rfl, by decide, iw_X1, tu_tb_in 109 rfl rfl⟩
set_option maxRecDepth 20000 in
theorem fp_RX3_199 : tu_fp RX3 199 1 0 := ⟨RX1, TX1, 13, rfl, by decide, iw_X1, tu_tb_in 109 rfl rfl, rfl, by decide +kernel, ⟨tyX1, tyX1_ok⟩, nmX1⟩
set_option maxRecDepth 20000 in
theorem fl_RX3_30 : tu_fl RX3 30 3 3 := ⟨RX3, TX3, 7, rfl, by decide, iw_X3, tu_tb_in 155 rfl rfl⟩
set_option maxRecDepth 20000 in
theorem kw_RX1_75 : Cond.constant RX1 75 (1000000) ∈ tu_tb := tu_tb_in 366 rfl rfl
set_option maxRecDepth 20000 in
theorem kw_RX2_19 : Cond.constantLong RX2 19 (255) ∈ tu_tb := tu_tb_in 312 rfl rfl
set_option maxRecDepth 20000 in
theorem kw_RX2_21 : Cond.constantLong RX2 21 (33) ∈ tu_tb := tu_tb_in 313 rfl rfl
set_option maxRecDepth 20000 in
theorem kw_RX2_23 : Cond.constantLong RX2 23 (126) ∈ tu_tb := tu_tb_in 314 rfl rfl
set_option maxRecDepth 20000 in
theorem kw_RX3_169 : Cond.constant RX3 169 (1000000) ∈ tu_tb := tu_tb_in 382 rfl rfl
set_option maxRecDepth 20000 in
theorem kw_RL_7 : Cond.constant RL 7 (1000308061) ∈ tu_tb := tu_tb_in 330 rfl rfl
set_option maxRecDepth 20000 in
theorem kw_RL_8 : Cond.constant RL 8 (784901875) ∈ tu_tb := tu_tb_in 331 rfl rfl
set_option maxRecDepth 20000 in
theorem kw_RL_9 : Cond.constant RL 9 (2147483647) ∈ tu_tb := tu_tb_in 335 rfl rfl
set_option maxRecDepth 20000 in
theorem kw_RL_78 : Cond.constantLong RL 78 (88) ∈ tu_tb := tu_tb_in 497 rfl rfl
set_option maxRecDepth 20000 in
theorem kw_RL_80 : Cond.constantLong RL 80 (120) ∈ tu_tb := tu_tb_in 498 rfl rfl
set_option maxRecDepth 20000 in
theorem kw_RL_92 : Cond.constantLong RL 92 (124) ∈ tu_tb := tu_tb_in 499 rfl rfl
set_option maxRecDepth 20000 in
theorem kw_RL_94 : Cond.constantLong RL 94 (115) ∈ tu_tb := tu_tb_in 500 rfl rfl
set_option maxRecDepth 20000 in
theorem kw_RL_96 : Cond.constantLong RL 96 (119) ∈ tu_tb := tu_tb_in 501 rfl rfl
set_option maxRecDepth 20000 in
theorem kw_RL_98 : Cond.constantLong RL 98 (46) ∈ tu_tb := tu_tb_in 502 rfl rfl
set_option maxRecDepth 20000 in
theorem ac_RX0 : Cond.methodLink RX0 49 arraycopyName ∈ tu_tb := tu_tb_in 32 rfl rfl
set_option maxRecDepth 20000 in
theorem ac_RX1 : Cond.methodLink RX1 64 arraycopyName ∈ tu_tb := tu_tb_in 357 rfl rfl
set_option maxRecDepth 20000 in
theorem mn_RX1 : Cond.methodLink RX1 84 Lib.Math.min.name ∈ tu_tb := tu_tb_in 371 rfl rfl
set_option maxRecDepth 20000 in
theorem mx_RX0 : Cond.methodLink RX0 89 Lib.Math.max.name ∈ tu_tb := tu_tb_in 458 rfl rfl
set_option maxRecDepth 20000 in
theorem gs_1 : Cond.fieldLink RX3 45 RX3 "LEAST_VALUES" "[I" ∈ tu_tb := tu_tb_in 179 rfl rfl
set_option maxRecDepth 20000 in
theorem gs_2 : Cond.fieldLink RX3 49 RX3 "GREATEST_VALUES" "[I" ∈ tu_tb := tu_tb_in 181 rfl rfl
theorem nf_le : 8 + (nativeFrameWords "java/lang/System" "arraycopy" 5 + 11) ≤ 40 := by decide
