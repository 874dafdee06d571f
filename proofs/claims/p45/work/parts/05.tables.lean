/-! what the constant pools link: by class number and index; with the words' places -/
abbrev bw_M : Type := Nat × MethodName × ByteArray × Nat × Option FieldType × Nat
def bm_X4_init : bw_M := (4, yX4_init, cX4_init, 4, none, 2)
def bm_X1_init : bw_M := (1, yX1_init, cX1_init, 1, none, 0)
def bm_X3_init : bw_M := (3, yX3_init, cX3_init, 1, none, 0)
def bm_X2_init : bw_M := (2, yX2_init, cX2_init, 1, none, 0)
def bm_X5_init : bw_M := (5, yX5_init, cX5_init, 1, none, 0)
def bm_X6_init : bw_M := (6, yX6_init, cX6_init, 1, none, 0)
def bm_X0_init : bw_M := (0, yX0_init, cX0_init, 2, none, 1)
def bm_X7_missingPlace : bw_M := (7, yX7_missingPlace, cX7_missingPlace, 3, (some .int), 3)
def bm_X7_isThing : bw_M := (7, yX7_isThing, cX7_isThing, 1, (some .boolean), 1)
def bm_J6_bitCount_0f7a4 : bw_M := (10, yJ6_bitCount_0f7a4, cJ6_bitCount_0f7a4, 1, (some .int), 1)
def bm_X7_isIn : bw_M := (7, yX7_isIn, cX7_isIn, 2, (some .boolean), 2)
def bm_X7_isFewer : bw_M := (7, yX7_isFewer, cX7_isFewer, 2, (some .boolean), 2)
def bm_X7_leastOf : bw_M := (7, yX7_leastOf, cX7_leastOf, 2, (some .int), 1)
def bm_J13_bitCount_95d88 : bw_M := (11, yJ13_bitCount_95d88, cJ13_bitCount_95d88, 2, (some .int), 1)
def bm_X2_setsWith : bw_M := (2, yX2_setsWith, cX2_setsWith, 1, (some .long), 1)
def bm_X7_isChance : bw_M := (7, yX7_isChance, cX7_isChance, 1, (some .boolean), 1)
def bm_X7_actOfLot : bw_M := (7, yX7_actOfLot, cX7_actOfLot, 1, (some .int), 1)
def bm_X7_commonDivisor : bw_M := (7, yX7_commonDivisor, cX7_commonDivisor, 7, (some .long), 2)
def bm_X4_isNumber : bw_M := (4, yX4_isNumber, cX4_isNumber, 2, (some .boolean), 1)
def bm_X7_found : bw_M := (7, yX7_found, cX7_found, 2, (some .int), 1)
def bm_X4_make : bw_M := (4, yX4_make, cX4_make, 5, none, 3)
def bm_X4_get : bw_M := (4, yX4_get, cX4_get, 3, (some .int), 2)
def bm_X4_set : bw_M := (4, yX4_set, cX4_set, 4, none, 3)
def bm_X4_has : bw_M := (4, yX4_has, cX4_has, 2, (some .boolean), 1)
def bm_X3_readInto : bw_M := (3, yX3_readInto, cX3_readInto, 5, (some .int), 3)
def bm_X1_take : bw_M := (1, yX1_take, cX1_take, 2, none, 1)
def bm_X7_forgetKept : bw_M := (7, yX7_forgetKept, cX7_forgetKept, 3, none, 1)
def bm_X1_hasBear : bw_M := (1, yX1_hasBear, cX1_hasBear, 2, (some .boolean), 1)
def bm_X7_ofBear : bw_M := (7, yX7_ofBear, cX7_ofBear, 3, (some .int), 2)
def bm_X0_get : bw_M := (0, yX0_get, cX0_get, 2, (some .int), 1)
def bm_X7_answerDeed : bw_M := (7, yX7_answerDeed, cX7_answerDeed, 3, (some .int), 2)
def bm_X1_takeBackTo : bw_M := (1, yX1_takeBackTo, cX1_takeBackTo, 3, none, 1)
def bm_X7_keptIn : bw_M := (7, yX7_keptIn, cX7_keptIn, 3, (some (.object "BearWitness$Court")), 1)
def bm_X1_answerOf : bw_M := (1, yX1_answerOf, cX1_answerOf, 3, (some .int), 2)
def bm_X1_isSet : bw_M := (1, yX1_isSet, cX1_isSet, 2, (some .boolean), 1)
def bm_X5_hear : bw_M := (5, yX5_hear, cX5_hear, 7, none, 1)
def bm_X5_tiedBy : bw_M := (5, yX5_tiedBy, cX5_tiedBy, 4, (some .int), 1)
def bm_X5_shownBy : bw_M := (5, yX5_shownBy, cX5_shownBy, 4, (some .int), 1)
def bm_X1_allBears : bw_M := (1, yX1_allBears, cX1_allBears, 1, (some .int), 0)
def bm_X6_open : bw_M := (6, yX6_open, cX6_open, 6, none, 3)
def bm_X6_fewestPresses : bw_M := (6, yX6_fewestPresses, cX6_fewestPresses, 2, (some .int), 0)
def bm_X5_toldBy : bw_M := (5, yX5_toldBy, cX5_toldBy, 4, (some .int), 1)
def bm_X5_clash : bw_M := (5, yX5_clash, cX5_clash, 3, (some .int), 2)
def bm_X5_hasRivals : bw_M := (5, yX5_hasRivals, cX5_hasRivals, 5, (some .boolean), 1)
def bm_X7_readLooks : bw_M := (7, yX7_readLooks, cX7_readLooks, 3, (some .int), 1)
def bm_X2_fittingSets : bw_M := (2, yX2_fittingSets, cX2_fittingSets, 8, (some .long), 1)
def bm_X7_tellPart : bw_M := (7, yX7_tellPart, cX7_tellPart, 7, none, 2)
def bm_X7_greatestPart : bw_M := (7, yX7_greatestPart, cX7_greatestPart, 8, (some .int), 3)
def bm_X2_fitKind : bw_M := (2, yX2_fitKind, cX2_fitKind, 5, (some .boolean), 3)
def bm_X2_whoSpoke : bw_M := (2, yX2_whoSpoke, cX2_whoSpoke, 3, (some .int), 0)
def bm_X2_whoKeptBack : bw_M := (2, yX2_whoKeptBack, cX2_whoKeptBack, 6, (some .int), 1)
def bm_X6_playOut : bw_M := (6, yX6_playOut, cX6_playOut, 7, (some .int), 1)
def bm_X7_weightOf : bw_M := (7, yX7_weightOf, cX7_weightOf, 6, (some .long), 2)
def bm_X7_allWeight : bw_M := (7, yX7_allWeight, cX7_allWeight, 4, (some .long), 0)
def bm_X1_canBe : bw_M := (1, yX1_canBe, cX1_canBe, 3, (some .boolean), 2)
def bm_X1_commit : bw_M := (1, yX1_commit, cX1_commit, 3, none, 2)
def bm_X7_shownByAll : bw_M := (7, yX7_shownByAll, cX7_shownByAll, 1, (some .int), 0)
def bm_X0_sum : bw_M := (0, yX0_sum, cX0_sum, 4, (some .int), 1)
def bm_X1_thoseOfKind : bw_M := (1, yX1_thoseOfKind, cX1_thoseOfKind, 4, (some .int), 1)
def bm_X4_thoseThere : bw_M := (4, yX4_thoseThere, cX4_thoseThere, 3, (some .int), 0)
def bm_X7_keptCourts : bw_M := (7, yX7_keptCourts, cX7_keptCourts, 3, (some .int), 0)
def bm_X7_count : bw_M := (7, yX7_count, cX7_count, 2, (some .int), 1)
def bm_X4_digestFrom : bw_M := (4, yX4_digestFrom, cX4_digestFrom, 5, (some .long), 1)
def bm_X0_set : bw_M := (0, yX0_set, cX0_set, 3, none, 2)
def bm_X4_hasPlace : bw_M := (4, yX4_hasPlace, cX4_hasPlace, 3, (some .boolean), 2)
def bm_X1_toldOf : bw_M := (1, yX1_toldOf, cX1_toldOf, 4, (some .int), 3)
def bm_X1_clear : bw_M := (1, yX1_clear, cX1_clear, 1, none, 0)
def bm_X2_readFrom : bw_M := (2, yX2_readFrom, cX2_readFrom, 8, (some .int), 3)
def bm_X1_answerIf : bw_M := (1, yX1_answerIf, cX1_answerIf, 7, (some .int), 4)
def bm_X7_isOfKind : bw_M := (7, yX7_isOfKind, cX7_isOfKind, 2, (some .boolean), 2)
def bm_X1_onesOf : bw_M := (1, yX1_onesOf, cX1_onesOf, 4, (some .int), 4)
def bm_X0_take : bw_M := (0, yX0_take, cX0_take, 3, none, 1)
def bm_X1_change : bw_M := (1, yX1_change, cX1_change, 4, none, 3)
def bm_X1_seenBy : bw_M := (1, yX1_seenBy, cX1_seenBy, 5, (some .int), 3)
def bm_X4_sizeOf : bw_M := (4, yX4_sizeOf, cX4_sizeOf, 2, (some .int), 1)
def bm_X2_fits : bw_M := (2, yX2_fits, cX2_fits, 5, (some .boolean), 4)
def bm_X3_kindOfLetter : bw_M := (3, yX3_kindOfLetter, cX3_kindOfLetter, 1, (some .int), 1)
def bm_X3_open : bw_M := (3, yX3_open, cX3_open, 4, none, 2)
def bm_X3_skipBlanks : bw_M := (3, yX3_skipBlanks, cX3_skipBlanks, 1, none, 0)
def bm_X3_byteHere : bw_M := (3, yX3_byteHere, cX3_byteHere, 1, (some .int), 0)
def bm_X3_twoFigures : bw_M := (3, yX3_twoFigures, cX3_twoFigures, 4, (some .int), 0)
def bm_X3_readBear : bw_M := (3, yX3_readBear, cX3_readBear, 6, none, 1)
def bm_X3_fail : bw_M := (3, yX3_fail, cX3_fail, 2, none, 1)
def bm_X3_oneFigure : bw_M := (3, yX3_oneFigure, cX3_oneFigure, 3, (some .int), 1)
def bm_X1_seat : bw_M := (1, yX1_seat, cX1_seat, 5, none, 4)
def bm_X5_balance : bw_M := (5, yX5_balance, cX5_balance, 5, (some .int), 2)
def bm_X6_worthIf : bw_M := (6, yX6_worthIf, cX6_worthIf, 6, (some .int), 4)
def bm_X6_worthNow : bw_M := (6, yX6_worthNow, cX6_worthNow, 2, (some .int), 1)
def bm_X6_pressOn : bw_M := (6, yX6_pressOn, cX6_pressOn, 6, (some .boolean), 3)
def bm_X6_canWear : bw_M := (6, yX6_canWear, cX6_canWear, 4, (some .boolean), 2)
def bm_X6_wearBy : bw_M := (6, yX6_wearBy, cX6_wearBy, 3, none, 2)
def bm_X7_init : bw_M := (7, yX7_init, cX7_init, 1, none, 0)
def bm_L_cell : bw_M := (9, yL_cell, cL_cell, 2, (some .int), 2)
def bm_L_up : bw_M := (9, yL_up, cL_up, 2, (some .int), 2)
def bm_L_sign : bw_M := (9, yL_sign, cL_sign, 3, (some .boolean), 3)
def bm_L_letter : bw_M := (9, yL_letter, cL_letter, 1, (some .int), 1)
def bm_L_lay : bw_M := (9, yL_lay, cL_lay, 4, none, 2)
def bm_L_made : bw_M := (9, yL_made, cL_made, 6, (some .boolean), 2)
def bm_L_bits : bw_M := (9, yL_bits, cL_bits, 3, (some .int), 1)
def bm_L_told : bw_M := (9, yL_told, cL_told, 3, (some .int), 3)
def bm_L_asked : bw_M := (9, yL_asked, cL_asked, 2, (some .int), 2)
def bm_X7_put : bw_M := (7, yX7_put, cX7_put, 6, (some .int), 3)
def bm_X7_text : bw_M := (7, yX7_text, cX7_text, 3, (some .int), 2)
def bm_X7_court : bw_M := (7, yX7_court, cX7_court, 3, (some .int), 1)
def bm_X7_bear : bw_M := (7, yX7_bear, cX7_bear, 3, (some .int), 2)
def bm_X7_asked : bw_M := (7, yX7_asked, cX7_asked, 1, (some .int), 0)
def bm_X7_lots : bw_M := (7, yX7_lots, cX7_lots, 9, (some .int), 2)
def bm_X7_keep : bw_M := (7, yX7_keep, cX7_keep, 3, (some .int), 1)
def bm_X7_tells : bw_M := (7, yX7_tells, cX7_tells, 3, (some .int), 2)
def bm_X7_shown : bw_M := (7, yX7_shown, cX7_shown, 2, (some .int), 1)
def bm_X7_duel : bw_M := (7, yX7_duel, cX7_duel, 3, (some .int), 2)
def bm_X7_call : bw_M := (7, yX7_call, cX7_call, 7, (some .int), 1)
def bm_X7_shake : bw_M := (7, yX7_shake, cX7_shake, 6, (some .int), 3)
def bm_X7_at : bw_M := (7, yX7_at, cX7_at, 4, (some .int), 2)
def bm_X7_press : bw_M := (7, yX7_press, cX7_press, 2, (some .int), 1)
def bm_X7_on : bw_M := (7, yX7_on, cX7_on, 3, (some .int), 1)
def bm_X7_cover : bw_M := (7, yX7_cover, cX7_cover, 5, (some .int), 1)
def bm_X7_apart : bw_M := (7, yX7_apart, cX7_apart, 4, (some .int), 0)
def bm_X7_rivals : bw_M := (7, yX7_rivals, cX7_rivals, 3, (some .int), 2)
def bm_X7_row : bw_M := (7, yX7_row, cX7_row, 3, (some .int), 2)
def bm_X7_lay : bw_M := (7, yX7_lay, cX7_lay, 5, (some .int), 3)
def bm_X7_truths : bw_M := (7, yX7_truths, cX7_truths, 5, (some .int), 1)
def bm_X7_upper : bw_M := (7, yX7_upper, cX7_upper, 1, (some .long), 0)
def bm_X7_sure : bw_M := (7, yX7_sure, cX7_sure, 8, (some .int), 1)
def bm_X7_next : bw_M := (7, yX7_next, cX7_next, 10, (some .int), 1)
def bm_X7_walls : bw_M := (7, yX7_walls, cX7_walls, 4, (some .int), 1)
def bm_X7_kinds : bw_M := (7, yX7_kinds, cX7_kinds, 6, (some .int), 2)
def bm_X7_odds : bw_M := (7, yX7_odds, cX7_odds, 6, (some .int), 2)
def bm_X7_lower : bw_M := (7, yX7_lower, cX7_lower, 1, (some .long), 0)
def bm_X7_mid : bw_M := (7, yX7_mid, cX7_mid, 5, (some .int), 1)
def bm_X7_mend : bw_M := (7, yX7_mend, cX7_mend, 2, (some .int), 1)
def bm_X7_eye : bw_M := (7, yX7_eye, cX7_eye, 2, (some .int), 1)
def bm_X7_turn : bw_M := (7, yX7_turn, cX7_turn, 2, (some .int), 1)
def bm_X7_undo : bw_M := (7, yX7_undo, cX7_undo, 3, (some .int), 1)
def bm_X7_digest : bw_M := (7, yX7_digest, cX7_digest, 5, (some .long), 0)
def bw_FT : List (Nat × Nat × Nat × Nat × Bool × Nat) := [(0, 7, 0, 0, false, 100), (1, 9, 1, 0, false, 130), (1, 15, 1, 1, false, 135), (1, 18, 1, 2, false, 141), (1, 21, 1, 3, false, 143), (1, 29, 1, 4, false, 145), (1, 33, 1, 5, false, 150), (1, 36, 1, 6, false, 152), (1, 39, 1, 7, false, 157), (1, 42, 1, 8, false, 159), (1, 45, 1, 9, false, 160), (2, 9, 2, 0, false, 212), (2, 20, 2, 1, false, 213), (2, 24, 2, 2, false, 214), (2, 27, 2, 3, false, 215), (2, 62, 1, 4, true, 148), (2, 73, 1, 1, true, 139), (2, 76, 1, 6, true, 155), (3, 14, 3, 0, false, 191), (3, 20, 3, 1, false, 192), (3, 24, 3, 2, false, 193), (3, 27, 3, 3, false, 194), (3, 49, 1, 1, true, 136), (3, 70, 1, 0, true, 133), (4, 7, 4, 0, false, 109), (4, 13, 4, 1, false, 110), (4, 21, 4, 2, false, 111), (4, 25, 4, 3, false, 112), (5, 9, 5, 0, false, 233), (5, 20, 5, 1, false, 234), (5, 24, 5, 2, false, 235), (5, 27, 1, 0, true, 131), (5, 30, 1, 4, true, 146), (5, 37, 1, 6, true, 153), (5, 44, 1, 1, true, 137), (6, 9, 6, 0, false, 251), (6, 15, 6, 1, false, 252), (6, 18, 6, 2, false, 253), (6, 26, 6, 3, false, 254), (6, 30, 6, 4, false, 255), (6, 33, 6, 5, false, 256), (6, 36, 1, 0, true, 132), (6, 39, 1, 6, true, 154), (6, 59, 1, 4, true, 147), (6, 66, 1, 1, true, 138), (7, 14, 7, 0, false, 273), (7, 18, 7, 1, false, 274), (7, 24, 7, 2, false, 275), (7, 28, 7, 3, false, 276), (7, 31, 7, 4, false, 277), (7, 38, 7, 5, false, 278), (7, 45, 7, 6, false, 279), (7, 52, 7, 7, false, 280), (7, 59, 7, 8, false, 281), (7, 68, 7, 9, false, 282), (7, 72, 7, 10, false, 283), (7, 76, 7, 11, false, 284), (7, 79, 7, 12, false, 285), (7, 83, 7, 13, false, 286), (7, 141, 1, 0, true, 134), (7, 150, 1, 4, true, 149), (7, 165, 1, 3, true, 144), (7, 212, 6, 5, true, 257), (7, 299, 1, 1, true, 140), (7, 302, 1, 2, true, 142), (7, 305, 1, 6, true, 156), (7, 311, 1, 5, true, 151), (7, 339, 1, 7, true, 158)]
def bw_fl (o ix : Nat) : Option (Nat × Nat) := (bw_FT.find? (fun e => e.1 == o && e.2.1 == ix)).map (fun e => (e.2.2.1, e.2.2.2.1))
def bw_MT : List (Nat × Nat × Nat × bw_M × Nat × Nat × Nat × Nat × Nat) := [(0, 13, 2, bm_X0_get, 431, 330, 3, 71, 331),
  (1, 26, 5, bm_X0_init, 129, 97, 0, 71, 98),
  (1, 48, 3, bm_X0_take, 427, 429, 21, 71, 430),
  (1, 52, 3, bm_X0_set, 422, 107, 0, 71, 108),
  (1, 56, 2, bm_X1_allBears, 535, 537, 35, 72, 538),
  (1, 60, 3, bm_X0_get, 457, 330, 3, 71, 331),
  (1, 64, 1, bm_X7_isOfKind, 521, 522, 0, 69, 523),
  (1, 68, 2, bm_X1_change, 462, 464, 28, 72, 465),
  (1, 72, 1, bm_X7_isIn, 516, 467, 0, 69, 468),
  (1, 75, 2, bm_X1_seenBy, 517, 519, 33, 72, 520),
  (1, 79, 2, bm_X1_toldOf, 512, 514, 32, 72, 515),
  (1, 82, 0, bm_X1_onesOf, 524, 525, 0, 72, 526),
  (1, 86, 2, bm_X1_answerIf, 508, 510, 31, 72, 511),
  (2, 17, 5, bm_X0_init, 211, 97, 0, 71, 98),
  (2, 34, 3, bm_X4_has, 647, 347, 5, 70, 348),
  (2, 40, 3, bm_X4_sizeOf, 648, 351, 6, 70, 352),
  (2, 44, 3, bm_X4_get, 649, 360, 8, 70, 361),
  (2, 48, 3, bm_X0_set, 650, 107, 0, 71, 108),
  (2, 52, 3, bm_X0_get, 656, 330, 3, 71, 331),
  (2, 54, 3, bm_X1_answerIf, 666, 510, 31, 72, 511),
  (2, 65, 0, bm_X2_setsWith, 657, 658, 0, 74, 659),
  (2, 69, 2, bm_X2_fits, 662, 664, 52, 74, 665),
  (2, 79, 3, bm_X1_seenBy, 721, 519, 33, 72, 520),
  (2, 83, 1, bm_X7_isIn, 722, 467, 0, 69, 468),
  (3, 11, 5, bm_X0_init, 190, 97, 0, 71, 98),
  (3, 30, 2, bm_X3_open, 379, 381, 11, 73, 382),
  (3, 34, 3, bm_X1_clear, 386, 388, 12, 72, 389),
  (3, 39, 2, bm_X3_skipBlanks, 390, 392, 13, 73, 393),
  (3, 42, 2, bm_X3_byteHere, 395, 397, 14, 73, 398),
  (3, 46, 2, bm_X3_twoFigures, 399, 401, 15, 73, 402),
  (3, 52, 2, bm_X3_readBear, 411, 413, 18, 73, 414),
  (3, 56, 3, bm_X4_sizeOf, 383, 351, 6, 70, 352),
  (3, 62, 3, bm_X4_get, 384, 360, 8, 70, 361),
  (3, 66, 3, bm_X0_set, 385, 107, 0, 71, 108),
  (3, 73, 0, bm_X3_kindOfLetter, 415, 416, 0, 73, 417),
  (3, 76, 2, bm_X3_fail, 407, 409, 17, 73, 410),
  (3, 79, 2, bm_X3_oneFigure, 403, 405, 16, 73, 406),
  (3, 82, 3, bm_X1_seat, 418, 420, 19, 72, 421),
  (3, 86, 3, bm_X0_get, 394, 330, 3, 71, 331),
  (4, 18, 5, bm_X0_init, 96, 97, 0, 71, 98),
  (4, 28, 3, bm_X0_set, 105, 107, 0, 71, 108),
  (4, 32, 2, bm_X4_isNumber, 337, 322, 1, 70, 323),
  (4, 36, 3, bm_X0_get, 353, 330, 3, 71, 331),
  (4, 40, 2, bm_X4_sizeOf, 349, 351, 6, 70, 352),
  (4, 43, 2, bm_X4_hasPlace, 362, 356, 7, 70, 357),
  (4, 55, 2, bm_X4_get, 821, 360, 8, 70, 361),
  (4, 58, 2, bm_X4_has, 799, 347, 5, 70, 348),
  (5, 17, 5, bm_X0_init, 232, 97, 0, 71, 98),
  (5, 33, 3, bm_X0_get, 543, 330, 3, 71, 331),
  (5, 40, 3, bm_X1_toldOf, 544, 514, 32, 72, 515),
  (5, 47, 1, bm_X1_onesOf, 545, 525, 0, 72, 526),
  (5, 51, 3, bm_X0_set, 546, 107, 0, 71, 108),
  (5, 55, 1, bm_X7_isIn, 555, 467, 0, 69, 468),
  (5, 59, 2, bm_X5_balance, 551, 553, 38, 75, 554),
  (5, 63, 2, bm_X5_toldBy, 556, 558, 39, 75, 559),
  (6, 23, 5, bm_X0_init, 250, 97, 0, 71, 98),
  (6, 40, 3, bm_X0_get, 583, 330, 3, 71, 331),
  (6, 44, 3, bm_X0_set, 584, 107, 0, 71, 108),
  (6, 48, 1, bm_X7_isIn, 585, 467, 0, 69, 468),
  (6, 52, 0, bm_X6_worthIf, 586, 587, 0, 76, 588),
  (6, 56, 2, bm_X6_worthNow, 591, 593, 42, 76, 594),
  (6, 62, 3, bm_X1_toldOf, 589, 514, 32, 72, 515),
  (6, 69, 1, bm_X1_onesOf, 590, 525, 0, 72, 526),
  (6, 73, 2, bm_X6_pressOn, 599, 601, 44, 76, 602),
  (6, 77, 2, bm_X6_canWear, 603, 605, 45, 76, 606),
  (6, 80, 2, bm_X6_wearBy, 607, 609, 46, 76, 610),
  (6, 83, 2, bm_X6_playOut, 731, 729, 58, 76, 730),
  (7, 11, 5, bm_X4_init, 90, 91, 0, 70, 92),
  (7, 23, 5, bm_X1_init, 124, 125, 0, 72, 126),
  (7, 37, 5, bm_X3_init, 185, 186, 0, 73, 187),
  (7, 44, 5, bm_X2_init, 206, 207, 0, 74, 208),
  (7, 51, 5, bm_X5_init, 227, 228, 0, 75, 229),
  (7, 58, 5, bm_X6_init, 245, 246, 0, 76, 247),
  (7, 65, 5, bm_X0_init, 272, 97, 0, 71, 98),
  (7, 86, 3, bm_X4_isNumber, 320, 322, 1, 70, 323),
  (7, 90, 2, bm_X7_found, 324, 326, 2, 69, 327),
  (7, 94, 3, bm_X4_make, 333, 335, 4, 70, 336),
  (7, 98, 0, bm_X7_missingPlace, 342, 343, 0, 69, 344),
  (7, 102, 3, bm_X4_get, 358, 360, 8, 70, 361),
  (7, 106, 3, bm_X4_set, 363, 365, 9, 70, 366),
  (7, 109, 3, bm_X4_has, 345, 347, 5, 70, 348),
  (7, 130, 3, bm_X3_readInto, 375, 377, 10, 73, 378),
  (7, 134, 3, bm_X1_take, 423, 425, 20, 72, 426),
  (7, 138, 2, bm_X7_forgetKept, 432, 434, 22, 69, 435),
  (7, 144, 3, bm_X1_hasBear, 449, 451, 25, 72, 452),
  (7, 147, 2, bm_X7_ofBear, 811, 813, 66, 69, 814),
  (7, 153, 3, bm_X0_get, 328, 330, 3, 71, 331),
  (7, 162, 2, bm_X7_answerDeed, 445, 447, 24, 69, 448),
  (7, 168, 3, bm_X1_takeBackTo, 485, 487, 29, 72, 488),
  (7, 171, 2, bm_X7_keptIn, 436, 438, 23, 69, 439),
  (7, 175, 0, bm_X7_isThing, 501, 502, 0, 69, 503),
  (7, 178, 3, bm_X1_answerOf, 504, 506, 30, 72, 507),
  (7, 181, 3, bm_X1_isSet, 531, 533, 34, 72, 534),
  (7, 184, 3, bm_X5_hear, 539, 541, 36, 75, 542),
  (7, 187, 3, bm_X5_tiedBy, 547, 549, 37, 75, 550),
  (7, 190, 3, bm_X5_shownBy, 560, 562, 40, 75, 563),
  (7, 193, 3, bm_X1_allBears, 568, 537, 35, 72, 538),
  (7, 197, 0, bm_J6_bitCount_0f7a4, 569, 570, 0, 77, 571),
  (7, 202, 0, bm_X7_isIn, 466, 467, 0, 69, 468),
  (7, 205, 3, bm_X6_open, 579, 581, 41, 76, 582),
  (7, 209, 3, bm_X6_fewestPresses, 595, 597, 43, 76, 598),
  (7, 215, 3, bm_X5_toldBy, 615, 558, 39, 75, 559),
  (7, 218, 0, bm_X7_isFewer, 616, 617, 0, 69, 618),
  (7, 221, 3, bm_X5_clash, 623, 625, 47, 75, 626),
  (7, 224, 3, bm_X5_hasRivals, 631, 633, 48, 75, 634),
  (7, 227, 2, bm_X7_readLooks, 639, 641, 49, 69, 642),
  (7, 230, 3, bm_X2_fittingSets, 651, 653, 51, 74, 654),
  (7, 234, 0, bm_X7_leastOf, 667, 668, 0, 69, 669),
  (7, 238, 0, bm_J13_bitCount_95d88, 670, 671, 0, 79, 672),
  (7, 242, 2, bm_X7_tellPart, 676, 678, 53, 69, 679),
  (7, 246, 1, bm_X2_setsWith, 687, 658, 0, 74, 659),
  (7, 251, 2, bm_X7_greatestPart, 693, 695, 54, 69, 696),
  (7, 255, 3, bm_X2_fitKind, 705, 707, 55, 74, 708),
  (7, 259, 3, bm_X2_whoSpoke, 713, 715, 56, 74, 716),
  (7, 262, 3, bm_X2_whoKeptBack, 717, 719, 57, 74, 720),
  (7, 266, 3, bm_X6_playOut, 727, 729, 58, 76, 730),
  (7, 269, 0, bm_X7_isChance, 740, 741, 0, 69, 742),
  (7, 272, 2, bm_X7_weightOf, 743, 745, 59, 69, 746),
  (7, 276, 2, bm_X7_allWeight, 747, 749, 60, 69, 750),
  (7, 287, 0, bm_X7_actOfLot, 764, 765, 0, 69, 766),
  (7, 290, 3, bm_X1_canBe, 453, 455, 26, 72, 456),
  (7, 293, 3, bm_X1_commit, 458, 460, 27, 72, 461),
  (7, 296, 2, bm_X7_shownByAll, 767, 769, 61, 69, 770),
  (7, 308, 3, bm_X0_sum, 787, 789, 62, 71, 790),
  (7, 314, 3, bm_X1_thoseOfKind, 791, 793, 63, 72, 794),
  (7, 317, 3, bm_X4_thoseThere, 795, 797, 64, 70, 798),
  (7, 320, 2, bm_X7_keptCourts, 800, 802, 65, 69, 803),
  (7, 327, 2, bm_X7_count, 810, 784, 785, 69, 786),
  (7, 330, 3, bm_X4_digestFrom, 816, 818, 67, 70, 819),
  (7, 334, 3, bm_X0_set, 332, 107, 0, 71, 108),
  (7, 336, 3, bm_X4_hasPlace, 354, 356, 7, 70, 357),
  (7, 342, 3, bm_X1_toldOf, 815, 514, 32, 72, 515),
  (7, 346, 3, bm_X1_clear, 440, 388, 12, 72, 389),
  (7, 349, 3, bm_X2_readFrom, 643, 645, 50, 74, 646),
  (7, 352, 3, bm_X1_answerIf, 697, 510, 31, 72, 511),
  (7, 363, 0, bm_X7_commonDivisor, 680, 681, 0, 69, 682),
  (9, 9, 0, bm_L_cell, 822, 823, 0, 68, 824),
  (9, 15, 0, bm_L_up, 826, 827, 0, 68, 828),
  (9, 19, 2, bm_X7_put, 843, 844, 845, 69, 846),
  (9, 25, 2, bm_X7_text, 836, 837, 838, 69, 839),
  (9, 28, 0, bm_L_sign, 840, 841, 0, 68, 842),
  (9, 32, 0, bm_L_letter, 847, 848, 0, 68, 849),
  (9, 36, 2, bm_X7_court, 371, 372, 373, 69, 374),
  (9, 39, 2, bm_X7_bear, 856, 857, 858, 69, 859),
  (9, 42, 2, bm_X7_asked, 771, 772, 773, 69, 774),
  (9, 46, 4, bm_X7_init, 82, 83, 0, 69, 84),
  (9, 47, 0, bm_L_lay, 830, 831, 0, 68, 832),
  (9, 51, 0, bm_L_made, 833, 834, 0, 68, 835),
  (9, 56, 2, bm_X7_lots, 756, 757, 758, 69, 759),
  (9, 59, 2, bm_X7_count, 783, 784, 785, 69, 786),
  (9, 62, 0, bm_L_bits, 850, 851, 0, 68, 852),
  (9, 65, 2, bm_X7_keep, 489, 490, 491, 69, 492),
  (9, 68, 0, bm_L_told, 853, 854, 0, 68, 855),
  (9, 72, 2, bm_X7_tells, 497, 498, 499, 69, 500),
  (9, 75, 2, bm_X7_shown, 527, 528, 529, 69, 530),
  (9, 78, 2, bm_X7_duel, 723, 724, 725, 69, 726),
  (9, 81, 2, bm_X7_call, 564, 565, 566, 69, 567),
  (9, 84, 0, bm_L_asked, 860, 861, 0, 68, 862),
  (9, 87, 2, bm_X7_shake, 575, 576, 577, 69, 578),
  (9, 90, 2, bm_X7_at, 367, 368, 369, 69, 370),
  (9, 93, 2, bm_X7_press, 441, 442, 443, 69, 444),
  (9, 96, 2, bm_X7_on, 493, 494, 495, 69, 496),
  (9, 99, 2, bm_X7_cover, 611, 612, 613, 69, 614),
  (9, 102, 2, bm_X7_apart, 627, 628, 629, 69, 630),
  (9, 105, 2, bm_X7_rivals, 619, 620, 621, 69, 622),
  (9, 108, 2, bm_X7_row, 316, 317, 318, 69, 319),
  (9, 111, 2, bm_X7_lay, 338, 339, 340, 69, 341),
  (9, 113, 2, bm_X7_truths, 635, 636, 637, 69, 638),
  (9, 116, 2, bm_X7_upper, 775, 776, 777, 69, 778),
  (9, 122, 2, bm_X7_sure, 683, 684, 685, 69, 686),
  (9, 125, 2, bm_X7_next, 689, 690, 691, 69, 692),
  (9, 128, 2, bm_X7_walls, 709, 710, 711, 69, 712),
  (9, 133, 2, bm_X7_kinds, 701, 702, 703, 69, 704),
  (9, 136, 2, bm_X7_odds, 736, 737, 738, 69, 739),
  (9, 139, 2, bm_X7_lower, 779, 780, 781, 69, 782),
  (9, 142, 2, bm_X7_mid, 752, 753, 754, 69, 755),
  (9, 147, 2, bm_X7_mend, 469, 470, 471, 69, 472),
  (9, 150, 2, bm_X7_eye, 473, 474, 475, 69, 476),
  (9, 153, 2, bm_X7_turn, 477, 478, 479, 69, 480),
  (9, 156, 2, bm_X7_undo, 481, 482, 483, 69, 484),
  (9, 159, 2, bm_X7_digest, 804, 805, 806, 69, 807)]
def bw_mt (o ix : Nat) : Option (Nat × bw_M) := (bw_MT.find? (fun e => e.1 == o && e.2.1 == ix)).map (fun e => (e.2.2.1, e.2.2.2.1))
def bw_KT : List (Nat × Nat × Value × Nat) := [(2, 60, .long (-1), 655), (4, 61, .long (31), 820), (7, 249, .long (-1), 688), (7, 280, .int (2147483646), 760), (7, 281, .long (48271), 761), (7, 283, .long (2147483647), 762), (7, 285, .long (8), 763), (7, 323, .long (17), 808), (7, 325, .long (31), 809), (7, 361, .long (12), 751), (9, 7, .int (-1894007587), 825), (9, 8, .int (2147483647), 829), (9, 55, .int (2000000), 863), (9, 120, .long (64), 864), (9, 131, .long (2), 865), (9, 145, .long (6), 866), (10, 265, .int (1431655765), 572), (10, 266, .int (858993459), 573), (10, 267, .int (252645135), 574), (11, 314, .long (6148914691236517205), 673), (11, 316, .long (3689348814741910323), 674), (11, 318, .long (1085102592571150095), 675)]
def bw_kc (o ix : Nat) : Option Value := (bw_KT.find? (fun e => e.1 == o && e.2.1 == ix)).map (fun e => e.2.2.1)
def bw_NT : List (Nat × Nat × Nat × Nat × Nat × Nat) := [(1, 24, 0, 128, 95, 71), (2, 15, 0, 210, 95, 71), (3, 9, 0, 189, 95, 71), (4, 16, 0, 94, 95, 71), (5, 15, 0, 231, 95, 71), (6, 21, 0, 249, 95, 71), (7, 7, 4, 88, 89, 70), (7, 21, 1, 122, 123, 72), (7, 35, 3, 183, 184, 73), (7, 42, 2, 204, 205, 74), (7, 49, 5, 225, 226, 75), (7, 56, 6, 243, 244, 76), (7, 63, 0, 271, 95, 71), (9, 20, 7, 80, 81, 69)]
def bw_cl (o ix : Nat) : Option Nat := (bw_NT.find? (fun e => e.1 == o && e.2.1 == ix)).map (fun e => e.2.2.1)
def bw_anT : List (Nat × Nat × Nat) := [(7, 21, 122)]
def bw_an (o ix : Nat) : Bool := (bw_anT.find? (fun e => e.1 == o && e.2.1 == ix)).isSome
def bw_stT : List (Nat × Nat × Nat) := [(2, 30, 660)]
def bw_st (o ix : Nat) : Bool := (bw_stT.find? (fun e => e.1 == o && e.2.1 == ix)).isSome
def bw_oiT : List (Nat × Nat × Nat) := [(0, 1, 99), (1, 3, 127), (2, 3, 209), (3, 3, 188), (4, 1, 93), (5, 3, 230), (6, 3, 248), (7, 1, 85)]
def bw_oi (o ix : Nat) : Bool := (bw_oiT.find? (fun e => e.1 == o && e.2.1 == ix)).isSome
def bw_acT : List (Nat × Nat × Nat) := []
def bw_ac (o ix : Nat) : Bool := (bw_acT.find? (fun e => e.1 == o && e.2.1 == ix)).isSome
def bw_mxT : List (Nat × Nat × Bool × Nat) := [(6, 86, true, 732), (6, 92, false, 733), (7, 356, true, 698)]
def bw_mx (o ix : Nat) : Option Bool := (bw_mxT.find? (fun e => e.1 == o && e.2.1 == ix)).map (fun e => e.2.2.1)
