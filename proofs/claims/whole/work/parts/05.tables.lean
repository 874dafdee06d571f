/-! what the constant pools link: by class number and index; with the words' places -/
abbrev bw_M : Type := Nat × MethodName × ByteArray × Nat × Option FieldType × Nat
def bm_X4_init : bw_M := (4, yX4_init, cX4_init, 4, none, 2)
def bm_X1_init : bw_M := (1, yX1_init, cX1_init, 1, none, 0)
def bm_X3_init : bw_M := (3, yX3_init, cX3_init, 1, none, 0)
def bm_X2_init : bw_M := (2, yX2_init, cX2_init, 1, none, 0)
def bm_X5_init : bw_M := (5, yX5_init, cX5_init, 1, none, 0)
def bm_X6_init : bw_M := (6, yX6_init, cX6_init, 1, none, 0)
def bm_X0_init : bw_M := (0, yX0_init, cX0_init, 2, none, 1)
def bm_X7_missingPlace : bw_M := (7, yX7_missingPlace, cX7_missingPlace, 3, (some .int), 3)
def bm_X7_isOfKind : bw_M := (7, yX7_isOfKind, cX7_isOfKind, 2, (some .boolean), 2)
def bm_X7_isThing : bw_M := (7, yX7_isThing, cX7_isThing, 1, (some .boolean), 1)
def bm_J6_bitCount_0f7a4 : bw_M := (10, yJ6_bitCount_0f7a4, cJ6_bitCount_0f7a4, 1, (some .int), 1)
def bm_X7_isIn : bw_M := (7, yX7_isIn, cX7_isIn, 2, (some .boolean), 2)
def bm_X7_isFewer : bw_M := (7, yX7_isFewer, cX7_isFewer, 2, (some .boolean), 2)
def bm_X7_leastOf : bw_M := (7, yX7_leastOf, cX7_leastOf, 2, (some .int), 1)
def bm_J13_bitCount_95d88 : bw_M := (11, yJ13_bitCount_95d88, cJ13_bitCount_95d88, 2, (some .int), 1)
def bm_X2_setsWith : bw_M := (2, yX2_setsWith, cX2_setsWith, 1, (some .long), 1)
def bm_X7_isChance : bw_M := (7, yX7_isChance, cX7_isChance, 1, (some .boolean), 1)
def bm_X7_actOfLot : bw_M := (7, yX7_actOfLot, cX7_actOfLot, 1, (some .int), 1)
def bm_X7_commonDivisor : bw_M := (7, yX7_commonDivisor, cX7_commonDivisor, 7, (some .long), 2)
def bm_X4_isNumber : bw_M := (4, yX4_isNumber, cX4_isNumber, 2, (some .boolean), 1)
def bm_X7_found : bw_M := (7, yX7_found, cX7_found, 2, (some .int), 1)
def bm_X4_make : bw_M := (4, yX4_make, cX4_make, 5, none, 3)
def bm_X4_get : bw_M := (4, yX4_get, cX4_get, 3, (some .int), 2)
def bm_X4_set : bw_M := (4, yX4_set, cX4_set, 4, none, 3)
def bm_X4_has : bw_M := (4, yX4_has, cX4_has, 2, (some .boolean), 1)
def bm_X4_drop : bw_M := (4, yX4_drop, cX4_drop, 2, none, 1)
def bm_X4_hasSpan : bw_M := (4, yX4_hasSpan, cX4_hasSpan, 4, (some .boolean), 3)
def bm_X4_move : bw_M := (4, yX4_move, cX4_move, 6, none, 5)
def bm_X4_sizeOf : bw_M := (4, yX4_sizeOf, cX4_sizeOf, 2, (some .int), 1)
def bm_X4_sumOf : bw_M := (4, yX4_sumOf, cX4_sumOf, 5, (some .long), 1)
def bm_X3_readInto : bw_M := (3, yX3_readInto, cX3_readInto, 5, (some .int), 3)
def bm_X1_take : bw_M := (1, yX1_take, cX1_take, 2, none, 1)
def bm_X7_forgetKept : bw_M := (7, yX7_forgetKept, cX7_forgetKept, 3, none, 1)
def bm_X1_hasBear : bw_M := (1, yX1_hasBear, cX1_hasBear, 2, (some .boolean), 1)
def bm_X7_ofBear : bw_M := (7, yX7_ofBear, cX7_ofBear, 3, (some .int), 2)
def bm_X0_get : bw_M := (0, yX0_get, cX0_get, 2, (some .int), 1)
def bm_X1_markOf : bw_M := (1, yX1_markOf, cX1_markOf, 4, (some .int), 2)
def bm_X7_answerDeed : bw_M := (7, yX7_answerDeed, cX7_answerDeed, 3, (some .int), 2)
def bm_X1_takeBackTo : bw_M := (1, yX1_takeBackTo, cX1_takeBackTo, 3, none, 1)
def bm_X7_keptIn : bw_M := (7, yX7_keptIn, cX7_keptIn, 3, (some (.object "BearWitness$Court")), 1)
def bm_X1_answerOf : bw_M := (1, yX1_answerOf, cX1_answerOf, 3, (some .int), 2)
def bm_X1_isSet : bw_M := (1, yX1_isSet, cX1_isSet, 2, (some .boolean), 1)
def bm_X5_hear : bw_M := (5, yX5_hear, cX5_hear, 7, none, 1)
def bm_X5_tiedBy : bw_M := (5, yX5_tiedBy, cX5_tiedBy, 4, (some .int), 1)
def bm_X5_shownBy : bw_M := (5, yX5_shownBy, cX5_shownBy, 4, (some .int), 1)
def bm_X1_allBears : bw_M := (1, yX1_allBears, cX1_allBears, 1, (some .int), 0)
def bm_X6_open : bw_M := (6, yX6_open, cX6_open, 6, none, 3)
def bm_X6_fewestPresses : bw_M := (6, yX6_fewestPresses, cX6_fewestPresses, 2, (some .int), 0)
def bm_X5_toldBy : bw_M := (5, yX5_toldBy, cX5_toldBy, 4, (some .int), 1)
def bm_X5_clash : bw_M := (5, yX5_clash, cX5_clash, 3, (some .int), 2)
def bm_X5_hasRivals : bw_M := (5, yX5_hasRivals, cX5_hasRivals, 5, (some .boolean), 1)
def bm_X7_readLooks : bw_M := (7, yX7_readLooks, cX7_readLooks, 3, (some .int), 1)
def bm_X2_fittingSets : bw_M := (2, yX2_fittingSets, cX2_fittingSets, 8, (some .long), 1)
def bm_X7_tellPart : bw_M := (7, yX7_tellPart, cX7_tellPart, 7, none, 2)
def bm_X7_greatestPart : bw_M := (7, yX7_greatestPart, cX7_greatestPart, 8, (some .int), 3)
def bm_X2_fitKind : bw_M := (2, yX2_fitKind, cX2_fitKind, 5, (some .boolean), 3)
def bm_X2_whoSpoke : bw_M := (2, yX2_whoSpoke, cX2_whoSpoke, 3, (some .int), 0)
def bm_X2_whoKeptBack : bw_M := (2, yX2_whoKeptBack, cX2_whoKeptBack, 6, (some .int), 1)
def bm_X6_playOut : bw_M := (6, yX6_playOut, cX6_playOut, 7, (some .int), 1)
def bm_X7_weightOf : bw_M := (7, yX7_weightOf, cX7_weightOf, 6, (some .long), 2)
def bm_X7_allWeight : bw_M := (7, yX7_allWeight, cX7_allWeight, 4, (some .long), 0)
def bm_X1_canBe : bw_M := (1, yX1_canBe, cX1_canBe, 3, (some .boolean), 2)
def bm_X1_commit : bw_M := (1, yX1_commit, cX1_commit, 3, none, 2)
def bm_X7_shownByAll : bw_M := (7, yX7_shownByAll, cX7_shownByAll, 1, (some .int), 0)
def bm_X0_sum : bw_M := (0, yX0_sum, cX0_sum, 4, (some .int), 1)
def bm_X1_thoseOfKind : bw_M := (1, yX1_thoseOfKind, cX1_thoseOfKind, 4, (some .int), 1)
def bm_X4_thoseThere : bw_M := (4, yX4_thoseThere, cX4_thoseThere, 3, (some .int), 0)
def bm_X7_keptCourts : bw_M := (7, yX7_keptCourts, cX7_keptCourts, 3, (some .int), 0)
def bm_X7_count : bw_M := (7, yX7_count, cX7_count, 2, (some .int), 1)
def bm_X4_digestFrom : bw_M := (4, yX4_digestFrom, cX4_digestFrom, 5, (some .long), 1)
def bm_X0_set : bw_M := (0, yX0_set, cX0_set, 3, none, 2)
def bm_X4_hasPlace : bw_M := (4, yX4_hasPlace, cX4_hasPlace, 3, (some .boolean), 2)
def bm_X1_toldOf : bw_M := (1, yX1_toldOf, cX1_toldOf, 4, (some .int), 3)
def bm_X1_clear : bw_M := (1, yX1_clear, cX1_clear, 1, none, 0)
def bm_X2_readFrom : bw_M := (2, yX2_readFrom, cX2_readFrom, 8, (some .int), 3)
def bm_X1_answerIf : bw_M := (1, yX1_answerIf, cX1_answerIf, 7, (some .int), 4)
def bm_X1_onesOf : bw_M := (1, yX1_onesOf, cX1_onesOf, 4, (some .int), 4)
def bm_X0_take : bw_M := (0, yX0_take, cX0_take, 3, none, 1)
def bm_X1_change : bw_M := (1, yX1_change, cX1_change, 4, none, 3)
def bm_X1_seenBy : bw_M := (1, yX1_seenBy, cX1_seenBy, 5, (some .int), 3)
def bm_X2_fits : bw_M := (2, yX2_fits, cX2_fits, 5, (some .boolean), 4)
def bm_X3_kindOfLetter : bw_M := (3, yX3_kindOfLetter, cX3_kindOfLetter, 1, (some .int), 1)
def bm_X3_open : bw_M := (3, yX3_open, cX3_open, 4, none, 2)
def bm_X3_skipBlanks : bw_M := (3, yX3_skipBlanks, cX3_skipBlanks, 1, none, 0)
def bm_X3_byteHere : bw_M := (3, yX3_byteHere, cX3_byteHere, 1, (some .int), 0)
def bm_X3_twoFigures : bw_M := (3, yX3_twoFigures, cX3_twoFigures, 4, (some .int), 0)
def bm_X3_readBear : bw_M := (3, yX3_readBear, cX3_readBear, 6, none, 1)
def bm_X3_fail : bw_M := (3, yX3_fail, cX3_fail, 2, none, 1)
def bm_X3_oneFigure : bw_M := (3, yX3_oneFigure, cX3_oneFigure, 3, (some .int), 1)
def bm_X1_seat : bw_M := (1, yX1_seat, cX1_seat, 5, none, 4)
def bm_X0_move : bw_M := (0, yX0_move, cX0_move, 4, none, 3)
def bm_X5_balance : bw_M := (5, yX5_balance, cX5_balance, 5, (some .int), 2)
def bm_X6_worthIf : bw_M := (6, yX6_worthIf, cX6_worthIf, 6, (some .int), 4)
def bm_X6_worthNow : bw_M := (6, yX6_worthNow, cX6_worthNow, 2, (some .int), 1)
def bm_X6_pressOn : bw_M := (6, yX6_pressOn, cX6_pressOn, 6, (some .boolean), 3)
def bm_X6_canWear : bw_M := (6, yX6_canWear, cX6_canWear, 4, (some .boolean), 2)
def bm_X6_wearBy : bw_M := (6, yX6_wearBy, cX6_wearBy, 3, none, 2)
def bm_X7_init : bw_M := (7, yX7_init, cX7_init, 1, none, 0)
def bm_X8_init : bw_M := (8, yX8_init, cX8_init, 2, none, 0)
def bm_X7_row : bw_M := (7, yX7_row, cX7_row, 3, (some .int), 2)
def bm_X8_row : bw_M := (8, yX8_row, cX8_row, 4, (some .int), 2)
def bm_X7_lay : bw_M := (7, yX7_lay, cX7_lay, 5, (some .int), 3)
def bm_X8_lay : bw_M := (8, yX8_lay, cX8_lay, 5, (some .int), 3)
def bm_X7_at : bw_M := (7, yX7_at, cX7_at, 4, (some .int), 2)
def bm_X8_at : bw_M := (8, yX8_at, cX8_at, 3, (some .int), 2)
def bm_X7_tear : bw_M := (7, yX7_tear, cX7_tear, 2, (some .int), 1)
def bm_X8_tear : bw_M := (8, yX8_tear, cX8_tear, 2, (some .int), 1)
def bm_X7_copy : bw_M := (7, yX7_copy, cX7_copy, 6, (some .int), 5)
def bm_X8_copy : bw_M := (8, yX8_copy, cX8_copy, 7, (some .int), 5)
def bm_X7_mean : bw_M := (7, yX7_mean, cX7_mean, 3, (some .int), 1)
def bm_X8_mean : bw_M := (8, yX8_mean, cX8_mean, 5, (some .int), 1)
def bm_X7_text : bw_M := (7, yX7_text, cX7_text, 3, (some .int), 2)
def bm_X8_text : bw_M := (8, yX8_text, cX8_text, 4, (some .int), 2)
def bm_X7_put : bw_M := (7, yX7_put, cX7_put, 6, (some .int), 3)
def bm_X8_put : bw_M := (8, yX8_put, cX8_put, 6, (some .int), 3)
def bm_X7_fault : bw_M := (7, yX7_fault, cX7_fault, 2, (some .int), 1)
def bm_X8_fault : bw_M := (8, yX8_fault, cX8_fault, 2, (some .int), 1)
def bm_X7_court : bw_M := (7, yX7_court, cX7_court, 3, (some .int), 1)
def bm_X8_court : bw_M := (8, yX8_court, cX8_court, 3, (some .int), 1)
def bm_X7_bear : bw_M := (7, yX7_bear, cX7_bear, 3, (some .int), 2)
def bm_X8_bear : bw_M := (8, yX8_bear, cX8_bear, 3, (some .int), 2)
def bm_X7_mark : bw_M := (7, yX7_mark, cX7_mark, 3, (some .int), 2)
def bm_X8_mark : bw_M := (8, yX8_mark, cX8_mark, 4, (some .int), 2)
def bm_X7_press : bw_M := (7, yX7_press, cX7_press, 2, (some .int), 1)
def bm_X8_press : bw_M := (8, yX8_press, cX8_press, 3, (some .int), 1)
def bm_X7_mend : bw_M := (7, yX7_mend, cX7_mend, 2, (some .int), 1)
def bm_X8_mend : bw_M := (8, yX8_mend, cX8_mend, 3, (some .int), 1)
def bm_X7_eye : bw_M := (7, yX7_eye, cX7_eye, 2, (some .int), 1)
def bm_X8_eye : bw_M := (8, yX8_eye, cX8_eye, 3, (some .int), 1)
def bm_X7_turn : bw_M := (7, yX7_turn, cX7_turn, 2, (some .int), 1)
def bm_X8_turn : bw_M := (8, yX8_turn, cX8_turn, 3, (some .int), 1)
def bm_X7_undo : bw_M := (7, yX7_undo, cX7_undo, 3, (some .int), 1)
def bm_X8_undo : bw_M := (8, yX8_undo, cX8_undo, 4, (some .int), 1)
def bm_X7_keep : bw_M := (7, yX7_keep, cX7_keep, 3, (some .int), 1)
def bm_X8_keep : bw_M := (8, yX8_keep, cX8_keep, 3, (some .int), 1)
def bm_X7_on : bw_M := (7, yX7_on, cX7_on, 3, (some .int), 1)
def bm_X8_on : bw_M := (8, yX8_on, cX8_on, 3, (some .int), 1)
def bm_X7_tells : bw_M := (7, yX7_tells, cX7_tells, 3, (some .int), 2)
def bm_X8_tells : bw_M := (8, yX8_tells, cX8_tells, 3, (some .int), 2)
def bm_X7_shown : bw_M := (7, yX7_shown, cX7_shown, 2, (some .int), 1)
def bm_X8_shown : bw_M := (8, yX8_shown, cX8_shown, 6, (some .int), 1)
def bm_X7_call : bw_M := (7, yX7_call, cX7_call, 7, (some .int), 1)
def bm_X8_call : bw_M := (8, yX8_call, cX8_call, 6, (some .int), 1)
def bm_X7_shake : bw_M := (7, yX7_shake, cX7_shake, 6, (some .int), 3)
def bm_X8_shake : bw_M := (8, yX8_shake, cX8_shake, 8, (some .int), 3)
def bm_X7_cover : bw_M := (7, yX7_cover, cX7_cover, 5, (some .int), 1)
def bm_X8_cover : bw_M := (8, yX8_cover, cX8_cover, 6, (some .int), 1)
def bm_X7_rivals : bw_M := (7, yX7_rivals, cX7_rivals, 3, (some .int), 2)
def bm_X8_rivals : bw_M := (8, yX8_rivals, cX8_rivals, 3, (some .int), 2)
def bm_X7_apart : bw_M := (7, yX7_apart, cX7_apart, 4, (some .int), 0)
def bm_X8_apart : bw_M := (8, yX8_apart, cX8_apart, 6, (some .int), 0)
def bm_X7_truths : bw_M := (7, yX7_truths, cX7_truths, 5, (some .int), 1)
def bm_X8_truths : bw_M := (8, yX8_truths, cX8_truths, 6, (some .int), 1)
def bm_X7_sure : bw_M := (7, yX7_sure, cX7_sure, 8, (some .int), 1)
def bm_X8_sure : bw_M := (8, yX8_sure, cX8_sure, 6, (some .int), 1)
def bm_X7_next : bw_M := (7, yX7_next, cX7_next, 10, (some .int), 1)
def bm_X8_next : bw_M := (8, yX8_next, cX8_next, 8, (some .int), 1)
def bm_X7_kinds : bw_M := (7, yX7_kinds, cX7_kinds, 6, (some .int), 2)
def bm_X8_kinds : bw_M := (8, yX8_kinds, cX8_kinds, 10, (some .int), 2)
def bm_X7_walls : bw_M := (7, yX7_walls, cX7_walls, 4, (some .int), 1)
def bm_X8_walls : bw_M := (8, yX8_walls, cX8_walls, 7, (some .int), 1)
def bm_X7_duel : bw_M := (7, yX7_duel, cX7_duel, 3, (some .int), 2)
def bm_X8_duel : bw_M := (8, yX8_duel, cX8_duel, 8, (some .int), 2)
def bm_X7_odds : bw_M := (7, yX7_odds, cX7_odds, 6, (some .int), 2)
def bm_X8_odds : bw_M := (8, yX8_odds, cX8_odds, 3, (some .int), 2)
def bm_X7_mid : bw_M := (7, yX7_mid, cX7_mid, 5, (some .int), 1)
def bm_X8_mid : bw_M := (8, yX8_mid, cX8_mid, 2, (some .int), 1)
def bm_X7_lots : bw_M := (7, yX7_lots, cX7_lots, 9, (some .int), 2)
def bm_X8_lots : bw_M := (8, yX8_lots, cX8_lots, 8, (some .int), 2)
def bm_X7_asked : bw_M := (7, yX7_asked, cX7_asked, 1, (some .int), 0)
def bm_X8_asked : bw_M := (8, yX8_asked, cX8_asked, 1, (some .int), 0)
def bm_X7_upper : bw_M := (7, yX7_upper, cX7_upper, 1, (some .long), 0)
def bm_X8_upper : bw_M := (8, yX8_upper, cX8_upper, 1, (some .long), 0)
def bm_X7_lower : bw_M := (7, yX7_lower, cX7_lower, 1, (some .long), 0)
def bm_X8_lower : bw_M := (8, yX8_lower, cX8_lower, 1, (some .long), 0)
def bm_X8_count : bw_M := (8, yX8_count, cX8_count, 2, (some .int), 1)
def bm_X7_finding : bw_M := (7, yX7_finding, cX7_finding, 1, (some .int), 0)
def bm_X8_finding : bw_M := (8, yX8_finding, cX8_finding, 1, (some .int), 0)
def bm_X7_findings : bw_M := (7, yX7_findings, cX7_findings, 2, (some .int), 1)
def bm_X8_findings : bw_M := (8, yX8_findings, cX8_findings, 2, (some .int), 1)
def bm_X7_digest : bw_M := (7, yX7_digest, cX7_digest, 5, (some .long), 0)
def bm_X8_digest : bw_M := (8, yX8_digest, cX8_digest, 5, (some .long), 0)
def bm_X8_in : bw_M := (8, yX8_in, cX8_in, 6, (some .boolean), 3)
def bm_X8_isRow : bw_M := (8, yX8_isRow, cX8_isRow, 1, (some .boolean), 1)
def bm_X8_isText : bw_M := (8, yX8_isText, cX8_isText, 1, (some .boolean), 1)
def bm_X8_kindBy : bw_M := (8, yX8_kindBy, cX8_kindBy, 1, (some .int), 1)
def bm_X8_begin : bw_M := (8, yX8_begin, cX8_begin, 2, none, 1)
def bm_X8_has : bw_M := (8, yX8_has, cX8_has, 2, (some .boolean), 2)
def bm_X8_seesAs : bw_M := (8, yX8_seesAs, cX8_seesAs, 7, (some .boolean), 5)
def bm_X8_tellsAs : bw_M := (8, yX8_tellsAs, cX8_tellsAs, 7, (some .int), 6)
def bm_X8_isOf : bw_M := (8, yX8_isOf, cX8_isOf, 2, (some .boolean), 2)
def bm_X8_bits : bw_M := (8, yX8_bits, cX8_bits, 3, (some .int), 1)
def bm_X8_goDeed : bw_M := (8, yX8_goDeed, cX8_goDeed, 3, none, 2)
def bm_X8_may : bw_M := (8, yX8_may, cX8_may, 3, (some .boolean), 2)
def bm_X8_isShelf : bw_M := (8, yX8_isShelf, cX8_isShelf, 1, (some .boolean), 1)
def bm_X8_isThing : bw_M := (8, yX8_isThing, cX8_isThing, 1, (some .boolean), 1)
def bm_X8_pairOf : bw_M := (8, yX8_pairOf, cX8_pairOf, 1, (some .int), 1)
def bm_X8_startOf : bw_M := (8, yX8_startOf, cX8_startOf, 1, (some .int), 1)
def bm_X8_manyThere : bw_M := (8, yX8_manyThere, cX8_manyThere, 4, (some .int), 2)
def bm_X8_finds : bw_M := (8, yX8_finds, cX8_finds, 2, (some .int), 1)
def bm_X8_asks : bw_M := (8, yX8_asks, cX8_asks, 2, (some .int), 1)
def bm_X8_here : bw_M := (8, yX8_here, cX8_here, 2, (some .int), 1)
def bm_X8_takes : bw_M := (8, yX8_takes, cX8_takes, 5, (some .boolean), 3)
def bm_X8_skip : bw_M := (8, yX8_skip, cX8_skip, 2, none, 1)
def bm_X8_takesSet : bw_M := (8, yX8_takesSet, cX8_takesSet, 5, (some .boolean), 2)
def bm_X8_takesFirst : bw_M := (8, yX8_takesFirst, cX8_takesFirst, 2, (some .boolean), 1)
def bm_X8_takesBear : bw_M := (8, yX8_takesBear, cX8_takesBear, 4, (some .boolean), 1)
def bm_X8_faultOf : bw_M := (8, yX8_faultOf, cX8_faultOf, 3, (some .int), 1)
def bm_X8_sayOf : bw_M := (8, yX8_sayOf, cX8_sayOf, 5, (some .int), 4)
def bm_X8_tellOf : bw_M := (8, yX8_tellOf, cX8_tellOf, 5, (some .int), 4)
def bm_X8_tellNow : bw_M := (8, yX8_tellNow, cX8_tellNow, 3, (some .int), 2)
def bm_X8_balance : bw_M := (8, yX8_balance, cX8_balance, 7, (some .int), 3)
def bm_X8_toldThings : bw_M := (8, yX8_toldThings, cX8_toldThings, 4, (some .int), 1)
def bm_X8_isBear : bw_M := (8, yX8_isBear, cX8_isBear, 2, (some .boolean), 1)
def bm_X8_toldOf : bw_M := (8, yX8_toldOf, cX8_toldOf, 3, (some .int), 2)
def bm_X8_seesBeyond : bw_M := (8, yX8_seesBeyond, cX8_seesBeyond, 5, (some .int), 2)
def bm_X8_does : bw_M := (8, yX8_does, cX8_does, 2, none, 1)
def bm_X8_doesTo : bw_M := (8, yX8_doesTo, cX8_doesTo, 3, (some .int), 2)
def bm_X8_allBears : bw_M := (8, yX8_allBears, cX8_allBears, 1, (some .int), 0)
def bm_X8_shownBy : bw_M := (8, yX8_shownBy, cX8_shownBy, 4, (some .int), 1)
def bm_X8_layHand : bw_M := (8, yX8_layHand, cX8_layHand, 2, none, 0)
def bm_X8_goes : bw_M := (8, yX8_goes, cX8_goes, 8, (some .boolean), 4)
def bm_X8_rivalThings : bw_M := (8, yX8_rivalThings, cX8_rivalThings, 7, (some .int), 2)
def bm_X8_refusesPairs : bw_M := (8, yX8_refusesPairs, cX8_refusesPairs, 4, (some .int), 1)
def bm_X8_refusesLooks : bw_M := (8, yX8_refusesLooks, cX8_refusesLooks, 2, (some .int), 1)
def bm_X8_isTruth : bw_M := (8, yX8_isTruth, cX8_isTruth, 6, (some .boolean), 2)
def bm_X8_goChoices : bw_M := (8, yX8_goChoices, cX8_goChoices, 6, (some .int), 2)
def bm_X8_weigh : bw_M := (8, yX8_weigh, cX8_weigh, 4, none, 2)
def bm_X8_fraction : bw_M := (8, yX8_fraction, cX8_fraction, 11, none, 2)
def bm_X8_goOdds : bw_M := (8, yX8_goOdds, cX8_goOdds, 11, none, 2)
def bm_X8_sumOf : bw_M := (8, yX8_sumOf, cX8_sumOf, 4, (some .int), 1)
def bm_X8_manyOf : bw_M := (8, yX8_manyOf, cX8_manyOf, 4, (some .int), 1)
def bm_X8_counted : bw_M := (8, yX8_counted, cX8_counted, 2, (some .int), 1)
def bw_FT : List (Nat × Nat × Nat × Nat × Bool × Nat) := [(0, 7, 0, 0, false, 142), (1, 9, 1, 0, false, 172), (1, 15, 1, 1, false, 177), (1, 18, 1, 2, false, 183), (1, 21, 1, 3, false, 185), (1, 29, 1, 4, false, 187), (1, 33, 1, 5, false, 192), (1, 36, 1, 6, false, 194), (1, 39, 1, 7, false, 199), (1, 42, 1, 8, false, 201), (1, 45, 1, 9, false, 202), (2, 9, 2, 0, false, 254), (2, 20, 2, 1, false, 255), (2, 24, 2, 2, false, 256), (2, 27, 2, 3, false, 257), (2, 62, 1, 4, true, 190), (2, 73, 1, 1, true, 181), (2, 76, 1, 6, true, 197), (3, 14, 3, 0, false, 233), (3, 20, 3, 1, false, 234), (3, 24, 3, 2, false, 235), (3, 27, 3, 3, false, 236), (3, 49, 1, 1, true, 178), (3, 70, 1, 0, true, 175), (4, 7, 4, 0, false, 151), (4, 13, 4, 1, false, 152), (4, 21, 4, 2, false, 153), (4, 25, 4, 3, false, 154), (5, 9, 5, 0, false, 275), (5, 20, 5, 1, false, 276), (5, 24, 5, 2, false, 277), (5, 27, 1, 0, true, 173), (5, 30, 1, 4, true, 188), (5, 37, 1, 6, true, 195), (5, 44, 1, 1, true, 179), (6, 9, 6, 0, false, 293), (6, 15, 6, 1, false, 294), (6, 18, 6, 2, false, 295), (6, 26, 6, 3, false, 296), (6, 30, 6, 4, false, 297), (6, 33, 6, 5, false, 298), (6, 36, 1, 0, true, 174), (6, 39, 1, 6, true, 196), (6, 59, 1, 4, true, 189), (6, 66, 1, 1, true, 180), (7, 14, 7, 0, false, 315), (7, 18, 7, 1, false, 316), (7, 24, 7, 2, false, 317), (7, 28, 7, 3, false, 318), (7, 31, 7, 4, false, 319), (7, 38, 7, 5, false, 320), (7, 45, 7, 6, false, 321), (7, 52, 7, 7, false, 322), (7, 59, 7, 8, false, 323), (7, 68, 7, 9, false, 324), (7, 72, 7, 10, false, 325), (7, 76, 7, 11, false, 326), (7, 79, 7, 12, false, 327), (7, 83, 7, 13, false, 328), (7, 141, 1, 0, true, 176), (7, 150, 1, 4, true, 191), (7, 165, 1, 3, true, 186), (7, 212, 6, 5, true, 299), (7, 299, 1, 1, true, 182), (7, 302, 1, 2, true, 184), (7, 305, 1, 6, true, 198), (7, 311, 1, 5, true, 193), (7, 339, 1, 7, true, 200), (8, 7, 8, 0, false, 942), (8, 13, 8, 1, false, 943), (8, 16, 8, 2, false, 944), (8, 20, 8, 3, false, 945), (8, 23, 8, 4, false, 946), (8, 26, 8, 5, false, 947), (8, 29, 8, 6, false, 948), (8, 32, 8, 7, false, 949), (8, 35, 8, 11, false, 953), (8, 39, 8, 12, false, 954), (8, 42, 8, 13, false, 955), (8, 45, 8, 15, false, 957), (8, 48, 8, 16, false, 958), (8, 51, 8, 17, false, 959), (8, 54, 8, 18, false, 960), (8, 57, 8, 19, false, 961), (8, 60, 8, 8, false, 950), (8, 64, 8, 9, false, 951), (8, 93, 8, 14, false, 956), (8, 228, 8, 10, false, 952)]
def bw_fl (o ix : Nat) : Option (Nat × Nat) := (bw_FT.find? (fun e => e.1 == o && e.2.1 == ix)).map (fun e => (e.2.2.1, e.2.2.2.1))
def bw_MT : List (Nat × Nat × Nat × bw_M × Nat × Nat × Nat × Nat × Nat) := [(0, 13, 2, bm_X0_get, 523, 372, 3, 111, 373),
  (1, 26, 5, bm_X0_init, 171, 139, 0, 111, 140),
  (1, 48, 3, bm_X0_take, 519, 521, 26, 111, 522),
  (1, 52, 3, bm_X0_set, 510, 149, 0, 111, 150),
  (1, 56, 2, bm_X1_allBears, 654, 656, 42, 112, 657),
  (1, 60, 3, bm_X0_get, 557, 372, 3, 111, 373),
  (1, 64, 1, bm_X7_isOfKind, 558, 559, 0, 109, 560),
  (1, 68, 2, bm_X1_change, 595, 597, 37, 112, 598),
  (1, 72, 1, bm_X7_isIn, 552, 546, 0, 109, 547),
  (1, 75, 2, bm_X1_seenBy, 553, 555, 32, 112, 556),
  (1, 79, 2, bm_X1_toldOf, 642, 550, 31, 112, 551),
  (1, 82, 0, bm_X1_onesOf, 643, 644, 0, 112, 645),
  (1, 86, 2, bm_X1_answerIf, 638, 640, 40, 112, 641),
  (1, 89, 0, bm_J6_bitCount_0f7a4, 570, 571, 0, 119, 572),
  (2, 17, 5, bm_X0_init, 253, 139, 0, 111, 140),
  (2, 34, 3, bm_X4_has, 761, 389, 5, 110, 390),
  (2, 40, 3, bm_X4_sizeOf, 762, 393, 6, 110, 394),
  (2, 44, 3, bm_X4_get, 763, 402, 8, 110, 403),
  (2, 48, 3, bm_X0_set, 764, 149, 0, 111, 150),
  (2, 52, 3, bm_X0_get, 770, 372, 3, 111, 373),
  (2, 54, 3, bm_X1_answerIf, 780, 640, 40, 112, 641),
  (2, 65, 0, bm_X2_setsWith, 771, 772, 0, 114, 773),
  (2, 69, 2, bm_X2_fits, 776, 778, 59, 114, 779),
  (2, 79, 3, bm_X1_seenBy, 833, 555, 32, 112, 556),
  (2, 83, 1, bm_X7_isIn, 834, 546, 0, 109, 547),
  (3, 11, 5, bm_X0_init, 232, 139, 0, 111, 140),
  (3, 30, 2, bm_X3_open, 467, 469, 16, 113, 470),
  (3, 34, 3, bm_X1_clear, 474, 476, 17, 112, 477),
  (3, 39, 2, bm_X3_skipBlanks, 478, 480, 18, 113, 481),
  (3, 42, 2, bm_X3_byteHere, 483, 485, 19, 113, 486),
  (3, 46, 2, bm_X3_twoFigures, 487, 489, 20, 113, 490),
  (3, 52, 2, bm_X3_readBear, 499, 501, 23, 113, 502),
  (3, 56, 3, bm_X4_sizeOf, 471, 393, 6, 110, 394),
  (3, 62, 3, bm_X4_get, 472, 402, 8, 110, 403),
  (3, 66, 3, bm_X0_set, 473, 149, 0, 111, 150),
  (3, 73, 0, bm_X3_kindOfLetter, 503, 504, 0, 113, 505),
  (3, 76, 2, bm_X3_fail, 495, 497, 22, 113, 498),
  (3, 79, 2, bm_X3_oneFigure, 491, 493, 21, 113, 494),
  (3, 82, 3, bm_X1_seat, 506, 508, 24, 112, 509),
  (3, 86, 3, bm_X0_get, 482, 372, 3, 111, 373),
  (4, 18, 5, bm_X0_init, 138, 139, 0, 111, 140),
  (4, 28, 3, bm_X0_set, 147, 149, 0, 111, 150),
  (4, 32, 2, bm_X4_isNumber, 379, 364, 1, 110, 365),
  (4, 36, 3, bm_X0_get, 395, 372, 3, 111, 373),
  (4, 40, 2, bm_X4_sizeOf, 391, 393, 6, 110, 394),
  (4, 43, 2, bm_X4_hasPlace, 404, 398, 7, 110, 399),
  (4, 47, 2, bm_X4_hasSpan, 433, 427, 11, 110, 428),
  (4, 51, 3, bm_X0_move, 434, 436, 13, 111, 437),
  (4, 55, 2, bm_X4_get, 450, 402, 8, 110, 403),
  (4, 58, 2, bm_X4_has, 911, 389, 5, 110, 390),
  (5, 17, 5, bm_X0_init, 274, 139, 0, 111, 140),
  (5, 33, 3, bm_X0_get, 662, 372, 3, 111, 373),
  (5, 40, 3, bm_X1_toldOf, 663, 550, 31, 112, 551),
  (5, 47, 1, bm_X1_onesOf, 664, 644, 0, 112, 645),
  (5, 51, 3, bm_X0_set, 665, 149, 0, 111, 150),
  (5, 55, 1, bm_X7_isIn, 674, 546, 0, 109, 547),
  (5, 59, 2, bm_X5_balance, 670, 672, 45, 115, 673),
  (5, 63, 2, bm_X5_toldBy, 675, 677, 46, 115, 678),
  (6, 23, 5, bm_X0_init, 292, 139, 0, 111, 140),
  (6, 40, 3, bm_X0_get, 697, 372, 3, 111, 373),
  (6, 44, 3, bm_X0_set, 698, 149, 0, 111, 150),
  (6, 48, 1, bm_X7_isIn, 699, 546, 0, 109, 547),
  (6, 52, 0, bm_X6_worthIf, 700, 701, 0, 116, 702),
  (6, 56, 2, bm_X6_worthNow, 705, 707, 49, 116, 708),
  (6, 62, 3, bm_X1_toldOf, 703, 550, 31, 112, 551),
  (6, 69, 1, bm_X1_onesOf, 704, 644, 0, 112, 645),
  (6, 73, 2, bm_X6_pressOn, 713, 715, 51, 116, 716),
  (6, 77, 2, bm_X6_canWear, 717, 719, 52, 116, 720),
  (6, 80, 2, bm_X6_wearBy, 721, 723, 53, 116, 724),
  (6, 83, 2, bm_X6_playOut, 843, 841, 65, 116, 842),
  (7, 11, 5, bm_X4_init, 132, 133, 0, 110, 134),
  (7, 23, 5, bm_X1_init, 166, 167, 0, 112, 168),
  (7, 37, 5, bm_X3_init, 227, 228, 0, 113, 229),
  (7, 44, 5, bm_X2_init, 248, 249, 0, 114, 250),
  (7, 51, 5, bm_X5_init, 269, 270, 0, 115, 271),
  (7, 58, 5, bm_X6_init, 287, 288, 0, 116, 289),
  (7, 65, 5, bm_X0_init, 314, 139, 0, 111, 140),
  (7, 86, 3, bm_X4_isNumber, 362, 364, 1, 110, 365),
  (7, 90, 2, bm_X7_found, 366, 368, 2, 109, 369),
  (7, 94, 3, bm_X4_make, 375, 377, 4, 110, 378),
  (7, 98, 0, bm_X7_missingPlace, 384, 385, 0, 109, 386),
  (7, 102, 3, bm_X4_get, 400, 402, 8, 110, 403),
  (7, 106, 3, bm_X4_set, 405, 407, 9, 110, 408),
  (7, 109, 3, bm_X4_has, 387, 389, 5, 110, 390),
  (7, 112, 3, bm_X4_drop, 417, 419, 10, 110, 420),
  (7, 115, 3, bm_X4_hasSpan, 425, 427, 11, 110, 428),
  (7, 119, 3, bm_X4_move, 429, 431, 12, 110, 432),
  (7, 123, 3, bm_X4_sizeOf, 445, 393, 6, 110, 394),
  (7, 126, 3, bm_X4_sumOf, 446, 448, 14, 110, 449),
  (7, 130, 3, bm_X3_readInto, 463, 465, 15, 113, 466),
  (7, 134, 3, bm_X1_take, 515, 517, 25, 112, 518),
  (7, 138, 2, bm_X7_forgetKept, 524, 526, 27, 109, 527),
  (7, 144, 3, bm_X1_hasBear, 537, 539, 29, 112, 540),
  (7, 147, 2, bm_X7_ofBear, 541, 543, 30, 109, 544),
  (7, 153, 3, bm_X0_get, 370, 372, 3, 111, 373),
  (7, 155, 0, bm_X7_isOfKind, 565, 559, 0, 109, 560),
  (7, 159, 3, bm_X1_markOf, 566, 568, 33, 112, 569),
  (7, 162, 2, bm_X7_answerDeed, 583, 585, 34, 109, 586),
  (7, 168, 3, bm_X1_takeBackTo, 615, 617, 38, 112, 618),
  (7, 171, 2, bm_X7_keptIn, 528, 530, 28, 109, 531),
  (7, 175, 0, bm_X7_isThing, 631, 632, 0, 109, 633),
  (7, 178, 3, bm_X1_answerOf, 634, 636, 39, 112, 637),
  (7, 181, 3, bm_X1_isSet, 650, 652, 41, 112, 653),
  (7, 184, 3, bm_X5_hear, 658, 660, 43, 115, 661),
  (7, 187, 3, bm_X5_tiedBy, 666, 668, 44, 115, 669),
  (7, 190, 3, bm_X5_shownBy, 679, 681, 47, 115, 682),
  (7, 193, 3, bm_X1_allBears, 687, 656, 42, 112, 657),
  (7, 197, 0, bm_J6_bitCount_0f7a4, 688, 571, 0, 119, 572),
  (7, 202, 0, bm_X7_isIn, 545, 546, 0, 109, 547),
  (7, 205, 3, bm_X6_open, 693, 695, 48, 116, 696),
  (7, 209, 3, bm_X6_fewestPresses, 709, 711, 50, 116, 712),
  (7, 215, 3, bm_X5_toldBy, 729, 677, 46, 115, 678),
  (7, 218, 0, bm_X7_isFewer, 730, 731, 0, 109, 732),
  (7, 221, 3, bm_X5_clash, 737, 739, 54, 115, 740),
  (7, 224, 3, bm_X5_hasRivals, 745, 747, 55, 115, 748),
  (7, 227, 2, bm_X7_readLooks, 753, 755, 56, 109, 756),
  (7, 230, 3, bm_X2_fittingSets, 765, 767, 58, 114, 768),
  (7, 234, 0, bm_X7_leastOf, 781, 782, 0, 109, 783),
  (7, 238, 0, bm_J13_bitCount_95d88, 784, 785, 0, 121, 786),
  (7, 242, 2, bm_X7_tellPart, 790, 792, 60, 109, 793),
  (7, 246, 1, bm_X2_setsWith, 801, 772, 0, 114, 773),
  (7, 251, 2, bm_X7_greatestPart, 807, 809, 61, 109, 810),
  (7, 255, 3, bm_X2_fitKind, 817, 819, 62, 114, 820),
  (7, 259, 3, bm_X2_whoSpoke, 825, 827, 63, 114, 828),
  (7, 262, 3, bm_X2_whoKeptBack, 829, 831, 64, 114, 832),
  (7, 266, 3, bm_X6_playOut, 839, 841, 65, 116, 842),
  (7, 269, 0, bm_X7_isChance, 852, 853, 0, 109, 854),
  (7, 272, 2, bm_X7_weightOf, 855, 857, 66, 109, 858),
  (7, 276, 2, bm_X7_allWeight, 859, 861, 67, 109, 862),
  (7, 287, 0, bm_X7_actOfLot, 876, 877, 0, 109, 878),
  (7, 290, 3, bm_X1_canBe, 587, 589, 35, 112, 590),
  (7, 293, 3, bm_X1_commit, 591, 593, 36, 112, 594),
  (7, 296, 2, bm_X7_shownByAll, 879, 881, 68, 109, 882),
  (7, 308, 3, bm_X0_sum, 899, 901, 69, 111, 902),
  (7, 314, 3, bm_X1_thoseOfKind, 903, 905, 70, 112, 906),
  (7, 317, 3, bm_X4_thoseThere, 907, 909, 71, 110, 910),
  (7, 320, 2, bm_X7_keptCourts, 912, 914, 72, 109, 915),
  (7, 327, 2, bm_X7_count, 930, 896, 897, 109, 898),
  (7, 330, 3, bm_X4_digestFrom, 931, 933, 73, 110, 934),
  (7, 334, 3, bm_X0_set, 374, 149, 0, 111, 150),
  (7, 336, 3, bm_X4_hasPlace, 396, 398, 7, 110, 399),
  (7, 342, 3, bm_X1_toldOf, 548, 550, 31, 112, 551),
  (7, 346, 3, bm_X1_clear, 532, 476, 17, 112, 477),
  (7, 349, 3, bm_X2_readFrom, 757, 759, 57, 114, 760),
  (7, 352, 3, bm_X1_answerIf, 811, 640, 40, 112, 641),
  (7, 363, 0, bm_X7_commonDivisor, 794, 795, 0, 109, 796),
  (8, 69, 0, bm_X8_in, 1012, 1013, 0, 117, 1014),
  (8, 75, 0, bm_X8_isRow, 1008, 1009, 0, 117, 1010),
  (8, 79, 2, bm_X8_finds, 1015, 1017, 74, 117, 1018),
  (8, 83, 2, bm_X8_at, 1023, 1024, 1025, 117, 1026),
  (8, 87, 2, bm_X8_asks, 1027, 1029, 75, 117, 1030),
  (8, 90, 0, bm_X8_isText, 1048, 1049, 0, 117, 1050),
  (8, 96, 2, bm_X8_here, 1072, 1074, 79, 117, 1075),
  (8, 101, 2, bm_X8_takes, 1080, 1082, 81, 117, 1083),
  (8, 105, 2, bm_X8_skip, 1068, 1070, 78, 117, 1071),
  (8, 109, 2, bm_X8_takesSet, 1076, 1078, 80, 117, 1079),
  (8, 113, 0, bm_X8_kindBy, 1089, 1090, 0, 117, 1091),
  (8, 116, 2, bm_X8_takesFirst, 1064, 1066, 77, 117, 1067),
  (8, 119, 2, bm_X8_takesBear, 1085, 1087, 82, 117, 1088),
  (8, 122, 2, bm_X8_faultOf, 1060, 1062, 76, 117, 1063),
  (8, 125, 0, bm_X8_begin, 1096, 1097, 0, 117, 1098),
  (8, 129, 0, bm_X8_has, 1111, 1112, 0, 117, 1113),
  (8, 132, 0, bm_X8_seesAs, 1133, 1134, 0, 117, 1135),
  (8, 136, 0, bm_X8_tellsAs, 1130, 1131, 0, 117, 1132),
  (8, 140, 2, bm_X8_sayOf, 1126, 1128, 88, 117, 1129),
  (8, 144, 2, bm_X8_tellOf, 1122, 1124, 87, 117, 1125),
  (8, 147, 2, bm_X8_tellNow, 1118, 1120, 86, 117, 1121),
  (8, 150, 2, bm_X8_balance, 1211, 1213, 93, 117, 1214),
  (8, 154, 2, bm_X8_toldThings, 1114, 1116, 85, 117, 1117),
  (8, 157, 2, bm_X8_isBear, 1103, 1105, 83, 117, 1106),
  (8, 160, 2, bm_X8_toldOf, 1107, 1109, 84, 117, 1110),
  (8, 163, 0, bm_X8_isOf, 1140, 1141, 0, 117, 1142),
  (8, 166, 0, bm_X8_bits, 1143, 1144, 0, 117, 1145),
  (8, 169, 2, bm_X8_seesBeyond, 1146, 1148, 89, 117, 1149),
  (8, 172, 0, bm_X8_goDeed, 1165, 1166, 0, 117, 1167),
  (8, 176, 0, bm_X8_may, 1158, 1159, 0, 117, 1160),
  (8, 180, 2, bm_X8_does, 1161, 1163, 91, 117, 1164),
  (8, 183, 2, bm_X8_doesTo, 1154, 1156, 90, 117, 1157),
  (8, 188, 0, bm_X8_isShelf, 1188, 1189, 0, 117, 1190),
  (8, 191, 0, bm_X8_isThing, 1200, 1201, 0, 117, 1202),
  (8, 194, 2, bm_X8_allBears, 1207, 1209, 92, 117, 1210),
  (8, 198, 2, bm_X8_shownBy, 1215, 1217, 94, 117, 1218),
  (8, 202, 2, bm_X8_layHand, 1232, 1234, 96, 117, 1235),
  (8, 205, 2, bm_X8_goes, 1228, 1230, 95, 117, 1231),
  (8, 211, 2, bm_X8_rivalThings, 1245, 1247, 97, 117, 1248),
  (8, 216, 0, bm_X8_pairOf, 1270, 1271, 0, 117, 1272),
  (8, 219, 2, bm_X8_refusesPairs, 1261, 1263, 99, 117, 1264),
  (8, 222, 2, bm_X8_refusesLooks, 1257, 1259, 98, 117, 1260),
  (8, 225, 2, bm_X8_isTruth, 1266, 1268, 100, 117, 1269),
  (8, 232, 0, bm_X8_startOf, 1293, 1294, 0, 117, 1295),
  (8, 235, 2, bm_X8_goChoices, 1297, 1299, 101, 117, 1300),
  (8, 238, 2, bm_X8_weigh, 1301, 1303, 102, 117, 1304),
  (8, 244, 2, bm_X8_fraction, 1314, 1316, 104, 117, 1317),
  (8, 248, 2, bm_X8_goOdds, 1310, 1312, 103, 117, 1313),
  (8, 261, 2, bm_X8_sumOf, 1352, 1354, 106, 117, 1355),
  (8, 264, 2, bm_X8_manyOf, 1356, 1358, 107, 117, 1359),
  (8, 267, 0, bm_X8_manyThere, 1360, 1361, 0, 117, 1362),
  (8, 273, 2, bm_X8_counted, 1348, 1350, 105, 117, 1351),
  (9, 9, 4, bm_X7_init, 124, 125, 0, 109, 126),
  (9, 12, 4, bm_X8_init, 938, 939, 0, 117, 940),
  (9, 13, 2, bm_X7_row, 358, 359, 360, 109, 361),
  (9, 17, 2, bm_X8_row, 1004, 1005, 1006, 117, 1007),
  (9, 18, 2, bm_X7_lay, 380, 381, 382, 109, 383),
  (9, 22, 2, bm_X8_lay, 1019, 1020, 1021, 117, 1022),
  (9, 23, 2, bm_X7_at, 409, 410, 411, 109, 412),
  (9, 26, 2, bm_X8_at, 1031, 1024, 1025, 117, 1026),
  (9, 27, 2, bm_X7_tear, 413, 414, 415, 109, 416),
  (9, 31, 2, bm_X8_tear, 1032, 1033, 1034, 117, 1035),
  (9, 32, 2, bm_X7_copy, 421, 422, 423, 109, 424),
  (9, 36, 2, bm_X8_copy, 1036, 1037, 1038, 117, 1039),
  (9, 37, 2, bm_X7_mean, 441, 442, 443, 109, 444),
  (9, 40, 2, bm_X8_mean, 1040, 1041, 1042, 117, 1043),
  (9, 41, 2, bm_X7_text, 451, 452, 453, 109, 454),
  (9, 44, 2, bm_X8_text, 1044, 1045, 1046, 117, 1047),
  (9, 45, 2, bm_X7_put, 455, 456, 457, 109, 458),
  (9, 48, 2, bm_X8_put, 1052, 1053, 1054, 117, 1055),
  (9, 49, 2, bm_X7_fault, 459, 460, 461, 109, 462),
  (9, 52, 2, bm_X8_fault, 1056, 1057, 1058, 117, 1059),
  (9, 53, 2, bm_X7_court, 511, 512, 513, 109, 514),
  (9, 56, 2, bm_X8_court, 1092, 1093, 1094, 117, 1095),
  (9, 57, 2, bm_X7_bear, 533, 534, 535, 109, 536),
  (9, 60, 2, bm_X8_bear, 1099, 1100, 1101, 117, 1102),
  (9, 61, 2, bm_X7_mark, 561, 562, 563, 109, 564),
  (9, 64, 2, bm_X8_mark, 1136, 1137, 1138, 117, 1139),
  (9, 65, 2, bm_X7_press, 579, 580, 581, 109, 582),
  (9, 68, 2, bm_X8_press, 1150, 1151, 1152, 117, 1153),
  (9, 69, 2, bm_X7_mend, 599, 600, 601, 109, 602),
  (9, 72, 2, bm_X8_mend, 1168, 1169, 1170, 117, 1171),
  (9, 73, 2, bm_X7_eye, 603, 604, 605, 109, 606),
  (9, 76, 2, bm_X8_eye, 1172, 1173, 1174, 117, 1175),
  (9, 77, 2, bm_X7_turn, 607, 608, 609, 109, 610),
  (9, 80, 2, bm_X8_turn, 1176, 1177, 1178, 117, 1179),
  (9, 81, 2, bm_X7_undo, 611, 612, 613, 109, 614),
  (9, 84, 2, bm_X8_undo, 1180, 1181, 1182, 117, 1183),
  (9, 85, 2, bm_X7_keep, 619, 620, 621, 109, 622),
  (9, 88, 2, bm_X8_keep, 1184, 1185, 1186, 117, 1187),
  (9, 89, 2, bm_X7_on, 623, 624, 625, 109, 626),
  (9, 92, 2, bm_X8_on, 1192, 1193, 1194, 117, 1195),
  (9, 93, 2, bm_X7_tells, 627, 628, 629, 109, 630),
  (9, 96, 2, bm_X8_tells, 1196, 1197, 1198, 117, 1199),
  (9, 97, 2, bm_X7_shown, 646, 647, 648, 109, 649),
  (9, 100, 2, bm_X8_shown, 1203, 1204, 1205, 117, 1206),
  (9, 101, 2, bm_X7_call, 683, 684, 685, 109, 686),
  (9, 104, 2, bm_X8_call, 1219, 1220, 1221, 117, 1222),
  (9, 105, 2, bm_X7_shake, 689, 690, 691, 109, 692),
  (9, 108, 2, bm_X8_shake, 1224, 1225, 1226, 117, 1227),
  (9, 109, 2, bm_X7_cover, 725, 726, 727, 109, 728),
  (9, 112, 2, bm_X8_cover, 1236, 1237, 1238, 117, 1239),
  (9, 113, 2, bm_X7_rivals, 733, 734, 735, 109, 736),
  (9, 116, 2, bm_X8_rivals, 1241, 1242, 1243, 117, 1244),
  (9, 117, 2, bm_X7_apart, 741, 742, 743, 109, 744),
  (9, 121, 2, bm_X8_apart, 1249, 1250, 1251, 117, 1252),
  (9, 122, 2, bm_X7_truths, 749, 750, 751, 109, 752),
  (9, 125, 2, bm_X8_truths, 1253, 1254, 1255, 117, 1256),
  (9, 126, 2, bm_X7_sure, 797, 798, 799, 109, 800),
  (9, 129, 2, bm_X8_sure, 1273, 1274, 1275, 117, 1276),
  (9, 130, 2, bm_X7_next, 803, 804, 805, 109, 806),
  (9, 133, 2, bm_X8_next, 1277, 1278, 1279, 117, 1280),
  (9, 134, 2, bm_X7_kinds, 813, 814, 815, 109, 816),
  (9, 137, 2, bm_X8_kinds, 1281, 1282, 1283, 117, 1284),
  (9, 138, 2, bm_X7_walls, 821, 822, 823, 109, 824),
  (9, 141, 2, bm_X8_walls, 1285, 1286, 1287, 117, 1288),
  (9, 142, 2, bm_X7_duel, 835, 836, 837, 109, 838),
  (9, 145, 2, bm_X8_duel, 1289, 1290, 1291, 117, 1292),
  (9, 146, 2, bm_X7_odds, 848, 849, 850, 109, 851),
  (9, 149, 2, bm_X8_odds, 1305, 1306, 1307, 117, 1308),
  (9, 150, 2, bm_X7_mid, 864, 865, 866, 109, 867),
  (9, 153, 2, bm_X8_mid, 1318, 1319, 1320, 117, 1321),
  (9, 154, 2, bm_X7_lots, 868, 869, 870, 109, 871),
  (9, 157, 2, bm_X8_lots, 1322, 1323, 1324, 117, 1325),
  (9, 158, 2, bm_X7_asked, 883, 884, 885, 109, 886),
  (9, 161, 2, bm_X8_asked, 1331, 1332, 1333, 117, 1334),
  (9, 162, 2, bm_X7_upper, 887, 888, 889, 109, 890),
  (9, 166, 2, bm_X8_upper, 1335, 1336, 1337, 117, 1338),
  (9, 167, 2, bm_X7_lower, 891, 892, 893, 109, 894),
  (9, 170, 2, bm_X8_lower, 1339, 1340, 1341, 117, 1342),
  (9, 171, 2, bm_X7_count, 895, 896, 897, 109, 898),
  (9, 174, 2, bm_X8_count, 1343, 1344, 1345, 117, 1346),
  (9, 175, 2, bm_X7_finding, 916, 917, 918, 109, 919),
  (9, 178, 2, bm_X8_finding, 1363, 1364, 1365, 117, 1366),
  (9, 179, 2, bm_X7_findings, 920, 921, 922, 109, 923),
  (9, 182, 2, bm_X8_findings, 1367, 1368, 1369, 117, 1370),
  (9, 183, 2, bm_X7_digest, 924, 925, 926, 109, 927),
  (9, 186, 2, bm_X8_digest, 1371, 1372, 1373, 117, 1374)]
def bw_mt (o ix : Nat) : Option (Nat × bw_M) := (bw_MT.find? (fun e => e.1 == o && e.2.1 == ix)).map (fun e => (e.2.2.1, e.2.2.2.1))
def bw_KT : List (Nat × Nat × Value × Nat) := [(2, 60, .long (-1), 769), (4, 61, .long (31), 935), (7, 249, .long (-1), 802), (7, 280, .int (2147483646), 872), (7, 281, .long (48271), 873), (7, 283, .long (2147483647), 874), (7, 285, .long (8), 875), (7, 323, .long (17), 928), (7, 325, .long (31), 929), (7, 361, .long (12), 863), (8, 67, .long (5), 1011), (8, 73, .long (3), 1051), (8, 99, .long (48), 1084), (8, 186, .long (2), 1191), (8, 201, .int (1000000), 1223), (8, 209, .long (63), 1240), (8, 214, .long (47), 1265), (8, 231, .int (-1000000), 1296), (8, 242, .long (12), 1309), (8, 251, .long (20), 1326), (8, 253, .long (2147483646), 1327), (8, 255, .long (48271), 1328), (8, 257, .long (2147483647), 1329), (8, 259, .long (8), 1330), (8, 271, .long (11), 1347), (8, 276, .long (17), 1375), (8, 278, .long (31), 1376), (10, 265, .int (1431655765), 573), (10, 266, .int (858993459), 574), (10, 267, .int (252645135), 575), (11, 314, .long (6148914691236517205), 787), (11, 316, .long (3689348814741910323), 788), (11, 318, .long (1085102592571150095), 789)]
def bw_kc (o ix : Nat) : Option Value := (bw_KT.find? (fun e => e.1 == o && e.2.1 == ix)).map (fun e => e.2.2.1)
def bw_NT : List (Nat × Nat × Nat × Nat × Nat × Nat) := [(1, 24, 0, 170, 137, 111), (2, 15, 0, 252, 137, 111), (3, 9, 0, 231, 137, 111), (4, 16, 0, 136, 137, 111), (5, 15, 0, 273, 137, 111), (6, 21, 0, 291, 137, 111), (7, 7, 4, 130, 131, 110), (7, 21, 1, 164, 165, 112), (7, 35, 3, 225, 226, 113), (7, 42, 2, 246, 247, 114), (7, 49, 5, 267, 268, 115), (7, 56, 6, 285, 286, 116), (7, 63, 0, 313, 137, 111), (9, 7, 7, 122, 123, 109), (9, 10, 8, 936, 937, 117)]
def bw_cl (o ix : Nat) : Option Nat := (bw_NT.find? (fun e => e.1 == o && e.2.1 == ix)).map (fun e => e.2.2.1)
def bw_anT : List (Nat × Nat × Nat) := [(7, 21, 164)]
def bw_an (o ix : Nat) : Bool := (bw_anT.find? (fun e => e.1 == o && e.2.1 == ix)).isSome
def bw_stT : List (Nat × Nat × Nat) := [(2, 30, 774)]
def bw_st (o ix : Nat) : Bool := (bw_stT.find? (fun e => e.1 == o && e.2.1 == ix)).isSome
def bw_oiT : List (Nat × Nat × Nat) := [(0, 1, 141), (1, 3, 169), (2, 3, 251), (3, 3, 230), (4, 1, 135), (5, 3, 272), (6, 3, 290), (7, 1, 127), (8, 1, 941)]
def bw_oi (o ix : Nat) : Bool := (bw_oiT.find? (fun e => e.1 == o && e.2.1 == ix)).isSome
def bw_acT : List (Nat × Nat × Nat) := [(0, 17, 438)]
def bw_ac (o ix : Nat) : Bool := (bw_acT.find? (fun e => e.1 == o && e.2.1 == ix)).isSome
def bw_mxT : List (Nat × Nat × Bool × Nat) := [(1, 94, true, 576), (6, 86, true, 844), (6, 92, false, 845), (7, 356, true, 812)]
def bw_mx (o ix : Nat) : Option Bool := (bw_mxT.find? (fun e => e.1 == o && e.2.1 == ix)).map (fun e => e.2.2.1)
