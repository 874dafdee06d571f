/-! what the constant pools link: by class number and index; with the words' places -/
abbrev bw_M : Type := Nat × MethodName × ByteArray × Nat × Option FieldType × Nat
def bm_X4_init : bw_M := (4, yX4_init, cX4_init, 4, none, 2)
def bm_X1_init : bw_M := (1, yX1_init, cX1_init, 1, none, 0)
def bm_X3_init : bw_M := (3, yX3_init, cX3_init, 1, none, 0)
def bm_X2_init : bw_M := (2, yX2_init, cX2_init, 1, none, 0)
def bm_X5_init : bw_M := (5, yX5_init, cX5_init, 1, none, 0)
def bm_X6_init : bw_M := (6, yX6_init, cX6_init, 1, none, 0)
def bm_X0_init : bw_M := (0, yX0_init, cX0_init, 2, none, 1)
def bm_X7_missingPlace : bw_M := (7, yX7_missingPlace, cX7_missingPlace, 3, (some .int), 3)
def bm_X7_isOfKind : bw_M := (7, yX7_isOfKind, cX7_isOfKind, 2, (some .boolean), 2)
def bm_X7_isThing : bw_M := (7, yX7_isThing, cX7_isThing, 1, (some .boolean), 1)
def bm_J6_bitCount_0f7a4 : bw_M := (10, yJ6_bitCount_0f7a4, cJ6_bitCount_0f7a4, 1, (some .int), 1)
def bm_X7_isIn : bw_M := (7, yX7_isIn, cX7_isIn, 2, (some .boolean), 2)
def bm_X7_isFewer : bw_M := (7, yX7_isFewer, cX7_isFewer, 2, (some .boolean), 2)
def bm_X7_leastOf : bw_M := (7, yX7_leastOf, cX7_leastOf, 2, (some .int), 1)
def bm_J13_bitCount_95d88 : bw_M := (11, yJ13_bitCount_95d88, cJ13_bitCount_95d88, 2, (some .int), 1)
def bm_X2_setsWith : bw_M := (2, yX2_setsWith, cX2_setsWith, 1, (some .long), 1)
def bm_X7_isChance : bw_M := (7, yX7_isChance, cX7_isChance, 1, (some .boolean), 1)
def bm_X7_actOfLot : bw_M := (7, yX7_actOfLot, cX7_actOfLot, 1, (some .int), 1)
def bm_X7_commonDivisor : bw_M := (7, yX7_commonDivisor, cX7_commonDivisor, 7, (some .long), 2)
def bm_X4_isNumber : bw_M := (4, yX4_isNumber, cX4_isNumber, 2, (some .boolean), 1)
def bm_X7_found : bw_M := (7, yX7_found, cX7_found, 2, (some .int), 1)
def bm_X4_make : bw_M := (4, yX4_make, cX4_make, 5, none, 3)
def bm_X4_get : bw_M := (4, yX4_get, cX4_get, 3, (some .int), 2)
def bm_X4_set : bw_M := (4, yX4_set, cX4_set, 4, none, 3)
def bm_X4_has : bw_M := (4, yX4_has, cX4_has, 2, (some .boolean), 1)
def bm_X4_drop : bw_M := (4, yX4_drop, cX4_drop, 2, none, 1)
def bm_X4_hasSpan : bw_M := (4, yX4_hasSpan, cX4_hasSpan, 4, (some .boolean), 3)
def bm_X4_move : bw_M := (4, yX4_move, cX4_move, 6, none, 5)
def bm_X4_sizeOf : bw_M := (4, yX4_sizeOf, cX4_sizeOf, 2, (some .int), 1)
def bm_X4_sumOf : bw_M := (4, yX4_sumOf, cX4_sumOf, 5, (some .long), 1)
def bm_X3_readInto : bw_M := (3, yX3_readInto, cX3_readInto, 5, (some .int), 3)
def bm_X1_take : bw_M := (1, yX1_take, cX1_take, 2, none, 1)
def bm_X7_forgetKept : bw_M := (7, yX7_forgetKept, cX7_forgetKept, 3, none, 1)
def bm_X1_hasBear : bw_M := (1, yX1_hasBear, cX1_hasBear, 2, (some .boolean), 1)
def bm_X7_ofBear : bw_M := (7, yX7_ofBear, cX7_ofBear, 3, (some .int), 2)
def bm_X0_get : bw_M := (0, yX0_get, cX0_get, 2, (some .int), 1)
def bm_X1_markOf : bw_M := (1, yX1_markOf, cX1_markOf, 4, (some .int), 2)
def bm_X7_answerDeed : bw_M := (7, yX7_answerDeed, cX7_answerDeed, 3, (some .int), 2)
def bm_X1_takeBackTo : bw_M := (1, yX1_takeBackTo, cX1_takeBackTo, 3, none, 1)
def bm_X7_keptIn : bw_M := (7, yX7_keptIn, cX7_keptIn, 3, (some (.object "BearWitness$Court")), 1)
def bm_X1_answerOf : bw_M := (1, yX1_answerOf, cX1_answerOf, 3, (some .int), 2)
def bm_X1_isSet : bw_M := (1, yX1_isSet, cX1_isSet, 2, (some .boolean), 1)
def bm_X5_hear : bw_M := (5, yX5_hear, cX5_hear, 7, none, 1)
def bm_X5_tiedBy : bw_M := (5, yX5_tiedBy, cX5_tiedBy, 4, (some .int), 1)
def bm_X5_shownBy : bw_M := (5, yX5_shownBy, cX5_shownBy, 4, (some .int), 1)
def bm_X1_allBears : bw_M := (1, yX1_allBears, cX1_allBears, 1, (some .int), 0)
def bm_X6_open : bw_M := (6, yX6_open, cX6_open, 6, none, 3)
def bm_X6_fewestPresses : bw_M := (6, yX6_fewestPresses, cX6_fewestPresses, 2, (some .int), 0)
def bm_X5_toldBy : bw_M := (5, yX5_toldBy, cX5_toldBy, 4, (some .int), 1)
def bm_X5_clash : bw_M := (5, yX5_clash, cX5_clash, 3, (some .int), 2)
def bm_X5_hasRivals : bw_M := (5, yX5_hasRivals, cX5_hasRivals, 5, (some .boolean), 1)
def bm_X7_readLooks : bw_M := (7, yX7_readLooks, cX7_readLooks, 3, (some .int), 1)
def bm_X2_fittingSets : bw_M := (2, yX2_fittingSets, cX2_fittingSets, 8, (some .long), 1)
def bm_X7_tellPart : bw_M := (7, yX7_tellPart, cX7_tellPart, 7, none, 2)
def bm_X7_greatestPart : bw_M := (7, yX7_greatestPart, cX7_greatestPart, 8, (some .int), 3)
def bm_X2_fitKind : bw_M := (2, yX2_fitKind, cX2_fitKind, 5, (some .boolean), 3)
def bm_X2_whoSpoke : bw_M := (2, yX2_whoSpoke, cX2_whoSpoke, 3, (some .int), 0)
def bm_X2_whoKeptBack : bw_M := (2, yX2_whoKeptBack, cX2_whoKeptBack, 6, (some .int), 1)
def bm_X6_playOut : bw_M := (6, yX6_playOut, cX6_playOut, 7, (some .int), 1)
def bm_X7_weightOf : bw_M := (7, yX7_weightOf, cX7_weightOf, 6, (some .long), 2)
def bm_X7_allWeight : bw_M := (7, yX7_allWeight, cX7_allWeight, 4, (some .long), 0)
def bm_X1_canBe : bw_M := (1, yX1_canBe, cX1_canBe, 3, (some .boolean), 2)
def bm_X1_commit : bw_M := (1, yX1_commit, cX1_commit, 3, none, 2)
def bm_X7_shownByAll : bw_M := (7, yX7_shownByAll, cX7_shownByAll, 1, (some .int), 0)
def bm_X0_sum : bw_M := (0, yX0_sum, cX0_sum, 4, (some .int), 1)
def bm_X1_thoseOfKind : bw_M := (1, yX1_thoseOfKind, cX1_thoseOfKind, 4, (some .int), 1)
def bm_X4_thoseThere : bw_M := (4, yX4_thoseThere, cX4_thoseThere, 3, (some .int), 0)
def bm_X7_keptCourts : bw_M := (7, yX7_keptCourts, cX7_keptCourts, 3, (some .int), 0)
def bm_X7_count : bw_M := (7, yX7_count, cX7_count, 2, (some .int), 1)
def bm_X4_digestFrom : bw_M := (4, yX4_digestFrom, cX4_digestFrom, 5, (some .long), 1)
def bm_X0_set : bw_M := (0, yX0_set, cX0_set, 3, none, 2)
def bm_X4_hasPlace : bw_M := (4, yX4_hasPlace, cX4_hasPlace, 3, (some .boolean), 2)
def bm_X1_toldOf : bw_M := (1, yX1_toldOf, cX1_toldOf, 4, (some .int), 3)
def bm_X1_clear : bw_M := (1, yX1_clear, cX1_clear, 1, none, 0)
def bm_X2_readFrom : bw_M := (2, yX2_readFrom, cX2_readFrom, 8, (some .int), 3)
def bm_X1_answerIf : bw_M := (1, yX1_answerIf, cX1_answerIf, 7, (some .int), 4)
def bm_X1_onesOf : bw_M := (1, yX1_onesOf, cX1_onesOf, 4, (some .int), 4)
def bm_X0_take : bw_M := (0, yX0_take, cX0_take, 3, none, 1)
def bm_X1_change : bw_M := (1, yX1_change, cX1_change, 4, none, 3)
def bm_X1_seenBy : bw_M := (1, yX1_seenBy, cX1_seenBy, 5, (some .int), 3)
def bm_X2_fits : bw_M := (2, yX2_fits, cX2_fits, 5, (some .boolean), 4)
def bm_X3_kindOfLetter : bw_M := (3, yX3_kindOfLetter, cX3_kindOfLetter, 1, (some .int), 1)
def bm_X3_skipBlanks : bw_M := (3, yX3_skipBlanks, cX3_skipBlanks, 3, none, 2)
def bm_X3_byteHere : bw_M := (3, yX3_byteHere, cX3_byteHere, 3, (some .int), 2)
def bm_X3_twoFigures : bw_M := (3, yX3_twoFigures, cX3_twoFigures, 6, (some .int), 2)
def bm_X3_readBear : bw_M := (3, yX3_readBear, cX3_readBear, 8, none, 3)
def bm_X3_fail : bw_M := (3, yX3_fail, cX3_fail, 2, none, 1)
def bm_X3_oneFigure : bw_M := (3, yX3_oneFigure, cX3_oneFigure, 5, (some .int), 3)
def bm_X1_seat : bw_M := (1, yX1_seat, cX1_seat, 5, none, 4)
def bm_X0_move : bw_M := (0, yX0_move, cX0_move, 4, none, 3)
def bm_X5_balance : bw_M := (5, yX5_balance, cX5_balance, 5, (some .int), 2)
def bm_X6_worthIf : bw_M := (6, yX6_worthIf, cX6_worthIf, 6, (some .int), 4)
def bm_X6_worthNow : bw_M := (6, yX6_worthNow, cX6_worthNow, 2, (some .int), 1)
def bm_X6_pressOn : bw_M := (6, yX6_pressOn, cX6_pressOn, 6, (some .boolean), 3)
def bm_X6_canWear : bw_M := (6, yX6_canWear, cX6_canWear, 4, (some .boolean), 2)
def bm_X6_wearBy : bw_M := (6, yX6_wearBy, cX6_wearBy, 3, none, 2)
def bm_X7_init : bw_M := (7, yX7_init, cX7_init, 1, none, 0)
def bm_X8_init : bw_M := (8, yX8_init, cX8_init, 2, none, 0)
def bm_X7_row : bw_M := (7, yX7_row, cX7_row, 3, (some .int), 2)
def bm_X8_row : bw_M := (8, yX8_row, cX8_row, 4, (some .int), 2)
def bm_X7_lay : bw_M := (7, yX7_lay, cX7_lay, 5, (some .int), 3)
def bm_X8_lay : bw_M := (8, yX8_lay, cX8_lay, 5, (some .int), 3)
def bm_X7_at : bw_M := (7, yX7_at, cX7_at, 4, (some .int), 2)
def bm_X8_at : bw_M := (8, yX8_at, cX8_at, 3, (some .int), 2)
def bm_X7_tear : bw_M := (7, yX7_tear, cX7_tear, 2, (some .int), 1)
def bm_X8_tear : bw_M := (8, yX8_tear, cX8_tear, 2, (some .int), 1)
def bm_X7_copy : bw_M := (7, yX7_copy, cX7_copy, 6, (some .int), 5)
def bm_X8_copy : bw_M := (8, yX8_copy, cX8_copy, 7, (some .int), 5)
def bm_X7_mean : bw_M := (7, yX7_mean, cX7_mean, 3, (some .int), 1)
def bm_X8_mean : bw_M := (8, yX8_mean, cX8_mean, 5, (some .int), 1)
def bm_X7_text : bw_M := (7, yX7_text, cX7_text, 3, (some .int), 2)
def bm_X8_text : bw_M := (8, yX8_text, cX8_text, 4, (some .int), 2)
def bm_X7_put : bw_M := (7, yX7_put, cX7_put, 6, (some .int), 3)
def bm_X8_put : bw_M := (8, yX8_put, cX8_put, 6, (some .int), 3)
def bm_X7_fault : bw_M := (7, yX7_fault, cX7_fault, 2, (some .int), 1)
def bm_X8_fault : bw_M := (8, yX8_fault, cX8_fault, 2, (some .int), 1)
def bm_X7_court : bw_M := (7, yX7_court, cX7_court, 3, (some .int), 1)
def bm_X8_court : bw_M := (8, yX8_court, cX8_court, 3, (some .int), 1)
def bm_X7_bear : bw_M := (7, yX7_bear, cX7_bear, 3, (some .int), 2)
def bm_X8_bear : bw_M := (8, yX8_bear, cX8_bear, 3, (some .int), 2)
def bm_X7_mark : bw_M := (7, yX7_mark, cX7_mark, 3, (some .int), 2)
def bm_X8_mark : bw_M := (8, yX8_mark, cX8_mark, 4, (some .int), 2)
def bm_X7_press : bw_M := (7, yX7_press, cX7_press, 2, (some .int), 1)
def bm_X8_press : bw_M := (8, yX8_press, cX8_press, 3, (some .int), 1)
def bm_X7_mend : bw_M := (7, yX7_mend, cX7_mend, 2, (some .int), 1)
def bm_X8_mend : bw_M := (8, yX8_mend, cX8_mend, 3, (some .int), 1)
def bm_X7_eye : bw_M := (7, yX7_eye, cX7_eye, 2, (some .int), 1)
def bm_X8_eye : bw_M := (8, yX8_eye, cX8_eye, 3, (some .int), 1)
def bm_X7_turn : bw_M := (7, yX7_turn, cX7_turn, 2, (some .int), 1)
def bm_X8_turn : bw_M := (8, yX8_turn, cX8_turn, 3, (some .int), 1)
def bm_X7_undo : bw_M := (7, yX7_undo, cX7_undo, 3, (some .int), 1)
def bm_X8_undo : bw_M := (8, yX8_undo, cX8_undo, 4, (some .int), 1)
def bm_X7_keep : bw_M := (7, yX7_keep, cX7_keep, 3, (some .int), 1)
def bm_X8_keep : bw_M := (8, yX8_keep, cX8_keep, 3, (some .int), 1)
def bm_X7_on : bw_M := (7, yX7_on, cX7_on, 3, (some .int), 1)
def bm_X8_on : bw_M := (8, yX8_on, cX8_on, 3, (some .int), 1)
def bm_X7_tells : bw_M := (7, yX7_tells, cX7_tells, 3, (some .int), 2)
def bm_X8_tells : bw_M := (8, yX8_tells, cX8_tells, 3, (some .int), 2)
def bm_X7_shown : bw_M := (7, yX7_shown, cX7_shown, 2, (some .int), 1)
def bm_X8_shown : bw_M := (8, yX8_shown, cX8_shown, 6, (some .int), 1)
def bm_X7_call : bw_M := (7, yX7_call, cX7_call, 7, (some .int), 1)
def bm_X8_call : bw_M := (8, yX8_call, cX8_call, 6, (some .int), 1)
def bm_X7_shake : bw_M := (7, yX7_shake, cX7_shake, 6, (some .int), 3)
def bm_X8_shake : bw_M := (8, yX8_shake, cX8_shake, 8, (some .int), 3)
def bm_X7_cover : bw_M := (7, yX7_cover, cX7_cover, 5, (some .int), 1)
def bm_X8_cover : bw_M := (8, yX8_cover, cX8_cover, 6, (some .int), 1)
def bm_X7_rivals : bw_M := (7, yX7_rivals, cX7_rivals, 3, (some .int), 2)
def bm_X8_rivals : bw_M := (8, yX8_rivals, cX8_rivals, 3, (some .int), 2)
def bm_X7_apart : bw_M := (7, yX7_apart, cX7_apart, 4, (some .int), 0)
def bm_X8_apart : bw_M := (8, yX8_apart, cX8_apart, 6, (some .int), 0)
def bm_X7_truths : bw_M := (7, yX7_truths, cX7_truths, 5, (some .int), 1)
def bm_X8_truths : bw_M := (8, yX8_truths, cX8_truths, 6, (some .int), 1)
def bm_X7_sure : bw_M := (7, yX7_sure, cX7_sure, 8, (some .int), 1)
def bm_X8_sure : bw_M := (8, yX8_sure, cX8_sure, 6, (some .int), 1)
def bm_X7_next : bw_M := (7, yX7_next, cX7_next, 10, (some .int), 1)
def bm_X8_next : bw_M := (8, yX8_next, cX8_next, 8, (some .int), 1)
def bm_X7_kinds : bw_M := (7, yX7_kinds, cX7_kinds, 6, (some .int), 2)
def bm_X8_kinds : bw_M := (8, yX8_kinds, cX8_kinds, 10, (some .int), 2)
def bm_X7_walls : bw_M := (7, yX7_walls, cX7_walls, 4, (some .int), 1)
def bm_X8_walls : bw_M := (8, yX8_walls, cX8_walls, 7, (some .int), 1)
def bm_X7_duel : bw_M := (7, yX7_duel, cX7_duel, 3, (some .int), 2)
def bm_X8_duel : bw_M := (8, yX8_duel, cX8_duel, 8, (some .int), 2)
def bm_X7_odds : bw_M := (7, yX7_odds, cX7_odds, 6, (some .int), 2)
def bm_X8_odds : bw_M := (8, yX8_odds, cX8_odds, 3, (some .int), 2)
def bm_X7_mid : bw_M := (7, yX7_mid, cX7_mid, 5, (some .int), 1)
def bm_X8_mid : bw_M := (8, yX8_mid, cX8_mid, 2, (some .int), 1)
def bm_X7_lots : bw_M := (7, yX7_lots, cX7_lots, 9, (some .int), 2)
def bm_X8_lots : bw_M := (8, yX8_lots, cX8_lots, 8, (some .int), 2)
def bm_X7_asked : bw_M := (7, yX7_asked, cX7_asked, 1, (some .int), 0)
def bm_X8_asked : bw_M := (8, yX8_asked, cX8_asked, 1, (some .int), 0)
def bm_X7_upper : bw_M := (7, yX7_upper, cX7_upper, 1, (some .long), 0)
def bm_X8_upper : bw_M := (8, yX8_upper, cX8_upper, 1, (some .long), 0)
def bm_X7_lower : bw_M := (7, yX7_lower, cX7_lower, 1, (some .long), 0)
def bm_X8_lower : bw_M := (8, yX8_lower, cX8_lower, 1, (some .long), 0)
def bm_X8_count : bw_M := (8, yX8_count, cX8_count, 2, (some .int), 1)
def bm_X7_finding : bw_M := (7, yX7_finding, cX7_finding, 1, (some .int), 0)
def bm_X8_finding : bw_M := (8, yX8_finding, cX8_finding, 1, (some .int), 0)
def bm_X7_findings : bw_M := (7, yX7_findings, cX7_findings, 2, (some .int), 1)
def bm_X8_findings : bw_M := (8, yX8_findings, cX8_findings, 2, (some .int), 1)
def bm_X7_digest : bw_M := (7, yX7_digest, cX7_digest, 5, (some .long), 0)
def bm_X8_digest : bw_M := (8, yX8_digest, cX8_digest, 5, (some .long), 0)
def bm_X8_in : bw_M := (8, yX8_in, cX8_in, 6, (some .boolean), 3)
def bm_X8_isRow : bw_M := (8, yX8_isRow, cX8_isRow, 1, (some .boolean), 1)
def bm_X8_isText : bw_M := (8, yX8_isText, cX8_isText, 1, (some .boolean), 1)
def bm_X8_kindBy : bw_M := (8, yX8_kindBy, cX8_kindBy, 1, (some .int), 1)
def bm_X8_begin : bw_M := (8, yX8_begin, cX8_begin, 2, none, 1)
def bm_X8_has : bw_M := (8, yX8_has, cX8_has, 2, (some .boolean), 2)
def bm_X8_seesAs : bw_M := (8, yX8_seesAs, cX8_seesAs, 7, (some .boolean), 5)
def bm_X8_tellsAs : bw_M := (8, yX8_tellsAs, cX8_tellsAs, 7, (some .int), 6)
def bm_X8_isOf : bw_M := (8, yX8_isOf, cX8_isOf, 2, (some .boolean), 2)
def bm_X8_bits : bw_M := (8, yX8_bits, cX8_bits, 3, (some .int), 1)
def bm_X8_goDeed : bw_M := (8, yX8_goDeed, cX8_goDeed, 3, none, 2)
def bm_X8_may : bw_M := (8, yX8_may, cX8_may, 3, (some .boolean), 2)
def bm_X8_isShelf : bw_M := (8, yX8_isShelf, cX8_isShelf, 1, (some .boolean), 1)
def bm_X8_isThing : bw_M := (8, yX8_isThing, cX8_isThing, 1, (some .boolean), 1)
def bm_X8_pairOf : bw_M := (8, yX8_pairOf, cX8_pairOf, 1, (some .int), 1)
def bm_X8_startOf : bw_M := (8, yX8_startOf, cX8_startOf, 1, (some .int), 1)
def bm_X8_manyThere : bw_M := (8, yX8_manyThere, cX8_manyThere, 4, (some .int), 2)
def bm_X8_finds : bw_M := (8, yX8_finds, cX8_finds, 2, (some .int), 1)
def bm_X8_asks : bw_M := (8, yX8_asks, cX8_asks, 2, (some .int), 1)
def bm_X8_here : bw_M := (8, yX8_here, cX8_here, 2, (some .int), 1)
def bm_X8_takes : bw_M := (8, yX8_takes, cX8_takes, 5, (some .boolean), 3)
def bm_X8_skip : bw_M := (8, yX8_skip, cX8_skip, 2, none, 1)
def bm_X8_takesSet : bw_M := (8, yX8_takesSet, cX8_takesSet, 5, (some .boolean), 2)
def bm_X8_takesFirst : bw_M := (8, yX8_takesFirst, cX8_takesFirst, 2, (some .boolean), 1)
def bm_X8_takesBear : bw_M := (8, yX8_takesBear, cX8_takesBear, 4, (some .boolean), 1)
def bm_X8_faultOf : bw_M := (8, yX8_faultOf, cX8_faultOf, 3, (some .int), 1)
def bm_X8_sayOf : bw_M := (8, yX8_sayOf, cX8_sayOf, 5, (some .int), 4)
def bm_X8_tellOf : bw_M := (8, yX8_tellOf, cX8_tellOf, 5, (some .int), 4)
def bm_X8_tellNow : bw_M := (8, yX8_tellNow, cX8_tellNow, 3, (some .int), 2)
def bm_X8_balance : bw_M := (8, yX8_balance, cX8_balance, 7, (some .int), 3)
def bm_X8_toldThings : bw_M := (8, yX8_toldThings, cX8_toldThings, 4, (some .int), 1)
def bm_X8_isBear : bw_M := (8, yX8_isBear, cX8_isBear, 2, (some .boolean), 1)
def bm_X8_toldOf : bw_M := (8, yX8_toldOf, cX8_toldOf, 3, (some .int), 2)
def bm_X8_seesBeyond : bw_M := (8, yX8_seesBeyond, cX8_seesBeyond, 5, (some .int), 2)
def bm_X8_does : bw_M := (8, yX8_does, cX8_does, 2, none, 1)
def bm_X8_doesTo : bw_M := (8, yX8_doesTo, cX8_doesTo, 3, (some .int), 2)
def bm_X8_allBears : bw_M := (8, yX8_allBears, cX8_allBears, 1, (some .int), 0)
def bm_X8_shownBy : bw_M := (8, yX8_shownBy, cX8_shownBy, 4, (some .int), 1)
def bm_X8_layHand : bw_M := (8, yX8_layHand, cX8_layHand, 2, none, 0)
def bm_X8_goes : bw_M := (8, yX8_goes, cX8_goes, 8, (some .boolean), 4)
def bm_X8_rivalThings : bw_M := (8, yX8_rivalThings, cX8_rivalThings, 7, (some .int), 2)
def bm_X8_refusesPairs : bw_M := (8, yX8_refusesPairs, cX8_refusesPairs, 4, (some .int), 1)
def bm_X8_refusesLooks : bw_M := (8, yX8_refusesLooks, cX8_refusesLooks, 2, (some .int), 1)
def bm_X8_isTruth : bw_M := (8, yX8_isTruth, cX8_isTruth, 6, (some .boolean), 2)
def bm_X8_goChoices : bw_M := (8, yX8_goChoices, cX8_goChoices, 6, (some .int), 2)
def bm_X8_weigh : bw_M := (8, yX8_weigh, cX8_weigh, 4, none, 2)
def bm_X8_fraction : bw_M := (8, yX8_fraction, cX8_fraction, 11, none, 2)
def bm_X8_goOdds : bw_M := (8, yX8_goOdds, cX8_goOdds, 11, none, 2)
def bm_X8_sumOf : bw_M := (8, yX8_sumOf, cX8_sumOf, 4, (some .int), 1)
def bm_X8_manyOf : bw_M := (8, yX8_manyOf, cX8_manyOf, 4, (some .int), 1)
def bm_X8_counted : bw_M := (8, yX8_counted, cX8_counted, 2, (some .int), 1)
def bw_FT : List (Nat × Nat × Nat × Nat × Bool × Nat) := [(0, 7, 0, 0, false, 141), (1, 9, 1, 0, false, 171), (1, 15, 1, 1, false, 176), (1, 18, 1, 2, false, 182), (1, 21, 1, 3, false, 184), (1, 29, 1, 4, false, 186), (1, 33, 1, 5, false, 191), (1, 36, 1, 6, false, 193), (1, 39, 1, 7, false, 198), (1, 42, 1, 8, false, 200), (1, 45, 1, 9, false, 201), (2, 9, 2, 0, false, 248), (2, 20, 2, 1, false, 249), (2, 24, 2, 2, false, 250), (2, 27, 2, 3, false, 251), (2, 62, 1, 4, true, 189), (2, 73, 1, 1, true, 180), (2, 76, 1, 6, true, 196), (3, 9, 3, 0, false, 230), (3, 15, 3, 1, false, 231), (3, 18, 3, 2, false, 232), (3, 43, 1, 1, true, 178), (3, 50, 1, 0, true, 174), (4, 7, 4, 0, false, 150), (4, 13, 4, 1, false, 151), (4, 21, 4, 2, false, 152), (4, 25, 4, 3, false, 153), (5, 9, 5, 0, false, 269), (5, 20, 5, 1, false, 270), (5, 24, 5, 2, false, 271), (5, 27, 1, 0, true, 172), (5, 30, 1, 4, true, 187), (5, 37, 1, 6, true, 194), (5, 44, 1, 1, true, 177), (6, 9, 6, 0, false, 287), (6, 15, 6, 1, false, 288), (6, 18, 6, 2, false, 289), (6, 26, 6, 3, false, 290), (6, 30, 6, 4, false, 291), (6, 33, 6, 5, false, 292), (6, 36, 1, 0, true, 173), (6, 39, 1, 6, true, 195), (6, 59, 1, 4, true, 188), (6, 66, 1, 1, true, 179), (7, 14, 7, 0, false, 309), (7, 18, 7, 1, false, 310), (7, 24, 7, 2, false, 311), (7, 28, 7, 3, false, 312), (7, 31, 7, 4, false, 313), (7, 38, 7, 5, false, 314), (7, 45, 7, 6, false, 315), (7, 52, 7, 7, false, 316), (7, 59, 7, 8, false, 317), (7, 68, 7, 9, false, 318), (7, 72, 7, 10, false, 319), (7, 76, 7, 11, false, 320), (7, 79, 7, 12, false, 321), (7, 83, 7, 13, false, 322), (7, 141, 1, 0, true, 175), (7, 150, 1, 4, true, 190), (7, 165, 1, 3, true, 185), (7, 212, 6, 5, true, 293), (7, 299, 1, 1, true, 181), (7, 302, 1, 2, true, 183), (7, 305, 1, 6, true, 197), (7, 311, 1, 5, true, 192), (7, 339, 1, 7, true, 199), (8, 7, 8, 0, false, 930), (8, 13, 8, 1, false, 931), (8, 16, 8, 2, false, 932), (8, 20, 8, 3, false, 933), (8, 23, 8, 4, false, 934), (8, 26, 8, 5, false, 935), (8, 29, 8, 6, false, 936), (8, 32, 8, 7, false, 937), (8, 35, 8, 11, false, 941), (8, 39, 8, 12, false, 942), (8, 42, 8, 13, false, 943), (8, 45, 8, 15, false, 945), (8, 48, 8, 16, false, 946), (8, 51, 8, 17, false, 947), (8, 54, 8, 18, false, 948), (8, 57, 8, 19, false, 949), (8, 60, 8, 8, false, 938), (8, 64, 8, 9, false, 939), (8, 93, 8, 14, false, 944), (8, 228, 8, 10, false, 940)]
def bw_fl (o ix : Nat) : Option (Nat × Nat) := (bw_FT.find? (fun e => e.1 == o && e.2.1 == ix)).map (fun e => (e.2.2.1, e.2.2.2.1))
def bw_MT : List (Nat × Nat × Nat × bw_M × Nat × Nat × Nat × Nat × Nat) := [(0, 13, 2, bm_X0_get, 511, 366, 3, 110, 367),
  (1, 26, 5, bm_X0_init, 170, 138, 0, 110, 139),
  (1, 48, 3, bm_X0_take, 507, 509, 25, 110, 510),
  (1, 52, 3, bm_X0_set, 498, 148, 0, 110, 149),
  (1, 56, 2, bm_X1_allBears, 642, 644, 41, 111, 645),
  (1, 60, 3, bm_X0_get, 545, 366, 3, 110, 367),
  (1, 64, 1, bm_X7_isOfKind, 546, 547, 0, 108, 548),
  (1, 68, 2, bm_X1_change, 583, 585, 36, 111, 586),
  (1, 72, 1, bm_X7_isIn, 540, 534, 0, 108, 535),
  (1, 75, 2, bm_X1_seenBy, 541, 543, 31, 111, 544),
  (1, 79, 2, bm_X1_toldOf, 630, 538, 30, 111, 539),
  (1, 82, 0, bm_X1_onesOf, 631, 632, 0, 111, 633),
  (1, 86, 2, bm_X1_answerIf, 626, 628, 39, 111, 629),
  (1, 89, 0, bm_J6_bitCount_0f7a4, 558, 559, 0, 118, 560),
  (2, 17, 5, bm_X0_init, 247, 138, 0, 110, 139),
  (2, 34, 3, bm_X4_has, 749, 383, 5, 109, 384),
  (2, 40, 3, bm_X4_sizeOf, 750, 387, 6, 109, 388),
  (2, 44, 3, bm_X4_get, 751, 396, 8, 109, 397),
  (2, 48, 3, bm_X0_set, 752, 148, 0, 110, 149),
  (2, 52, 3, bm_X0_get, 758, 366, 3, 110, 367),
  (2, 54, 3, bm_X1_answerIf, 768, 628, 39, 111, 629),
  (2, 65, 0, bm_X2_setsWith, 759, 760, 0, 113, 761),
  (2, 69, 2, bm_X2_fits, 764, 766, 58, 113, 767),
  (2, 79, 3, bm_X1_seenBy, 821, 543, 31, 111, 544),
  (2, 83, 1, bm_X7_isIn, 822, 534, 0, 108, 535),
  (3, 21, 3, bm_X4_sizeOf, 461, 387, 6, 109, 388),
  (3, 27, 3, bm_X1_clear, 462, 464, 16, 111, 465),
  (3, 32, 2, bm_X3_skipBlanks, 466, 468, 17, 112, 469),
  (3, 36, 2, bm_X3_byteHere, 471, 473, 18, 112, 474),
  (3, 40, 2, bm_X3_twoFigures, 475, 477, 19, 112, 478),
  (3, 46, 2, bm_X3_readBear, 487, 489, 22, 112, 490),
  (3, 53, 0, bm_X3_kindOfLetter, 491, 492, 0, 112, 493),
  (3, 56, 2, bm_X3_fail, 483, 485, 21, 112, 486),
  (3, 60, 2, bm_X3_oneFigure, 479, 481, 20, 112, 482),
  (3, 64, 3, bm_X1_seat, 494, 496, 23, 111, 497),
  (3, 68, 3, bm_X4_get, 470, 396, 8, 109, 397),
  (4, 18, 5, bm_X0_init, 137, 138, 0, 110, 139),
  (4, 28, 3, bm_X0_set, 146, 148, 0, 110, 149),
  (4, 32, 2, bm_X4_isNumber, 373, 358, 1, 109, 359),
  (4, 36, 3, bm_X0_get, 389, 366, 3, 110, 367),
  (4, 40, 2, bm_X4_sizeOf, 385, 387, 6, 109, 388),
  (4, 43, 2, bm_X4_hasPlace, 398, 392, 7, 109, 393),
  (4, 47, 2, bm_X4_hasSpan, 427, 421, 11, 109, 422),
  (4, 51, 3, bm_X0_move, 428, 430, 13, 110, 431),
  (4, 55, 2, bm_X4_get, 444, 396, 8, 109, 397),
  (4, 58, 2, bm_X4_has, 899, 383, 5, 109, 384),
  (5, 17, 5, bm_X0_init, 268, 138, 0, 110, 139),
  (5, 33, 3, bm_X0_get, 650, 366, 3, 110, 367),
  (5, 40, 3, bm_X1_toldOf, 651, 538, 30, 111, 539),
  (5, 47, 1, bm_X1_onesOf, 652, 632, 0, 111, 633),
  (5, 51, 3, bm_X0_set, 653, 148, 0, 110, 149),
  (5, 55, 1, bm_X7_isIn, 662, 534, 0, 108, 535),
  (5, 59, 2, bm_X5_balance, 658, 660, 44, 114, 661),
  (5, 63, 2, bm_X5_toldBy, 663, 665, 45, 114, 666),
  (6, 23, 5, bm_X0_init, 286, 138, 0, 110, 139),
  (6, 40, 3, bm_X0_get, 685, 366, 3, 110, 367),
  (6, 44, 3, bm_X0_set, 686, 148, 0, 110, 149),
  (6, 48, 1, bm_X7_isIn, 687, 534, 0, 108, 535),
  (6, 52, 0, bm_X6_worthIf, 688, 689, 0, 115, 690),
  (6, 56, 2, bm_X6_worthNow, 693, 695, 48, 115, 696),
  (6, 62, 3, bm_X1_toldOf, 691, 538, 30, 111, 539),
  (6, 69, 1, bm_X1_onesOf, 692, 632, 0, 111, 633),
  (6, 73, 2, bm_X6_pressOn, 701, 703, 50, 115, 704),
  (6, 77, 2, bm_X6_canWear, 705, 707, 51, 115, 708),
  (6, 80, 2, bm_X6_wearBy, 709, 711, 52, 115, 712),
  (6, 83, 2, bm_X6_playOut, 831, 829, 64, 115, 830),
  (7, 11, 5, bm_X4_init, 131, 132, 0, 109, 133),
  (7, 23, 5, bm_X1_init, 165, 166, 0, 111, 167),
  (7, 37, 5, bm_X3_init, 226, 227, 0, 112, 228),
  (7, 44, 5, bm_X2_init, 242, 243, 0, 113, 244),
  (7, 51, 5, bm_X5_init, 263, 264, 0, 114, 265),
  (7, 58, 5, bm_X6_init, 281, 282, 0, 115, 283),
  (7, 65, 5, bm_X0_init, 308, 138, 0, 110, 139),
  (7, 86, 3, bm_X4_isNumber, 356, 358, 1, 109, 359),
  (7, 90, 2, bm_X7_found, 360, 362, 2, 108, 363),
  (7, 94, 3, bm_X4_make, 369, 371, 4, 109, 372),
  (7, 98, 0, bm_X7_missingPlace, 378, 379, 0, 108, 380),
  (7, 102, 3, bm_X4_get, 394, 396, 8, 109, 397),
  (7, 106, 3, bm_X4_set, 399, 401, 9, 109, 402),
  (7, 109, 3, bm_X4_has, 381, 383, 5, 109, 384),
  (7, 112, 3, bm_X4_drop, 411, 413, 10, 109, 414),
  (7, 115, 3, bm_X4_hasSpan, 419, 421, 11, 109, 422),
  (7, 119, 3, bm_X4_move, 423, 425, 12, 109, 426),
  (7, 123, 3, bm_X4_sizeOf, 439, 387, 6, 109, 388),
  (7, 126, 3, bm_X4_sumOf, 440, 442, 14, 109, 443),
  (7, 130, 3, bm_X3_readInto, 457, 459, 15, 112, 460),
  (7, 134, 3, bm_X1_take, 503, 505, 24, 111, 506),
  (7, 138, 2, bm_X7_forgetKept, 512, 514, 26, 108, 515),
  (7, 144, 3, bm_X1_hasBear, 525, 527, 28, 111, 528),
  (7, 147, 2, bm_X7_ofBear, 529, 531, 29, 108, 532),
  (7, 153, 3, bm_X0_get, 364, 366, 3, 110, 367),
  (7, 155, 0, bm_X7_isOfKind, 553, 547, 0, 108, 548),
  (7, 159, 3, bm_X1_markOf, 554, 556, 32, 111, 557),
  (7, 162, 2, bm_X7_answerDeed, 571, 573, 33, 108, 574),
  (7, 168, 3, bm_X1_takeBackTo, 603, 605, 37, 111, 606),
  (7, 171, 2, bm_X7_keptIn, 516, 518, 27, 108, 519),
  (7, 175, 0, bm_X7_isThing, 619, 620, 0, 108, 621),
  (7, 178, 3, bm_X1_answerOf, 622, 624, 38, 111, 625),
  (7, 181, 3, bm_X1_isSet, 638, 640, 40, 111, 641),
  (7, 184, 3, bm_X5_hear, 646, 648, 42, 114, 649),
  (7, 187, 3, bm_X5_tiedBy, 654, 656, 43, 114, 657),
  (7, 190, 3, bm_X5_shownBy, 667, 669, 46, 114, 670),
  (7, 193, 3, bm_X1_allBears, 675, 644, 41, 111, 645),
  (7, 197, 0, bm_J6_bitCount_0f7a4, 676, 559, 0, 118, 560),
  (7, 202, 0, bm_X7_isIn, 533, 534, 0, 108, 535),
  (7, 205, 3, bm_X6_open, 681, 683, 47, 115, 684),
  (7, 209, 3, bm_X6_fewestPresses, 697, 699, 49, 115, 700),
  (7, 215, 3, bm_X5_toldBy, 717, 665, 45, 114, 666),
  (7, 218, 0, bm_X7_isFewer, 718, 719, 0, 108, 720),
  (7, 221, 3, bm_X5_clash, 725, 727, 53, 114, 728),
  (7, 224, 3, bm_X5_hasRivals, 733, 735, 54, 114, 736),
  (7, 227, 2, bm_X7_readLooks, 741, 743, 55, 108, 744),
  (7, 230, 3, bm_X2_fittingSets, 753, 755, 57, 113, 756),
  (7, 234, 0, bm_X7_leastOf, 769, 770, 0, 108, 771),
  (7, 238, 0, bm_J13_bitCount_95d88, 772, 773, 0, 120, 774),
  (7, 242, 2, bm_X7_tellPart, 778, 780, 59, 108, 781),
  (7, 246, 1, bm_X2_setsWith, 789, 760, 0, 113, 761),
  (7, 251, 2, bm_X7_greatestPart, 795, 797, 60, 108, 798),
  (7, 255, 3, bm_X2_fitKind, 805, 807, 61, 113, 808),
  (7, 259, 3, bm_X2_whoSpoke, 813, 815, 62, 113, 816),
  (7, 262, 3, bm_X2_whoKeptBack, 817, 819, 63, 113, 820),
  (7, 266, 3, bm_X6_playOut, 827, 829, 64, 115, 830),
  (7, 269, 0, bm_X7_isChance, 840, 841, 0, 108, 842),
  (7, 272, 2, bm_X7_weightOf, 843, 845, 65, 108, 846),
  (7, 276, 2, bm_X7_allWeight, 847, 849, 66, 108, 850),
  (7, 287, 0, bm_X7_actOfLot, 864, 865, 0, 108, 866),
  (7, 290, 3, bm_X1_canBe, 575, 577, 34, 111, 578),
  (7, 293, 3, bm_X1_commit, 579, 581, 35, 111, 582),
  (7, 296, 2, bm_X7_shownByAll, 867, 869, 67, 108, 870),
  (7, 308, 3, bm_X0_sum, 887, 889, 68, 110, 890),
  (7, 314, 3, bm_X1_thoseOfKind, 891, 893, 69, 111, 894),
  (7, 317, 3, bm_X4_thoseThere, 895, 897, 70, 109, 898),
  (7, 320, 2, bm_X7_keptCourts, 900, 902, 71, 108, 903),
  (7, 327, 2, bm_X7_count, 918, 884, 885, 108, 886),
  (7, 330, 3, bm_X4_digestFrom, 919, 921, 72, 109, 922),
  (7, 334, 3, bm_X0_set, 368, 148, 0, 110, 149),
  (7, 336, 3, bm_X4_hasPlace, 390, 392, 7, 109, 393),
  (7, 342, 3, bm_X1_toldOf, 536, 538, 30, 111, 539),
  (7, 346, 3, bm_X1_clear, 520, 464, 16, 111, 465),
  (7, 349, 3, bm_X2_readFrom, 745, 747, 56, 113, 748),
  (7, 352, 3, bm_X1_answerIf, 799, 628, 39, 111, 629),
  (7, 363, 0, bm_X7_commonDivisor, 782, 783, 0, 108, 784),
  (8, 69, 0, bm_X8_in, 1000, 1001, 0, 116, 1002),
  (8, 75, 0, bm_X8_isRow, 996, 997, 0, 116, 998),
  (8, 79, 2, bm_X8_finds, 1003, 1005, 73, 116, 1006),
  (8, 83, 2, bm_X8_at, 1011, 1012, 1013, 116, 1014),
  (8, 87, 2, bm_X8_asks, 1015, 1017, 74, 116, 1018),
  (8, 90, 0, bm_X8_isText, 1036, 1037, 0, 116, 1038),
  (8, 96, 2, bm_X8_here, 1060, 1062, 78, 116, 1063),
  (8, 101, 2, bm_X8_takes, 1068, 1070, 80, 116, 1071),
  (8, 105, 2, bm_X8_skip, 1056, 1058, 77, 116, 1059),
  (8, 109, 2, bm_X8_takesSet, 1064, 1066, 79, 116, 1067),
  (8, 113, 0, bm_X8_kindBy, 1077, 1078, 0, 116, 1079),
  (8, 116, 2, bm_X8_takesFirst, 1052, 1054, 76, 116, 1055),
  (8, 119, 2, bm_X8_takesBear, 1073, 1075, 81, 116, 1076),
  (8, 122, 2, bm_X8_faultOf, 1048, 1050, 75, 116, 1051),
  (8, 125, 0, bm_X8_begin, 1084, 1085, 0, 116, 1086),
  (8, 129, 0, bm_X8_has, 1099, 1100, 0, 116, 1101),
  (8, 132, 0, bm_X8_seesAs, 1121, 1122, 0, 116, 1123),
  (8, 136, 0, bm_X8_tellsAs, 1118, 1119, 0, 116, 1120),
  (8, 140, 2, bm_X8_sayOf, 1114, 1116, 87, 116, 1117),
  (8, 144, 2, bm_X8_tellOf, 1110, 1112, 86, 116, 1113),
  (8, 147, 2, bm_X8_tellNow, 1106, 1108, 85, 116, 1109),
  (8, 150, 2, bm_X8_balance, 1199, 1201, 92, 116, 1202),
  (8, 154, 2, bm_X8_toldThings, 1102, 1104, 84, 116, 1105),
  (8, 157, 2, bm_X8_isBear, 1091, 1093, 82, 116, 1094),
  (8, 160, 2, bm_X8_toldOf, 1095, 1097, 83, 116, 1098),
  (8, 163, 0, bm_X8_isOf, 1128, 1129, 0, 116, 1130),
  (8, 166, 0, bm_X8_bits, 1131, 1132, 0, 116, 1133),
  (8, 169, 2, bm_X8_seesBeyond, 1134, 1136, 88, 116, 1137),
  (8, 172, 0, bm_X8_goDeed, 1153, 1154, 0, 116, 1155),
  (8, 176, 0, bm_X8_may, 1146, 1147, 0, 116, 1148),
  (8, 180, 2, bm_X8_does, 1149, 1151, 90, 116, 1152),
  (8, 183, 2, bm_X8_doesTo, 1142, 1144, 89, 116, 1145),
  (8, 188, 0, bm_X8_isShelf, 1176, 1177, 0, 116, 1178),
  (8, 191, 0, bm_X8_isThing, 1188, 1189, 0, 116, 1190),
  (8, 194, 2, bm_X8_allBears, 1195, 1197, 91, 116, 1198),
  (8, 198, 2, bm_X8_shownBy, 1203, 1205, 93, 116, 1206),
  (8, 202, 2, bm_X8_layHand, 1220, 1222, 95, 116, 1223),
  (8, 205, 2, bm_X8_goes, 1216, 1218, 94, 116, 1219),
  (8, 211, 2, bm_X8_rivalThings, 1233, 1235, 96, 116, 1236),
  (8, 216, 0, bm_X8_pairOf, 1258, 1259, 0, 116, 1260),
  (8, 219, 2, bm_X8_refusesPairs, 1249, 1251, 98, 116, 1252),
  (8, 222, 2, bm_X8_refusesLooks, 1245, 1247, 97, 116, 1248),
  (8, 225, 2, bm_X8_isTruth, 1254, 1256, 99, 116, 1257),
  (8, 232, 0, bm_X8_startOf, 1281, 1282, 0, 116, 1283),
  (8, 235, 2, bm_X8_goChoices, 1285, 1287, 100, 116, 1288),
  (8, 238, 2, bm_X8_weigh, 1289, 1291, 101, 116, 1292),
  (8, 244, 2, bm_X8_fraction, 1302, 1304, 103, 116, 1305),
  (8, 248, 2, bm_X8_goOdds, 1298, 1300, 102, 116, 1301),
  (8, 261, 2, bm_X8_sumOf, 1340, 1342, 105, 116, 1343),
  (8, 264, 2, bm_X8_manyOf, 1344, 1346, 106, 116, 1347),
  (8, 267, 0, bm_X8_manyThere, 1348, 1349, 0, 116, 1350),
  (8, 273, 2, bm_X8_counted, 1336, 1338, 104, 116, 1339),
  (9, 9, 4, bm_X7_init, 123, 124, 0, 108, 125),
  (9, 12, 4, bm_X8_init, 926, 927, 0, 116, 928),
  (9, 13, 2, bm_X7_row, 352, 353, 354, 108, 355),
  (9, 17, 2, bm_X8_row, 992, 993, 994, 116, 995),
  (9, 18, 2, bm_X7_lay, 374, 375, 376, 108, 377),
  (9, 22, 2, bm_X8_lay, 1007, 1008, 1009, 116, 1010),
  (9, 23, 2, bm_X7_at, 403, 404, 405, 108, 406),
  (9, 26, 2, bm_X8_at, 1019, 1012, 1013, 116, 1014),
  (9, 27, 2, bm_X7_tear, 407, 408, 409, 108, 410),
  (9, 31, 2, bm_X8_tear, 1020, 1021, 1022, 116, 1023),
  (9, 32, 2, bm_X7_copy, 415, 416, 417, 108, 418),
  (9, 36, 2, bm_X8_copy, 1024, 1025, 1026, 116, 1027),
  (9, 37, 2, bm_X7_mean, 435, 436, 437, 108, 438),
  (9, 40, 2, bm_X8_mean, 1028, 1029, 1030, 116, 1031),
  (9, 41, 2, bm_X7_text, 445, 446, 447, 108, 448),
  (9, 44, 2, bm_X8_text, 1032, 1033, 1034, 116, 1035),
  (9, 45, 2, bm_X7_put, 449, 450, 451, 108, 452),
  (9, 48, 2, bm_X8_put, 1040, 1041, 1042, 116, 1043),
  (9, 49, 2, bm_X7_fault, 453, 454, 455, 108, 456),
  (9, 52, 2, bm_X8_fault, 1044, 1045, 1046, 116, 1047),
  (9, 53, 2, bm_X7_court, 499, 500, 501, 108, 502),
  (9, 56, 2, bm_X8_court, 1080, 1081, 1082, 116, 1083),
  (9, 57, 2, bm_X7_bear, 521, 522, 523, 108, 524),
  (9, 60, 2, bm_X8_bear, 1087, 1088, 1089, 116, 1090),
  (9, 61, 2, bm_X7_mark, 549, 550, 551, 108, 552),
  (9, 64, 2, bm_X8_mark, 1124, 1125, 1126, 116, 1127),
  (9, 65, 2, bm_X7_press, 567, 568, 569, 108, 570),
  (9, 68, 2, bm_X8_press, 1138, 1139, 1140, 116, 1141),
  (9, 69, 2, bm_X7_mend, 587, 588, 589, 108, 590),
  (9, 72, 2, bm_X8_mend, 1156, 1157, 1158, 116, 1159),
  (9, 73, 2, bm_X7_eye, 591, 592, 593, 108, 594),
  (9, 76, 2, bm_X8_eye, 1160, 1161, 1162, 116, 1163),
  (9, 77, 2, bm_X7_turn, 595, 596, 597, 108, 598),
  (9, 80, 2, bm_X8_turn, 1164, 1165, 1166, 116, 1167),
  (9, 81, 2, bm_X7_undo, 599, 600, 601, 108, 602),
  (9, 84, 2, bm_X8_undo, 1168, 1169, 1170, 116, 1171),
  (9, 85, 2, bm_X7_keep, 607, 608, 609, 108, 610),
  (9, 88, 2, bm_X8_keep, 1172, 1173, 1174, 116, 1175),
  (9, 89, 2, bm_X7_on, 611, 612, 613, 108, 614),
  (9, 92, 2, bm_X8_on, 1180, 1181, 1182, 116, 1183),
  (9, 93, 2, bm_X7_tells, 615, 616, 617, 108, 618),
  (9, 96, 2, bm_X8_tells, 1184, 1185, 1186, 116, 1187),
  (9, 97, 2, bm_X7_shown, 634, 635, 636, 108, 637),
  (9, 100, 2, bm_X8_shown, 1191, 1192, 1193, 116, 1194),
  (9, 101, 2, bm_X7_call, 671, 672, 673, 108, 674),
  (9, 104, 2, bm_X8_call, 1207, 1208, 1209, 116, 1210),
  (9, 105, 2, bm_X7_shake, 677, 678, 679, 108, 680),
  (9, 108, 2, bm_X8_shake, 1212, 1213, 1214, 116, 1215),
  (9, 109, 2, bm_X7_cover, 713, 714, 715, 108, 716),
  (9, 112, 2, bm_X8_cover, 1224, 1225, 1226, 116, 1227),
  (9, 113, 2, bm_X7_rivals, 721, 722, 723, 108, 724),
  (9, 116, 2, bm_X8_rivals, 1229, 1230, 1231, 116, 1232),
  (9, 117, 2, bm_X7_apart, 729, 730, 731, 108, 732),
  (9, 121, 2, bm_X8_apart, 1237, 1238, 1239, 116, 1240),
  (9, 122, 2, bm_X7_truths, 737, 738, 739, 108, 740),
  (9, 125, 2, bm_X8_truths, 1241, 1242, 1243, 116, 1244),
  (9, 126, 2, bm_X7_sure, 785, 786, 787, 108, 788),
  (9, 129, 2, bm_X8_sure, 1261, 1262, 1263, 116, 1264),
  (9, 130, 2, bm_X7_next, 791, 792, 793, 108, 794),
  (9, 133, 2, bm_X8_next, 1265, 1266, 1267, 116, 1268),
  (9, 134, 2, bm_X7_kinds, 801, 802, 803, 108, 804),
  (9, 137, 2, bm_X8_kinds, 1269, 1270, 1271, 116, 1272),
  (9, 138, 2, bm_X7_walls, 809, 810, 811, 108, 812),
  (9, 141, 2, bm_X8_walls, 1273, 1274, 1275, 116, 1276),
  (9, 142, 2, bm_X7_duel, 823, 824, 825, 108, 826),
  (9, 145, 2, bm_X8_duel, 1277, 1278, 1279, 116, 1280),
  (9, 146, 2, bm_X7_odds, 836, 837, 838, 108, 839),
  (9, 149, 2, bm_X8_odds, 1293, 1294, 1295, 116, 1296),
  (9, 150, 2, bm_X7_mid, 852, 853, 854, 108, 855),
  (9, 153, 2, bm_X8_mid, 1306, 1307, 1308, 116, 1309),
  (9, 154, 2, bm_X7_lots, 856, 857, 858, 108, 859),
  (9, 157, 2, bm_X8_lots, 1310, 1311, 1312, 116, 1313),
  (9, 158, 2, bm_X7_asked, 871, 872, 873, 108, 874),
  (9, 161, 2, bm_X8_asked, 1319, 1320, 1321, 116, 1322),
  (9, 162, 2, bm_X7_upper, 875, 876, 877, 108, 878),
  (9, 166, 2, bm_X8_upper, 1323, 1324, 1325, 116, 1326),
  (9, 167, 2, bm_X7_lower, 879, 880, 881, 108, 882),
  (9, 170, 2, bm_X8_lower, 1327, 1328, 1329, 116, 1330),
  (9, 171, 2, bm_X7_count, 883, 884, 885, 108, 886),
  (9, 174, 2, bm_X8_count, 1331, 1332, 1333, 116, 1334),
  (9, 175, 2, bm_X7_finding, 904, 905, 906, 108, 907),
  (9, 178, 2, bm_X8_finding, 1351, 1352, 1353, 116, 1354),
  (9, 179, 2, bm_X7_findings, 908, 909, 910, 108, 911),
  (9, 182, 2, bm_X8_findings, 1355, 1356, 1357, 116, 1358),
  (9, 183, 2, bm_X7_digest, 912, 913, 914, 108, 915),
  (9, 186, 2, bm_X8_digest, 1359, 1360, 1361, 116, 1362)]
def bw_mt (o ix : Nat) : Option (Nat × bw_M) := (bw_MT.find? (fun e => e.1 == o && e.2.1 == ix)).map (fun e => (e.2.2.1, e.2.2.2.1))
def bw_KT : List (Nat × Nat × Value × Nat) := [(2, 60, .long (-1), 757), (4, 61, .long (31), 923), (7, 249, .long (-1), 790), (7, 280, .int (2147483646), 860), (7, 281, .long (48271), 861), (7, 283, .long (2147483647), 862), (7, 285, .long (8), 863), (7, 323, .long (17), 916), (7, 325, .long (31), 917), (7, 361, .long (12), 851), (8, 67, .long (5), 999), (8, 73, .long (3), 1039), (8, 99, .long (48), 1072), (8, 186, .long (2), 1179), (8, 201, .int (1000000), 1211), (8, 209, .long (63), 1228), (8, 214, .long (47), 1253), (8, 231, .int (-1000000), 1284), (8, 242, .long (12), 1297), (8, 251, .long (20), 1314), (8, 253, .long (2147483646), 1315), (8, 255, .long (48271), 1316), (8, 257, .long (2147483647), 1317), (8, 259, .long (8), 1318), (8, 271, .long (11), 1335), (8, 276, .long (17), 1363), (8, 278, .long (31), 1364), (10, 265, .int (1431655765), 561), (10, 266, .int (858993459), 562), (10, 267, .int (252645135), 563), (11, 314, .long (6148914691236517205), 775), (11, 316, .long (3689348814741910323), 776), (11, 318, .long (1085102592571150095), 777)]
def bw_kc (o ix : Nat) : Option Value := (bw_KT.find? (fun e => e.1 == o && e.2.1 == ix)).map (fun e => e.2.2.1)
def bw_NT : List (Nat × Nat × Nat × Nat × Nat × Nat) := [(1, 24, 0, 169, 136, 110), (2, 15, 0, 246, 136, 110), (4, 16, 0, 135, 136, 110), (5, 15, 0, 267, 136, 110), (6, 21, 0, 285, 136, 110), (7, 7, 4, 129, 130, 109), (7, 21, 1, 163, 164, 111), (7, 35, 3, 224, 225, 112), (7, 42, 2, 240, 241, 113), (7, 49, 5, 261, 262, 114), (7, 56, 6, 279, 280, 115), (7, 63, 0, 307, 136, 110), (9, 7, 7, 121, 122, 108), (9, 10, 8, 924, 925, 116)]
def bw_cl (o ix : Nat) : Option Nat := (bw_NT.find? (fun e => e.1 == o && e.2.1 == ix)).map (fun e => e.2.2.1)
def bw_anT : List (Nat × Nat × Nat) := [(7, 21, 163)]
def bw_an (o ix : Nat) : Bool := (bw_anT.find? (fun e => e.1 == o && e.2.1 == ix)).isSome
def bw_stT : List (Nat × Nat × Nat) := [(2, 30, 762)]
def bw_st (o ix : Nat) : Bool := (bw_stT.find? (fun e => e.1 == o && e.2.1 == ix)).isSome
def bw_oiT : List (Nat × Nat × Nat) := [(0, 1, 140), (1, 3, 168), (2, 3, 245), (3, 3, 229), (4, 1, 134), (5, 3, 266), (6, 3, 284), (7, 1, 126), (8, 1, 929)]
def bw_oi (o ix : Nat) : Bool := (bw_oiT.find? (fun e => e.1 == o && e.2.1 == ix)).isSome
def bw_acT : List (Nat × Nat × Nat) := [(0, 17, 432)]
def bw_ac (o ix : Nat) : Bool := (bw_acT.find? (fun e => e.1 == o && e.2.1 == ix)).isSome
def bw_mxT : List (Nat × Nat × Bool × Nat) := [(1, 94, true, 564), (6, 86, true, 832), (6, 92, false, 833), (7, 356, true, 800)]
def bw_mx (o ix : Nat) : Option Bool := (bw_mxT.find? (fun e => e.1 == o && e.2.1 == ix)).map (fun e => e.2.2.1)
