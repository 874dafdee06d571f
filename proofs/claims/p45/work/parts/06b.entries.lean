/-! single entries of the tables -/
theorem fl_0_7 : bw_fl 0 7 = some (0, 0) := by decide +kernel
theorem fl_1_9 : bw_fl 1 9 = some (1, 0) := by decide +kernel
theorem fl_1_15 : bw_fl 1 15 = some (1, 1) := by decide +kernel
theorem fl_1_18 : bw_fl 1 18 = some (1, 2) := by decide +kernel
theorem fl_1_21 : bw_fl 1 21 = some (1, 3) := by decide +kernel
theorem fl_1_29 : bw_fl 1 29 = some (1, 4) := by decide +kernel
theorem fl_1_33 : bw_fl 1 33 = some (1, 5) := by decide +kernel
theorem fl_1_36 : bw_fl 1 36 = some (1, 6) := by decide +kernel
theorem fl_1_39 : bw_fl 1 39 = some (1, 7) := by decide +kernel
theorem fl_1_42 : bw_fl 1 42 = some (1, 8) := by decide +kernel
theorem fl_1_45 : bw_fl 1 45 = some (1, 9) := by decide +kernel
theorem fl_2_9 : bw_fl 2 9 = some (2, 0) := by decide +kernel
theorem fl_2_20 : bw_fl 2 20 = some (2, 1) := by decide +kernel
theorem fl_2_24 : bw_fl 2 24 = some (2, 2) := by decide +kernel
theorem fl_2_27 : bw_fl 2 27 = some (2, 3) := by decide +kernel
theorem fl_2_62 : bw_fl 2 62 = some (1, 4) := by decide +kernel
theorem fl_2_73 : bw_fl 2 73 = some (1, 1) := by decide +kernel
theorem fl_2_76 : bw_fl 2 76 = some (1, 6) := by decide +kernel
theorem fl_3_14 : bw_fl 3 14 = some (3, 0) := by decide +kernel
theorem fl_3_20 : bw_fl 3 20 = some (3, 1) := by decide +kernel
theorem fl_3_24 : bw_fl 3 24 = some (3, 2) := by decide +kernel
theorem fl_3_27 : bw_fl 3 27 = some (3, 3) := by decide +kernel
theorem fl_3_49 : bw_fl 3 49 = some (1, 1) := by decide +kernel
theorem fl_3_70 : bw_fl 3 70 = some (1, 0) := by decide +kernel
theorem fl_4_7 : bw_fl 4 7 = some (4, 0) := by decide +kernel
theorem fl_4_13 : bw_fl 4 13 = some (4, 1) := by decide +kernel
theorem fl_4_21 : bw_fl 4 21 = some (4, 2) := by decide +kernel
theorem fl_4_25 : bw_fl 4 25 = some (4, 3) := by decide +kernel
theorem fl_5_9 : bw_fl 5 9 = some (5, 0) := by decide +kernel
theorem fl_5_20 : bw_fl 5 20 = some (5, 1) := by decide +kernel
theorem fl_5_24 : bw_fl 5 24 = some (5, 2) := by decide +kernel
theorem fl_5_27 : bw_fl 5 27 = some (1, 0) := by decide +kernel
theorem fl_5_30 : bw_fl 5 30 = some (1, 4) := by decide +kernel
theorem fl_5_37 : bw_fl 5 37 = some (1, 6) := by decide +kernel
theorem fl_5_44 : bw_fl 5 44 = some (1, 1) := by decide +kernel
theorem fl_6_9 : bw_fl 6 9 = some (6, 0) := by decide +kernel
theorem fl_6_15 : bw_fl 6 15 = some (6, 1) := by decide +kernel
theorem fl_6_18 : bw_fl 6 18 = some (6, 2) := by decide +kernel
theorem fl_6_26 : bw_fl 6 26 = some (6, 3) := by decide +kernel
theorem fl_6_30 : bw_fl 6 30 = some (6, 4) := by decide +kernel
theorem fl_6_33 : bw_fl 6 33 = some (6, 5) := by decide +kernel
theorem fl_6_36 : bw_fl 6 36 = some (1, 0) := by decide +kernel
theorem fl_6_39 : bw_fl 6 39 = some (1, 6) := by decide +kernel
theorem fl_6_59 : bw_fl 6 59 = some (1, 4) := by decide +kernel
theorem fl_6_66 : bw_fl 6 66 = some (1, 1) := by decide +kernel
theorem fl_7_14 : bw_fl 7 14 = some (7, 0) := by decide +kernel
theorem fl_7_18 : bw_fl 7 18 = some (7, 1) := by decide +kernel
theorem fl_7_24 : bw_fl 7 24 = some (7, 2) := by decide +kernel
theorem fl_7_28 : bw_fl 7 28 = some (7, 3) := by decide +kernel
theorem fl_7_31 : bw_fl 7 31 = some (7, 4) := by decide +kernel
theorem fl_7_38 : bw_fl 7 38 = some (7, 5) := by decide +kernel
theorem fl_7_45 : bw_fl 7 45 = some (7, 6) := by decide +kernel
theorem fl_7_52 : bw_fl 7 52 = some (7, 7) := by decide +kernel
theorem fl_7_59 : bw_fl 7 59 = some (7, 8) := by decide +kernel
theorem fl_7_68 : bw_fl 7 68 = some (7, 9) := by decide +kernel
theorem fl_7_72 : bw_fl 7 72 = some (7, 10) := by decide +kernel
theorem fl_7_76 : bw_fl 7 76 = some (7, 11) := by decide +kernel
theorem fl_7_79 : bw_fl 7 79 = some (7, 12) := by decide +kernel
theorem fl_7_83 : bw_fl 7 83 = some (7, 13) := by decide +kernel
theorem fl_7_141 : bw_fl 7 141 = some (1, 0) := by decide +kernel
theorem fl_7_150 : bw_fl 7 150 = some (1, 4) := by decide +kernel
theorem fl_7_165 : bw_fl 7 165 = some (1, 3) := by decide +kernel
theorem fl_7_212 : bw_fl 7 212 = some (6, 5) := by decide +kernel
theorem fl_7_299 : bw_fl 7 299 = some (1, 1) := by decide +kernel
theorem fl_7_302 : bw_fl 7 302 = some (1, 2) := by decide +kernel
theorem fl_7_305 : bw_fl 7 305 = some (1, 6) := by decide +kernel
theorem fl_7_311 : bw_fl 7 311 = some (1, 5) := by decide +kernel
theorem fl_7_339 : bw_fl 7 339 = some (1, 7) := by decide +kernel
set_option maxRecDepth 20000 in
theorem mt_0_13 : bw_mt 0 13 = some (2, bm_X0_get) := rfl
set_option maxRecDepth 20000 in
theorem mt_1_26 : bw_mt 1 26 = some (5, bm_X0_init) := rfl
set_option maxRecDepth 20000 in
theorem mt_1_48 : bw_mt 1 48 = some (3, bm_X0_take) := rfl
set_option maxRecDepth 20000 in
theorem mt_1_52 : bw_mt 1 52 = some (3, bm_X0_set) := rfl
set_option maxRecDepth 20000 in
theorem mt_1_56 : bw_mt 1 56 = some (2, bm_X1_allBears) := rfl
set_option maxRecDepth 20000 in
theorem mt_1_60 : bw_mt 1 60 = some (3, bm_X0_get) := rfl
set_option maxRecDepth 20000 in
theorem mt_1_64 : bw_mt 1 64 = some (1, bm_X7_isOfKind) := rfl
set_option maxRecDepth 20000 in
theorem mt_1_68 : bw_mt 1 68 = some (2, bm_X1_change) := rfl
set_option maxRecDepth 20000 in
theorem mt_1_72 : bw_mt 1 72 = some (1, bm_X7_isIn) := rfl
set_option maxRecDepth 20000 in
theorem mt_1_75 : bw_mt 1 75 = some (2, bm_X1_seenBy) := rfl
set_option maxRecDepth 20000 in
theorem mt_1_79 : bw_mt 1 79 = some (2, bm_X1_toldOf) := rfl
set_option maxRecDepth 20000 in
theorem mt_1_82 : bw_mt 1 82 = some (0, bm_X1_onesOf) := rfl
set_option maxRecDepth 20000 in
theorem mt_1_86 : bw_mt 1 86 = some (2, bm_X1_answerIf) := rfl
set_option maxRecDepth 20000 in
theorem mt_2_17 : bw_mt 2 17 = some (5, bm_X0_init) := rfl
set_option maxRecDepth 20000 in
theorem mt_2_34 : bw_mt 2 34 = some (3, bm_X4_has) := rfl
set_option maxRecDepth 20000 in
theorem mt_2_40 : bw_mt 2 40 = some (3, bm_X4_sizeOf) := rfl
set_option maxRecDepth 20000 in
theorem mt_2_44 : bw_mt 2 44 = some (3, bm_X4_get) := rfl
set_option maxRecDepth 20000 in
theorem mt_2_48 : bw_mt 2 48 = some (3, bm_X0_set) := rfl
set_option maxRecDepth 20000 in
theorem mt_2_52 : bw_mt 2 52 = some (3, bm_X0_get) := rfl
set_option maxRecDepth 20000 in
theorem mt_2_54 : bw_mt 2 54 = some (3, bm_X1_answerIf) := rfl
set_option maxRecDepth 20000 in
theorem mt_2_65 : bw_mt 2 65 = some (0, bm_X2_setsWith) := rfl
set_option maxRecDepth 20000 in
theorem mt_2_69 : bw_mt 2 69 = some (2, bm_X2_fits) := rfl
set_option maxRecDepth 20000 in
theorem mt_2_79 : bw_mt 2 79 = some (3, bm_X1_seenBy) := rfl
set_option maxRecDepth 20000 in
theorem mt_2_83 : bw_mt 2 83 = some (1, bm_X7_isIn) := rfl
set_option maxRecDepth 20000 in
theorem mt_3_11 : bw_mt 3 11 = some (5, bm_X0_init) := rfl
set_option maxRecDepth 20000 in
theorem mt_3_30 : bw_mt 3 30 = some (2, bm_X3_open) := rfl
set_option maxRecDepth 20000 in
theorem mt_3_34 : bw_mt 3 34 = some (3, bm_X1_clear) := rfl
set_option maxRecDepth 20000 in
theorem mt_3_39 : bw_mt 3 39 = some (2, bm_X3_skipBlanks) := rfl
set_option maxRecDepth 20000 in
theorem mt_3_42 : bw_mt 3 42 = some (2, bm_X3_byteHere) := rfl
set_option maxRecDepth 20000 in
theorem mt_3_46 : bw_mt 3 46 = some (2, bm_X3_twoFigures) := rfl
set_option maxRecDepth 20000 in
theorem mt_3_52 : bw_mt 3 52 = some (2, bm_X3_readBear) := rfl
set_option maxRecDepth 20000 in
theorem mt_3_56 : bw_mt 3 56 = some (3, bm_X4_sizeOf) := rfl
set_option maxRecDepth 20000 in
theorem mt_3_62 : bw_mt 3 62 = some (3, bm_X4_get) := rfl
set_option maxRecDepth 20000 in
theorem mt_3_66 : bw_mt 3 66 = some (3, bm_X0_set) := rfl
set_option maxRecDepth 20000 in
theorem mt_3_73 : bw_mt 3 73 = some (0, bm_X3_kindOfLetter) := rfl
set_option maxRecDepth 20000 in
theorem mt_3_76 : bw_mt 3 76 = some (2, bm_X3_fail) := rfl
set_option maxRecDepth 20000 in
theorem mt_3_79 : bw_mt 3 79 = some (2, bm_X3_oneFigure) := rfl
set_option maxRecDepth 20000 in
theorem mt_3_82 : bw_mt 3 82 = some (3, bm_X1_seat) := rfl
set_option maxRecDepth 20000 in
theorem mt_3_86 : bw_mt 3 86 = some (3, bm_X0_get) := rfl
set_option maxRecDepth 20000 in
theorem mt_4_18 : bw_mt 4 18 = some (5, bm_X0_init) := rfl
set_option maxRecDepth 20000 in
theorem mt_4_28 : bw_mt 4 28 = some (3, bm_X0_set) := rfl
set_option maxRecDepth 20000 in
theorem mt_4_32 : bw_mt 4 32 = some (2, bm_X4_isNumber) := rfl
set_option maxRecDepth 20000 in
theorem mt_4_36 : bw_mt 4 36 = some (3, bm_X0_get) := rfl
set_option maxRecDepth 20000 in
theorem mt_4_40 : bw_mt 4 40 = some (2, bm_X4_sizeOf) := rfl
set_option maxRecDepth 20000 in
theorem mt_4_43 : bw_mt 4 43 = some (2, bm_X4_hasPlace) := rfl
set_option maxRecDepth 20000 in
theorem mt_4_55 : bw_mt 4 55 = some (2, bm_X4_get) := rfl
set_option maxRecDepth 20000 in
theorem mt_4_58 : bw_mt 4 58 = some (2, bm_X4_has) := rfl
set_option maxRecDepth 20000 in
theorem mt_5_17 : bw_mt 5 17 = some (5, bm_X0_init) := rfl
set_option maxRecDepth 20000 in
theorem mt_5_33 : bw_mt 5 33 = some (3, bm_X0_get) := rfl
set_option maxRecDepth 20000 in
theorem mt_5_40 : bw_mt 5 40 = some (3, bm_X1_toldOf) := rfl
set_option maxRecDepth 20000 in
theorem mt_5_47 : bw_mt 5 47 = some (1, bm_X1_onesOf) := rfl
set_option maxRecDepth 20000 in
theorem mt_5_51 : bw_mt 5 51 = some (3, bm_X0_set) := rfl
set_option maxRecDepth 20000 in
theorem mt_5_55 : bw_mt 5 55 = some (1, bm_X7_isIn) := rfl
set_option maxRecDepth 20000 in
theorem mt_5_59 : bw_mt 5 59 = some (2, bm_X5_balance) := rfl
set_option maxRecDepth 20000 in
theorem mt_5_63 : bw_mt 5 63 = some (2, bm_X5_toldBy) := rfl
set_option maxRecDepth 20000 in
theorem mt_6_23 : bw_mt 6 23 = some (5, bm_X0_init) := rfl
set_option maxRecDepth 20000 in
theorem mt_6_40 : bw_mt 6 40 = some (3, bm_X0_get) := rfl
set_option maxRecDepth 20000 in
theorem mt_6_44 : bw_mt 6 44 = some (3, bm_X0_set) := rfl
set_option maxRecDepth 20000 in
theorem mt_6_48 : bw_mt 6 48 = some (1, bm_X7_isIn) := rfl
set_option maxRecDepth 20000 in
theorem mt_6_52 : bw_mt 6 52 = some (0, bm_X6_worthIf) := rfl
set_option maxRecDepth 20000 in
theorem mt_6_56 : bw_mt 6 56 = some (2, bm_X6_worthNow) := rfl
set_option maxRecDepth 20000 in
theorem mt_6_62 : bw_mt 6 62 = some (3, bm_X1_toldOf) := rfl
set_option maxRecDepth 20000 in
theorem mt_6_69 : bw_mt 6 69 = some (1, bm_X1_onesOf) := rfl
set_option maxRecDepth 20000 in
theorem mt_6_73 : bw_mt 6 73 = some (2, bm_X6_pressOn) := rfl
set_option maxRecDepth 20000 in
theorem mt_6_77 : bw_mt 6 77 = some (2, bm_X6_canWear) := rfl
set_option maxRecDepth 20000 in
theorem mt_6_80 : bw_mt 6 80 = some (2, bm_X6_wearBy) := rfl
set_option maxRecDepth 20000 in
theorem mt_6_83 : bw_mt 6 83 = some (2, bm_X6_playOut) := rfl
set_option maxRecDepth 20000 in
theorem mt_7_11 : bw_mt 7 11 = some (5, bm_X4_init) := rfl
set_option maxRecDepth 20000 in
theorem mt_7_23 : bw_mt 7 23 = some (5, bm_X1_init) := rfl
set_option maxRecDepth 20000 in
theorem mt_7_37 : bw_mt 7 37 = some (5, bm_X3_init) := rfl
set_option maxRecDepth 20000 in
theorem mt_7_44 : bw_mt 7 44 = some (5, bm_X2_init) := rfl
set_option maxRecDepth 20000 in
theorem mt_7_51 : bw_mt 7 51 = some (5, bm_X5_init) := rfl
set_option maxRecDepth 20000 in
theorem mt_7_58 : bw_mt 7 58 = some (5, bm_X6_init) := rfl
set_option maxRecDepth 20000 in
theorem mt_7_65 : bw_mt 7 65 = some (5, bm_X0_init) := rfl
set_option maxRecDepth 20000 in
theorem mt_7_86 : bw_mt 7 86 = some (3, bm_X4_isNumber) := rfl
set_option maxRecDepth 20000 in
theorem mt_7_90 : bw_mt 7 90 = some (2, bm_X7_found) := rfl
set_option maxRecDepth 20000 in
theorem mt_7_94 : bw_mt 7 94 = some (3, bm_X4_make) := rfl
set_option maxRecDepth 20000 in
theorem mt_7_98 : bw_mt 7 98 = some (0, bm_X7_missingPlace) := rfl
set_option maxRecDepth 20000 in
theorem mt_7_102 : bw_mt 7 102 = some (3, bm_X4_get) := rfl
set_option maxRecDepth 20000 in
theorem mt_7_106 : bw_mt 7 106 = some (3, bm_X4_set) := rfl
set_option maxRecDepth 20000 in
theorem mt_7_109 : bw_mt 7 109 = some (3, bm_X4_has) := rfl
set_option maxRecDepth 20000 in
theorem mt_7_130 : bw_mt 7 130 = some (3, bm_X3_readInto) := rfl
set_option maxRecDepth 20000 in
theorem mt_7_134 : bw_mt 7 134 = some (3, bm_X1_take) := rfl
set_option maxRecDepth 20000 in
theorem mt_7_138 : bw_mt 7 138 = some (2, bm_X7_forgetKept) := rfl
set_option maxRecDepth 20000 in
theorem mt_7_144 : bw_mt 7 144 = some (3, bm_X1_hasBear) := rfl
set_option maxRecDepth 20000 in
theorem mt_7_147 : bw_mt 7 147 = some (2, bm_X7_ofBear) := rfl
set_option maxRecDepth 20000 in
theorem mt_7_153 : bw_mt 7 153 = some (3, bm_X0_get) := rfl
set_option maxRecDepth 20000 in
theorem mt_7_162 : bw_mt 7 162 = some (2, bm_X7_answerDeed) := rfl
set_option maxRecDepth 20000 in
theorem mt_7_168 : bw_mt 7 168 = some (3, bm_X1_takeBackTo) := rfl
set_option maxRecDepth 20000 in
theorem mt_7_171 : bw_mt 7 171 = some (2, bm_X7_keptIn) := rfl
set_option maxRecDepth 20000 in
theorem mt_7_175 : bw_mt 7 175 = some (0, bm_X7_isThing) := rfl
set_option maxRecDepth 20000 in
theorem mt_7_178 : bw_mt 7 178 = some (3, bm_X1_answerOf) := rfl
set_option maxRecDepth 20000 in
theorem mt_7_181 : bw_mt 7 181 = some (3, bm_X1_isSet) := rfl
set_option maxRecDepth 20000 in
theorem mt_7_184 : bw_mt 7 184 = some (3, bm_X5_hear) := rfl
set_option maxRecDepth 20000 in
theorem mt_7_187 : bw_mt 7 187 = some (3, bm_X5_tiedBy) := rfl
set_option maxRecDepth 20000 in
theorem mt_7_190 : bw_mt 7 190 = some (3, bm_X5_shownBy) := rfl
set_option maxRecDepth 20000 in
theorem mt_7_193 : bw_mt 7 193 = some (3, bm_X1_allBears) := rfl
set_option maxRecDepth 20000 in
theorem mt_7_197 : bw_mt 7 197 = some (0, bm_J6_bitCount_0f7a4) := rfl
set_option maxRecDepth 20000 in
theorem mt_7_202 : bw_mt 7 202 = some (0, bm_X7_isIn) := rfl
set_option maxRecDepth 20000 in
theorem mt_7_205 : bw_mt 7 205 = some (3, bm_X6_open) := rfl
set_option maxRecDepth 20000 in
theorem mt_7_209 : bw_mt 7 209 = some (3, bm_X6_fewestPresses) := rfl
set_option maxRecDepth 20000 in
theorem mt_7_215 : bw_mt 7 215 = some (3, bm_X5_toldBy) := rfl
set_option maxRecDepth 20000 in
theorem mt_7_218 : bw_mt 7 218 = some (0, bm_X7_isFewer) := rfl
set_option maxRecDepth 20000 in
theorem mt_7_221 : bw_mt 7 221 = some (3, bm_X5_clash) := rfl
set_option maxRecDepth 20000 in
theorem mt_7_224 : bw_mt 7 224 = some (3, bm_X5_hasRivals) := rfl
set_option maxRecDepth 20000 in
theorem mt_7_227 : bw_mt 7 227 = some (2, bm_X7_readLooks) := rfl
set_option maxRecDepth 20000 in
theorem mt_7_230 : bw_mt 7 230 = some (3, bm_X2_fittingSets) := rfl
set_option maxRecDepth 20000 in
theorem mt_7_234 : bw_mt 7 234 = some (0, bm_X7_leastOf) := rfl
set_option maxRecDepth 20000 in
theorem mt_7_238 : bw_mt 7 238 = some (0, bm_J13_bitCount_95d88) := rfl
set_option maxRecDepth 20000 in
theorem mt_7_242 : bw_mt 7 242 = some (2, bm_X7_tellPart) := rfl
set_option maxRecDepth 20000 in
theorem mt_7_246 : bw_mt 7 246 = some (1, bm_X2_setsWith) := rfl
set_option maxRecDepth 20000 in
theorem mt_7_251 : bw_mt 7 251 = some (2, bm_X7_greatestPart) := rfl
set_option maxRecDepth 20000 in
theorem mt_7_255 : bw_mt 7 255 = some (3, bm_X2_fitKind) := rfl
set_option maxRecDepth 20000 in
theorem mt_7_259 : bw_mt 7 259 = some (3, bm_X2_whoSpoke) := rfl
set_option maxRecDepth 20000 in
theorem mt_7_262 : bw_mt 7 262 = some (3, bm_X2_whoKeptBack) := rfl
set_option maxRecDepth 20000 in
theorem mt_7_266 : bw_mt 7 266 = some (3, bm_X6_playOut) := rfl
set_option maxRecDepth 20000 in
theorem mt_7_269 : bw_mt 7 269 = some (0, bm_X7_isChance) := rfl
set_option maxRecDepth 20000 in
theorem mt_7_272 : bw_mt 7 272 = some (2, bm_X7_weightOf) := rfl
set_option maxRecDepth 20000 in
theorem mt_7_276 : bw_mt 7 276 = some (2, bm_X7_allWeight) := rfl
set_option maxRecDepth 20000 in
theorem mt_7_287 : bw_mt 7 287 = some (0, bm_X7_actOfLot) := rfl
set_option maxRecDepth 20000 in
theorem mt_7_290 : bw_mt 7 290 = some (3, bm_X1_canBe) := rfl
set_option maxRecDepth 20000 in
theorem mt_7_293 : bw_mt 7 293 = some (3, bm_X1_commit) := rfl
set_option maxRecDepth 20000 in
theorem mt_7_296 : bw_mt 7 296 = some (2, bm_X7_shownByAll) := rfl
set_option maxRecDepth 20000 in
theorem mt_7_308 : bw_mt 7 308 = some (3, bm_X0_sum) := rfl
set_option maxRecDepth 20000 in
theorem mt_7_314 : bw_mt 7 314 = some (3, bm_X1_thoseOfKind) := rfl
set_option maxRecDepth 20000 in
theorem mt_7_317 : bw_mt 7 317 = some (3, bm_X4_thoseThere) := rfl
set_option maxRecDepth 20000 in
theorem mt_7_320 : bw_mt 7 320 = some (2, bm_X7_keptCourts) := rfl
set_option maxRecDepth 20000 in
theorem mt_7_327 : bw_mt 7 327 = some (2, bm_X7_count) := rfl
set_option maxRecDepth 20000 in
theorem mt_7_330 : bw_mt 7 330 = some (3, bm_X4_digestFrom) := rfl
set_option maxRecDepth 20000 in
theorem mt_7_334 : bw_mt 7 334 = some (3, bm_X0_set) := rfl
set_option maxRecDepth 20000 in
theorem mt_7_336 : bw_mt 7 336 = some (3, bm_X4_hasPlace) := rfl
set_option maxRecDepth 20000 in
theorem mt_7_342 : bw_mt 7 342 = some (3, bm_X1_toldOf) := rfl
set_option maxRecDepth 20000 in
theorem mt_7_346 : bw_mt 7 346 = some (3, bm_X1_clear) := rfl
set_option maxRecDepth 20000 in
theorem mt_7_349 : bw_mt 7 349 = some (3, bm_X2_readFrom) := rfl
set_option maxRecDepth 20000 in
theorem mt_7_352 : bw_mt 7 352 = some (3, bm_X1_answerIf) := rfl
set_option maxRecDepth 20000 in
theorem mt_7_363 : bw_mt 7 363 = some (0, bm_X7_commonDivisor) := rfl
set_option maxRecDepth 20000 in
theorem mt_9_9 : bw_mt 9 9 = some (0, bm_L_cell) := rfl
set_option maxRecDepth 20000 in
theorem mt_9_15 : bw_mt 9 15 = some (0, bm_L_up) := rfl
set_option maxRecDepth 20000 in
theorem mt_9_19 : bw_mt 9 19 = some (2, bm_X7_put) := rfl
set_option maxRecDepth 20000 in
theorem mt_9_25 : bw_mt 9 25 = some (2, bm_X7_text) := rfl
set_option maxRecDepth 20000 in
theorem mt_9_28 : bw_mt 9 28 = some (0, bm_L_sign) := rfl
set_option maxRecDepth 20000 in
theorem mt_9_32 : bw_mt 9 32 = some (0, bm_L_letter) := rfl
set_option maxRecDepth 20000 in
theorem mt_9_36 : bw_mt 9 36 = some (2, bm_X7_court) := rfl
set_option maxRecDepth 20000 in
theorem mt_9_39 : bw_mt 9 39 = some (2, bm_X7_bear) := rfl
set_option maxRecDepth 20000 in
theorem mt_9_42 : bw_mt 9 42 = some (2, bm_X7_asked) := rfl
set_option maxRecDepth 20000 in
theorem mt_9_46 : bw_mt 9 46 = some (4, bm_X7_init) := rfl
set_option maxRecDepth 20000 in
theorem mt_9_47 : bw_mt 9 47 = some (0, bm_L_lay) := rfl
set_option maxRecDepth 20000 in
theorem mt_9_51 : bw_mt 9 51 = some (0, bm_L_made) := rfl
set_option maxRecDepth 20000 in
theorem mt_9_56 : bw_mt 9 56 = some (2, bm_X7_lots) := rfl
set_option maxRecDepth 20000 in
theorem mt_9_59 : bw_mt 9 59 = some (2, bm_X7_count) := rfl
set_option maxRecDepth 20000 in
theorem mt_9_62 : bw_mt 9 62 = some (0, bm_L_bits) := rfl
set_option maxRecDepth 20000 in
theorem mt_9_65 : bw_mt 9 65 = some (2, bm_X7_keep) := rfl
set_option maxRecDepth 20000 in
theorem mt_9_68 : bw_mt 9 68 = some (0, bm_L_told) := rfl
set_option maxRecDepth 20000 in
theorem mt_9_72 : bw_mt 9 72 = some (2, bm_X7_tells) := rfl
set_option maxRecDepth 20000 in
theorem mt_9_75 : bw_mt 9 75 = some (2, bm_X7_shown) := rfl
set_option maxRecDepth 20000 in
theorem mt_9_78 : bw_mt 9 78 = some (2, bm_X7_duel) := rfl
set_option maxRecDepth 20000 in
theorem mt_9_81 : bw_mt 9 81 = some (2, bm_X7_call) := rfl
set_option maxRecDepth 20000 in
theorem mt_9_84 : bw_mt 9 84 = some (0, bm_L_asked) := rfl
set_option maxRecDepth 20000 in
theorem mt_9_87 : bw_mt 9 87 = some (2, bm_X7_shake) := rfl
set_option maxRecDepth 20000 in
theorem mt_9_90 : bw_mt 9 90 = some (2, bm_X7_at) := rfl
set_option maxRecDepth 20000 in
theorem mt_9_93 : bw_mt 9 93 = some (2, bm_X7_press) := rfl
set_option maxRecDepth 20000 in
theorem mt_9_96 : bw_mt 9 96 = some (2, bm_X7_on) := rfl
set_option maxRecDepth 20000 in
theorem mt_9_99 : bw_mt 9 99 = some (2, bm_X7_cover) := rfl
set_option maxRecDepth 20000 in
theorem mt_9_102 : bw_mt 9 102 = some (2, bm_X7_apart) := rfl
set_option maxRecDepth 20000 in
theorem mt_9_105 : bw_mt 9 105 = some (2, bm_X7_rivals) := rfl
set_option maxRecDepth 20000 in
theorem mt_9_108 : bw_mt 9 108 = some (2, bm_X7_row) := rfl
set_option maxRecDepth 20000 in
theorem mt_9_111 : bw_mt 9 111 = some (2, bm_X7_lay) := rfl
set_option maxRecDepth 20000 in
theorem mt_9_113 : bw_mt 9 113 = some (2, bm_X7_truths) := rfl
set_option maxRecDepth 20000 in
theorem mt_9_116 : bw_mt 9 116 = some (2, bm_X7_upper) := rfl
set_option maxRecDepth 20000 in
theorem mt_9_122 : bw_mt 9 122 = some (2, bm_X7_sure) := rfl
set_option maxRecDepth 20000 in
theorem mt_9_125 : bw_mt 9 125 = some (2, bm_X7_next) := rfl
set_option maxRecDepth 20000 in
theorem mt_9_128 : bw_mt 9 128 = some (2, bm_X7_walls) := rfl
set_option maxRecDepth 20000 in
theorem mt_9_133 : bw_mt 9 133 = some (2, bm_X7_kinds) := rfl
set_option maxRecDepth 20000 in
theorem mt_9_136 : bw_mt 9 136 = some (2, bm_X7_odds) := rfl
set_option maxRecDepth 20000 in
theorem mt_9_139 : bw_mt 9 139 = some (2, bm_X7_lower) := rfl
set_option maxRecDepth 20000 in
theorem mt_9_142 : bw_mt 9 142 = some (2, bm_X7_mid) := rfl
set_option maxRecDepth 20000 in
theorem mt_9_147 : bw_mt 9 147 = some (2, bm_X7_mend) := rfl
set_option maxRecDepth 20000 in
theorem mt_9_150 : bw_mt 9 150 = some (2, bm_X7_eye) := rfl
set_option maxRecDepth 20000 in
theorem mt_9_153 : bw_mt 9 153 = some (2, bm_X7_turn) := rfl
set_option maxRecDepth 20000 in
theorem mt_9_156 : bw_mt 9 156 = some (2, bm_X7_undo) := rfl
set_option maxRecDepth 20000 in
theorem mt_9_159 : bw_mt 9 159 = some (2, bm_X7_digest) := rfl
theorem kc_2_60 : bw_kc 2 60 = some (.long (-1)) := by decide +kernel
theorem kc_4_61 : bw_kc 4 61 = some (.long (31)) := by decide +kernel
theorem kc_7_249 : bw_kc 7 249 = some (.long (-1)) := by decide +kernel
theorem kc_7_280 : bw_kc 7 280 = some (.int (2147483646)) := by decide +kernel
theorem kc_7_281 : bw_kc 7 281 = some (.long (48271)) := by decide +kernel
theorem kc_7_283 : bw_kc 7 283 = some (.long (2147483647)) := by decide +kernel
theorem kc_7_285 : bw_kc 7 285 = some (.long (8)) := by decide +kernel
theorem kc_7_323 : bw_kc 7 323 = some (.long (17)) := by decide +kernel
theorem kc_7_325 : bw_kc 7 325 = some (.long (31)) := by decide +kernel
theorem kc_7_361 : bw_kc 7 361 = some (.long (12)) := by decide +kernel
theorem kc_9_7 : bw_kc 9 7 = some (.int (-1894007587)) := by decide +kernel
theorem kc_9_8 : bw_kc 9 8 = some (.int (2147483647)) := by decide +kernel
theorem kc_9_55 : bw_kc 9 55 = some (.int (2000000)) := by decide +kernel
theorem kc_9_120 : bw_kc 9 120 = some (.long (64)) := by decide +kernel
theorem kc_9_131 : bw_kc 9 131 = some (.long (2)) := by decide +kernel
theorem kc_9_145 : bw_kc 9 145 = some (.long (6)) := by decide +kernel
theorem kc_10_265 : bw_kc 10 265 = some (.int (1431655765)) := by decide +kernel
theorem kc_10_266 : bw_kc 10 266 = some (.int (858993459)) := by decide +kernel
theorem kc_10_267 : bw_kc 10 267 = some (.int (252645135)) := by decide +kernel
theorem kc_11_314 : bw_kc 11 314 = some (.long (6148914691236517205)) := by decide +kernel
theorem kc_11_316 : bw_kc 11 316 = some (.long (3689348814741910323)) := by decide +kernel
theorem kc_11_318 : bw_kc 11 318 = some (.long (1085102592571150095)) := by decide +kernel
