/-! the tables hold: each link is a word of the claim's tables -/
theorem bw_FT_ok : bw_FT.all (fun e => decide (e.2.2.1 < 9) && decide (e.2.2.2.1 < bw_N e.2.2.1) && decide (lw_tbl[e.2.2.2.2.2]? = some (if e.2.2.2.2.1 = true then Cond.fieldLinkNest (bw_R e.1) e.2.1 (bw_T e.2.2.1 e.2.2.2.1).1 (bw_T e.2.2.1 e.2.2.2.1).2.1 (bw_T e.2.2.1 e.2.2.2.1).2.2.1 "BearWitness" else Cond.fieldLink (bw_R e.1) e.2.1 (bw_T e.2.2.1 e.2.2.2.1).1 (bw_T e.2.2.1 e.2.2.2.1).2.1 (bw_T e.2.2.1 e.2.2.2.1).2.2.1))) = true := by decide +kernel
theorem bw_FT_ok2 : bw_FT.all (fun e => !e.2.2.2.2.1 || decide (e.2.2.1 ≠ e.1)) = true := by decide +kernel
theorem bw_MT_ok : bw_MT.all (fun e => decide (lw_tbl[e.2.2.2.2.1]? = some (if e.2.2.1 % 2 = 1 then Cond.methodLinkNest (bw_R e.1) e.2.1 e.2.2.2.1.2.1 "BearWitness" else Cond.methodLink (bw_R e.1) e.2.1 e.2.2.2.1.2.1)) && decide (lw_tbl[e.2.2.2.2.2.1]? = some (if e.2.2.1 ≤ 1 then Cond.static e.2.2.2.1.2.1 else Cond.instanceMethod e.2.2.2.1.2.1)) && (decide (e.2.2.1 ≠ 2 ∧ e.2.2.1 ≠ 3) || decide (lw_tbl[e.2.2.2.2.2.2.1]? = some (Cond.selects e.2.2.2.1.2.1.cls e.2.2.2.1.2.1 e.2.2.2.1.2.1))) && decide (lw_tbl[e.2.2.2.2.2.2.2.1]? = some (Cond.initialized e.2.2.2.1.2.1.cls))) = true := by decide +kernel
theorem bw_MT_ok2 : bw_MT.all (fun e => decide (e.2.2.1 ≤ 5) && decide (e.2.2.2.1.2.1.cls ≠ "java/lang/invoke/MethodHandle" ∧ e.2.2.2.1.2.1.cls ≠ "java/lang/invoke/VarHandle")) = true := by decide +kernel
theorem bw_MT_ok3 : bw_MT.all (fun e => decide (bw_R e.2.2.2.1.1 = e.2.2.2.1.2.1.cls)) = true := by decide +kernel
theorem bw_MT_ok4 : bw_MT.all (fun e => decide ((parseMethodDescriptor e.2.2.2.1.2.1.desc).map (fun d => d.parameters.length) = some e.2.2.2.1.2.2.2.2.2)) = true := by decide +kernel
theorem bw_MT_ok5 : bw_MT.all (fun e => Jvm.plainName e.2.2.2.1.2.1.cls) = true := by decide +kernel
def bw_all {α : Type} (P : α → Prop) : List α → Prop
  | [] => True
  | a :: l => P a ∧ bw_all P l
theorem bw_all_mem {α : Type} {P : α → Prop} : ∀ {l : List α}, bw_all P l → ∀ a ∈ l, P a
  | [], _, a, h => absurd h List.not_mem_nil
  | b :: l, h, a, ha => by
    rcases List.mem_cons.mp ha with rfl | ha
    · exact h.1
    · exact bw_all_mem h.2 a ha
abbrev bw_cd (M : bw_M) : Cond := Cond.code M.2.1 M.2.2.1 M.2.2.2.1 M.2.2.2.2.1
set_option maxRecDepth 100000 in
theorem cd_X4_init : bw_cd bm_X4_init ∈ lw_tbl := List.mem_of_getElem? (i := 92) rfl
set_option maxRecDepth 100000 in
theorem cd_X1_init : bw_cd bm_X1_init ∈ lw_tbl := List.mem_of_getElem? (i := 126) rfl
set_option maxRecDepth 100000 in
theorem cd_X3_init : bw_cd bm_X3_init ∈ lw_tbl := List.mem_of_getElem? (i := 187) rfl
set_option maxRecDepth 100000 in
theorem cd_X2_init : bw_cd bm_X2_init ∈ lw_tbl := List.mem_of_getElem? (i := 208) rfl
set_option maxRecDepth 100000 in
theorem cd_X5_init : bw_cd bm_X5_init ∈ lw_tbl := List.mem_of_getElem? (i := 229) rfl
set_option maxRecDepth 100000 in
theorem cd_X6_init : bw_cd bm_X6_init ∈ lw_tbl := List.mem_of_getElem? (i := 247) rfl
set_option maxRecDepth 100000 in
theorem cd_X0_init : bw_cd bm_X0_init ∈ lw_tbl := List.mem_of_getElem? (i := 98) rfl
set_option maxRecDepth 100000 in
theorem cd_X7_missingPlace : bw_cd bm_X7_missingPlace ∈ lw_tbl := List.mem_of_getElem? (i := 344) rfl
set_option maxRecDepth 100000 in
theorem cd_X7_isThing : bw_cd bm_X7_isThing ∈ lw_tbl := List.mem_of_getElem? (i := 503) rfl
set_option maxRecDepth 100000 in
theorem cd_J6_bitCount_0f7a4 : bw_cd bm_J6_bitCount_0f7a4 ∈ lw_tbl := List.mem_of_getElem? (i := 571) rfl
set_option maxRecDepth 100000 in
theorem cd_X7_isIn : bw_cd bm_X7_isIn ∈ lw_tbl := List.mem_of_getElem? (i := 468) rfl
set_option maxRecDepth 100000 in
theorem cd_X7_isFewer : bw_cd bm_X7_isFewer ∈ lw_tbl := List.mem_of_getElem? (i := 618) rfl
set_option maxRecDepth 100000 in
theorem cd_X7_leastOf : bw_cd bm_X7_leastOf ∈ lw_tbl := List.mem_of_getElem? (i := 669) rfl
set_option maxRecDepth 100000 in
theorem cd_J13_bitCount_95d88 : bw_cd bm_J13_bitCount_95d88 ∈ lw_tbl := List.mem_of_getElem? (i := 672) rfl
set_option maxRecDepth 100000 in
theorem cd_X2_setsWith : bw_cd bm_X2_setsWith ∈ lw_tbl := List.mem_of_getElem? (i := 659) rfl
set_option maxRecDepth 100000 in
theorem cd_X7_isChance : bw_cd bm_X7_isChance ∈ lw_tbl := List.mem_of_getElem? (i := 742) rfl
set_option maxRecDepth 100000 in
theorem cd_X7_actOfLot : bw_cd bm_X7_actOfLot ∈ lw_tbl := List.mem_of_getElem? (i := 766) rfl
set_option maxRecDepth 100000 in
theorem cd_X7_commonDivisor : bw_cd bm_X7_commonDivisor ∈ lw_tbl := List.mem_of_getElem? (i := 682) rfl
set_option maxRecDepth 100000 in
theorem cd_X4_isNumber : bw_cd bm_X4_isNumber ∈ lw_tbl := List.mem_of_getElem? (i := 323) rfl
set_option maxRecDepth 100000 in
theorem cd_X7_found : bw_cd bm_X7_found ∈ lw_tbl := List.mem_of_getElem? (i := 327) rfl
set_option maxRecDepth 100000 in
theorem cd_X4_make : bw_cd bm_X4_make ∈ lw_tbl := List.mem_of_getElem? (i := 336) rfl
set_option maxRecDepth 100000 in
theorem cd_X4_get : bw_cd bm_X4_get ∈ lw_tbl := List.mem_of_getElem? (i := 361) rfl
set_option maxRecDepth 100000 in
theorem cd_X4_set : bw_cd bm_X4_set ∈ lw_tbl := List.mem_of_getElem? (i := 366) rfl
set_option maxRecDepth 100000 in
theorem cd_X4_has : bw_cd bm_X4_has ∈ lw_tbl := List.mem_of_getElem? (i := 348) rfl
set_option maxRecDepth 100000 in
theorem cd_X3_readInto : bw_cd bm_X3_readInto ∈ lw_tbl := List.mem_of_getElem? (i := 378) rfl
set_option maxRecDepth 100000 in
theorem cd_X1_take : bw_cd bm_X1_take ∈ lw_tbl := List.mem_of_getElem? (i := 426) rfl
set_option maxRecDepth 100000 in
theorem cd_X7_forgetKept : bw_cd bm_X7_forgetKept ∈ lw_tbl := List.mem_of_getElem? (i := 435) rfl
set_option maxRecDepth 100000 in
theorem cd_X1_hasBear : bw_cd bm_X1_hasBear ∈ lw_tbl := List.mem_of_getElem? (i := 452) rfl
set_option maxRecDepth 100000 in
theorem cd_X7_ofBear : bw_cd bm_X7_ofBear ∈ lw_tbl := List.mem_of_getElem? (i := 814) rfl
set_option maxRecDepth 100000 in
theorem cd_X0_get : bw_cd bm_X0_get ∈ lw_tbl := List.mem_of_getElem? (i := 331) rfl
set_option maxRecDepth 100000 in
theorem cd_X7_answerDeed : bw_cd bm_X7_answerDeed ∈ lw_tbl := List.mem_of_getElem? (i := 448) rfl
set_option maxRecDepth 100000 in
theorem cd_X1_takeBackTo : bw_cd bm_X1_takeBackTo ∈ lw_tbl := List.mem_of_getElem? (i := 488) rfl
set_option maxRecDepth 100000 in
theorem cd_X7_keptIn : bw_cd bm_X7_keptIn ∈ lw_tbl := List.mem_of_getElem? (i := 439) rfl
set_option maxRecDepth 100000 in
theorem cd_X1_answerOf : bw_cd bm_X1_answerOf ∈ lw_tbl := List.mem_of_getElem? (i := 507) rfl
set_option maxRecDepth 100000 in
theorem cd_X1_isSet : bw_cd bm_X1_isSet ∈ lw_tbl := List.mem_of_getElem? (i := 534) rfl
set_option maxRecDepth 100000 in
theorem cd_X5_hear : bw_cd bm_X5_hear ∈ lw_tbl := List.mem_of_getElem? (i := 542) rfl
set_option maxRecDepth 100000 in
theorem cd_X5_tiedBy : bw_cd bm_X5_tiedBy ∈ lw_tbl := List.mem_of_getElem? (i := 550) rfl
set_option maxRecDepth 100000 in
theorem cd_X5_shownBy : bw_cd bm_X5_shownBy ∈ lw_tbl := List.mem_of_getElem? (i := 563) rfl
set_option maxRecDepth 100000 in
theorem cd_X1_allBears : bw_cd bm_X1_allBears ∈ lw_tbl := List.mem_of_getElem? (i := 538) rfl
set_option maxRecDepth 100000 in
theorem cd_X6_open : bw_cd bm_X6_open ∈ lw_tbl := List.mem_of_getElem? (i := 582) rfl
set_option maxRecDepth 100000 in
theorem cd_X6_fewestPresses : bw_cd bm_X6_fewestPresses ∈ lw_tbl := List.mem_of_getElem? (i := 598) rfl
set_option maxRecDepth 100000 in
theorem cd_X5_toldBy : bw_cd bm_X5_toldBy ∈ lw_tbl := List.mem_of_getElem? (i := 559) rfl
set_option maxRecDepth 100000 in
theorem cd_X5_clash : bw_cd bm_X5_clash ∈ lw_tbl := List.mem_of_getElem? (i := 626) rfl
set_option maxRecDepth 100000 in
theorem cd_X5_hasRivals : bw_cd bm_X5_hasRivals ∈ lw_tbl := List.mem_of_getElem? (i := 634) rfl
set_option maxRecDepth 100000 in
theorem cd_X7_readLooks : bw_cd bm_X7_readLooks ∈ lw_tbl := List.mem_of_getElem? (i := 642) rfl
set_option maxRecDepth 100000 in
theorem cd_X2_fittingSets : bw_cd bm_X2_fittingSets ∈ lw_tbl := List.mem_of_getElem? (i := 654) rfl
set_option maxRecDepth 100000 in
theorem cd_X7_tellPart : bw_cd bm_X7_tellPart ∈ lw_tbl := List.mem_of_getElem? (i := 679) rfl
set_option maxRecDepth 100000 in
theorem cd_X7_greatestPart : bw_cd bm_X7_greatestPart ∈ lw_tbl := List.mem_of_getElem? (i := 696) rfl
set_option maxRecDepth 100000 in
theorem cd_X2_fitKind : bw_cd bm_X2_fitKind ∈ lw_tbl := List.mem_of_getElem? (i := 708) rfl
set_option maxRecDepth 100000 in
theorem cd_X2_whoSpoke : bw_cd bm_X2_whoSpoke ∈ lw_tbl := List.mem_of_getElem? (i := 716) rfl
set_option maxRecDepth 100000 in
theorem cd_X2_whoKeptBack : bw_cd bm_X2_whoKeptBack ∈ lw_tbl := List.mem_of_getElem? (i := 720) rfl
set_option maxRecDepth 100000 in
theorem cd_X6_playOut : bw_cd bm_X6_playOut ∈ lw_tbl := List.mem_of_getElem? (i := 730) rfl
set_option maxRecDepth 100000 in
theorem cd_X7_weightOf : bw_cd bm_X7_weightOf ∈ lw_tbl := List.mem_of_getElem? (i := 746) rfl
set_option maxRecDepth 100000 in
theorem cd_X7_allWeight : bw_cd bm_X7_allWeight ∈ lw_tbl := List.mem_of_getElem? (i := 750) rfl
set_option maxRecDepth 100000 in
theorem cd_X1_canBe : bw_cd bm_X1_canBe ∈ lw_tbl := List.mem_of_getElem? (i := 456) rfl
set_option maxRecDepth 100000 in
theorem cd_X1_commit : bw_cd bm_X1_commit ∈ lw_tbl := List.mem_of_getElem? (i := 461) rfl
set_option maxRecDepth 100000 in
theorem cd_X7_shownByAll : bw_cd bm_X7_shownByAll ∈ lw_tbl := List.mem_of_getElem? (i := 770) rfl
set_option maxRecDepth 100000 in
theorem cd_X0_sum : bw_cd bm_X0_sum ∈ lw_tbl := List.mem_of_getElem? (i := 790) rfl
set_option maxRecDepth 100000 in
theorem cd_X1_thoseOfKind : bw_cd bm_X1_thoseOfKind ∈ lw_tbl := List.mem_of_getElem? (i := 794) rfl
set_option maxRecDepth 100000 in
theorem cd_X4_thoseThere : bw_cd bm_X4_thoseThere ∈ lw_tbl := List.mem_of_getElem? (i := 798) rfl
set_option maxRecDepth 100000 in
theorem cd_X7_keptCourts : bw_cd bm_X7_keptCourts ∈ lw_tbl := List.mem_of_getElem? (i := 803) rfl
set_option maxRecDepth 100000 in
theorem cd_X7_count : bw_cd bm_X7_count ∈ lw_tbl := List.mem_of_getElem? (i := 786) rfl
set_option maxRecDepth 100000 in
theorem cd_X4_digestFrom : bw_cd bm_X4_digestFrom ∈ lw_tbl := List.mem_of_getElem? (i := 819) rfl
set_option maxRecDepth 100000 in
theorem cd_X0_set : bw_cd bm_X0_set ∈ lw_tbl := List.mem_of_getElem? (i := 108) rfl
set_option maxRecDepth 100000 in
theorem cd_X4_hasPlace : bw_cd bm_X4_hasPlace ∈ lw_tbl := List.mem_of_getElem? (i := 357) rfl
set_option maxRecDepth 100000 in
theorem cd_X1_toldOf : bw_cd bm_X1_toldOf ∈ lw_tbl := List.mem_of_getElem? (i := 515) rfl
set_option maxRecDepth 100000 in
theorem cd_X1_clear : bw_cd bm_X1_clear ∈ lw_tbl := List.mem_of_getElem? (i := 389) rfl
set_option maxRecDepth 100000 in
theorem cd_X2_readFrom : bw_cd bm_X2_readFrom ∈ lw_tbl := List.mem_of_getElem? (i := 646) rfl
set_option maxRecDepth 100000 in
theorem cd_X1_answerIf : bw_cd bm_X1_answerIf ∈ lw_tbl := List.mem_of_getElem? (i := 511) rfl
set_option maxRecDepth 100000 in
theorem cd_X7_isOfKind : bw_cd bm_X7_isOfKind ∈ lw_tbl := List.mem_of_getElem? (i := 523) rfl
set_option maxRecDepth 100000 in
theorem cd_X1_onesOf : bw_cd bm_X1_onesOf ∈ lw_tbl := List.mem_of_getElem? (i := 526) rfl
set_option maxRecDepth 100000 in
theorem cd_X0_take : bw_cd bm_X0_take ∈ lw_tbl := List.mem_of_getElem? (i := 430) rfl
set_option maxRecDepth 100000 in
theorem cd_X1_change : bw_cd bm_X1_change ∈ lw_tbl := List.mem_of_getElem? (i := 465) rfl
set_option maxRecDepth 100000 in
theorem cd_X1_seenBy : bw_cd bm_X1_seenBy ∈ lw_tbl := List.mem_of_getElem? (i := 520) rfl
set_option maxRecDepth 100000 in
theorem cd_X4_sizeOf : bw_cd bm_X4_sizeOf ∈ lw_tbl := List.mem_of_getElem? (i := 352) rfl
set_option maxRecDepth 100000 in
theorem cd_X2_fits : bw_cd bm_X2_fits ∈ lw_tbl := List.mem_of_getElem? (i := 665) rfl
set_option maxRecDepth 100000 in
theorem cd_X3_kindOfLetter : bw_cd bm_X3_kindOfLetter ∈ lw_tbl := List.mem_of_getElem? (i := 417) rfl
set_option maxRecDepth 100000 in
theorem cd_X3_open : bw_cd bm_X3_open ∈ lw_tbl := List.mem_of_getElem? (i := 382) rfl
set_option maxRecDepth 100000 in
theorem cd_X3_skipBlanks : bw_cd bm_X3_skipBlanks ∈ lw_tbl := List.mem_of_getElem? (i := 393) rfl
set_option maxRecDepth 100000 in
theorem cd_X3_byteHere : bw_cd bm_X3_byteHere ∈ lw_tbl := List.mem_of_getElem? (i := 398) rfl
set_option maxRecDepth 100000 in
theorem cd_X3_twoFigures : bw_cd bm_X3_twoFigures ∈ lw_tbl := List.mem_of_getElem? (i := 402) rfl
set_option maxRecDepth 100000 in
theorem cd_X3_readBear : bw_cd bm_X3_readBear ∈ lw_tbl := List.mem_of_getElem? (i := 414) rfl
set_option maxRecDepth 100000 in
theorem cd_X3_fail : bw_cd bm_X3_fail ∈ lw_tbl := List.mem_of_getElem? (i := 410) rfl
set_option maxRecDepth 100000 in
theorem cd_X3_oneFigure : bw_cd bm_X3_oneFigure ∈ lw_tbl := List.mem_of_getElem? (i := 406) rfl
set_option maxRecDepth 100000 in
theorem cd_X1_seat : bw_cd bm_X1_seat ∈ lw_tbl := List.mem_of_getElem? (i := 421) rfl
set_option maxRecDepth 100000 in
theorem cd_X5_balance : bw_cd bm_X5_balance ∈ lw_tbl := List.mem_of_getElem? (i := 554) rfl
set_option maxRecDepth 100000 in
theorem cd_X6_worthIf : bw_cd bm_X6_worthIf ∈ lw_tbl := List.mem_of_getElem? (i := 588) rfl
set_option maxRecDepth 100000 in
theorem cd_X6_worthNow : bw_cd bm_X6_worthNow ∈ lw_tbl := List.mem_of_getElem? (i := 594) rfl
set_option maxRecDepth 100000 in
theorem cd_X6_pressOn : bw_cd bm_X6_pressOn ∈ lw_tbl := List.mem_of_getElem? (i := 602) rfl
set_option maxRecDepth 100000 in
theorem cd_X6_canWear : bw_cd bm_X6_canWear ∈ lw_tbl := List.mem_of_getElem? (i := 606) rfl
set_option maxRecDepth 100000 in
theorem cd_X6_wearBy : bw_cd bm_X6_wearBy ∈ lw_tbl := List.mem_of_getElem? (i := 610) rfl
set_option maxRecDepth 100000 in
theorem cd_X7_init : bw_cd bm_X7_init ∈ lw_tbl := List.mem_of_getElem? (i := 84) rfl
set_option maxRecDepth 100000 in
theorem cd_L_cell : bw_cd bm_L_cell ∈ lw_tbl := List.mem_of_getElem? (i := 824) rfl
set_option maxRecDepth 100000 in
theorem cd_L_up : bw_cd bm_L_up ∈ lw_tbl := List.mem_of_getElem? (i := 828) rfl
set_option maxRecDepth 100000 in
theorem cd_L_sign : bw_cd bm_L_sign ∈ lw_tbl := List.mem_of_getElem? (i := 842) rfl
set_option maxRecDepth 100000 in
theorem cd_L_letter : bw_cd bm_L_letter ∈ lw_tbl := List.mem_of_getElem? (i := 849) rfl
set_option maxRecDepth 100000 in
theorem cd_L_lay : bw_cd bm_L_lay ∈ lw_tbl := List.mem_of_getElem? (i := 832) rfl
set_option maxRecDepth 100000 in
theorem cd_L_made : bw_cd bm_L_made ∈ lw_tbl := List.mem_of_getElem? (i := 835) rfl
set_option maxRecDepth 100000 in
theorem cd_L_bits : bw_cd bm_L_bits ∈ lw_tbl := List.mem_of_getElem? (i := 852) rfl
set_option maxRecDepth 100000 in
theorem cd_L_told : bw_cd bm_L_told ∈ lw_tbl := List.mem_of_getElem? (i := 855) rfl
set_option maxRecDepth 100000 in
theorem cd_L_asked : bw_cd bm_L_asked ∈ lw_tbl := List.mem_of_getElem? (i := 862) rfl
set_option maxRecDepth 100000 in
theorem cd_X7_put : bw_cd bm_X7_put ∈ lw_tbl := List.mem_of_getElem? (i := 846) rfl
set_option maxRecDepth 100000 in
theorem cd_X7_text : bw_cd bm_X7_text ∈ lw_tbl := List.mem_of_getElem? (i := 839) rfl
set_option maxRecDepth 100000 in
theorem cd_X7_court : bw_cd bm_X7_court ∈ lw_tbl := List.mem_of_getElem? (i := 374) rfl
set_option maxRecDepth 100000 in
theorem cd_X7_bear : bw_cd bm_X7_bear ∈ lw_tbl := List.mem_of_getElem? (i := 859) rfl
set_option maxRecDepth 100000 in
theorem cd_X7_asked : bw_cd bm_X7_asked ∈ lw_tbl := List.mem_of_getElem? (i := 774) rfl
set_option maxRecDepth 100000 in
theorem cd_X7_lots : bw_cd bm_X7_lots ∈ lw_tbl := List.mem_of_getElem? (i := 759) rfl
set_option maxRecDepth 100000 in
theorem cd_X7_keep : bw_cd bm_X7_keep ∈ lw_tbl := List.mem_of_getElem? (i := 492) rfl
set_option maxRecDepth 100000 in
theorem cd_X7_tells : bw_cd bm_X7_tells ∈ lw_tbl := List.mem_of_getElem? (i := 500) rfl
set_option maxRecDepth 100000 in
theorem cd_X7_shown : bw_cd bm_X7_shown ∈ lw_tbl := List.mem_of_getElem? (i := 530) rfl
set_option maxRecDepth 100000 in
theorem cd_X7_duel : bw_cd bm_X7_duel ∈ lw_tbl := List.mem_of_getElem? (i := 726) rfl
set_option maxRecDepth 100000 in
theorem cd_X7_call : bw_cd bm_X7_call ∈ lw_tbl := List.mem_of_getElem? (i := 567) rfl
set_option maxRecDepth 100000 in
theorem cd_X7_shake : bw_cd bm_X7_shake ∈ lw_tbl := List.mem_of_getElem? (i := 578) rfl
set_option maxRecDepth 100000 in
theorem cd_X7_at : bw_cd bm_X7_at ∈ lw_tbl := List.mem_of_getElem? (i := 370) rfl
set_option maxRecDepth 100000 in
theorem cd_X7_press : bw_cd bm_X7_press ∈ lw_tbl := List.mem_of_getElem? (i := 444) rfl
set_option maxRecDepth 100000 in
theorem cd_X7_on : bw_cd bm_X7_on ∈ lw_tbl := List.mem_of_getElem? (i := 496) rfl
set_option maxRecDepth 100000 in
theorem cd_X7_cover : bw_cd bm_X7_cover ∈ lw_tbl := List.mem_of_getElem? (i := 614) rfl
set_option maxRecDepth 100000 in
theorem cd_X7_apart : bw_cd bm_X7_apart ∈ lw_tbl := List.mem_of_getElem? (i := 630) rfl
set_option maxRecDepth 100000 in
theorem cd_X7_rivals : bw_cd bm_X7_rivals ∈ lw_tbl := List.mem_of_getElem? (i := 622) rfl
set_option maxRecDepth 100000 in
theorem cd_X7_row : bw_cd bm_X7_row ∈ lw_tbl := List.mem_of_getElem? (i := 319) rfl
set_option maxRecDepth 100000 in
theorem cd_X7_lay : bw_cd bm_X7_lay ∈ lw_tbl := List.mem_of_getElem? (i := 341) rfl
set_option maxRecDepth 100000 in
theorem cd_X7_truths : bw_cd bm_X7_truths ∈ lw_tbl := List.mem_of_getElem? (i := 638) rfl
set_option maxRecDepth 100000 in
theorem cd_X7_upper : bw_cd bm_X7_upper ∈ lw_tbl := List.mem_of_getElem? (i := 778) rfl
set_option maxRecDepth 100000 in
theorem cd_X7_sure : bw_cd bm_X7_sure ∈ lw_tbl := List.mem_of_getElem? (i := 686) rfl
set_option maxRecDepth 100000 in
theorem cd_X7_next : bw_cd bm_X7_next ∈ lw_tbl := List.mem_of_getElem? (i := 692) rfl
set_option maxRecDepth 100000 in
theorem cd_X7_walls : bw_cd bm_X7_walls ∈ lw_tbl := List.mem_of_getElem? (i := 712) rfl
set_option maxRecDepth 100000 in
theorem cd_X7_kinds : bw_cd bm_X7_kinds ∈ lw_tbl := List.mem_of_getElem? (i := 704) rfl
set_option maxRecDepth 100000 in
theorem cd_X7_odds : bw_cd bm_X7_odds ∈ lw_tbl := List.mem_of_getElem? (i := 739) rfl
set_option maxRecDepth 100000 in
theorem cd_X7_lower : bw_cd bm_X7_lower ∈ lw_tbl := List.mem_of_getElem? (i := 782) rfl
set_option maxRecDepth 100000 in
theorem cd_X7_mid : bw_cd bm_X7_mid ∈ lw_tbl := List.mem_of_getElem? (i := 755) rfl
set_option maxRecDepth 100000 in
theorem cd_X7_mend : bw_cd bm_X7_mend ∈ lw_tbl := List.mem_of_getElem? (i := 472) rfl
set_option maxRecDepth 100000 in
theorem cd_X7_eye : bw_cd bm_X7_eye ∈ lw_tbl := List.mem_of_getElem? (i := 476) rfl
set_option maxRecDepth 100000 in
theorem cd_X7_turn : bw_cd bm_X7_turn ∈ lw_tbl := List.mem_of_getElem? (i := 480) rfl
set_option maxRecDepth 100000 in
theorem cd_X7_undo : bw_cd bm_X7_undo ∈ lw_tbl := List.mem_of_getElem? (i := 484) rfl
set_option maxRecDepth 100000 in
theorem cd_X7_digest : bw_cd bm_X7_digest ∈ lw_tbl := List.mem_of_getElem? (i := 807) rfl
set_option maxRecDepth 100000 in
theorem bw_MT_code : bw_all (fun e => bw_cd e.2.2.2.1 ∈ lw_tbl) bw_MT := ⟨cd_X0_get, cd_X0_init, cd_X0_take, cd_X0_set, cd_X1_allBears, cd_X0_get, cd_X7_isOfKind, cd_X1_change, cd_X7_isIn, cd_X1_seenBy, cd_X1_toldOf, cd_X1_onesOf, cd_X1_answerIf, cd_X0_init, cd_X4_has, cd_X4_sizeOf, cd_X4_get, cd_X0_set, cd_X0_get, cd_X1_answerIf, cd_X2_setsWith, cd_X2_fits, cd_X1_seenBy, cd_X7_isIn, cd_X0_init, cd_X3_open, cd_X1_clear, cd_X3_skipBlanks, cd_X3_byteHere, cd_X3_twoFigures, cd_X3_readBear, cd_X4_sizeOf, cd_X4_get, cd_X0_set, cd_X3_kindOfLetter, cd_X3_fail, cd_X3_oneFigure, cd_X1_seat, cd_X0_get, cd_X0_init, cd_X0_set, cd_X4_isNumber, cd_X0_get, cd_X4_sizeOf, cd_X4_hasPlace, cd_X4_get, cd_X4_has, cd_X0_init, cd_X0_get, cd_X1_toldOf, cd_X1_onesOf, cd_X0_set, cd_X7_isIn, cd_X5_balance, cd_X5_toldBy, cd_X0_init, cd_X0_get, cd_X0_set, cd_X7_isIn, cd_X6_worthIf, cd_X6_worthNow, cd_X1_toldOf, cd_X1_onesOf, cd_X6_pressOn, cd_X6_canWear, cd_X6_wearBy, cd_X6_playOut, cd_X4_init, cd_X1_init, cd_X3_init, cd_X2_init, cd_X5_init, cd_X6_init, cd_X0_init, cd_X4_isNumber, cd_X7_found, cd_X4_make, cd_X7_missingPlace, cd_X4_get, cd_X4_set, cd_X4_has, cd_X3_readInto, cd_X1_take, cd_X7_forgetKept, cd_X1_hasBear, cd_X7_ofBear, cd_X0_get, cd_X7_answerDeed, cd_X1_takeBackTo, cd_X7_keptIn, cd_X7_isThing, cd_X1_answerOf, cd_X1_isSet, cd_X5_hear, cd_X5_tiedBy, cd_X5_shownBy, cd_X1_allBears, cd_J6_bitCount_0f7a4, cd_X7_isIn, cd_X6_open, cd_X6_fewestPresses, cd_X5_toldBy, cd_X7_isFewer, cd_X5_clash, cd_X5_hasRivals, cd_X7_readLooks, cd_X2_fittingSets, cd_X7_leastOf, cd_J13_bitCount_95d88, cd_X7_tellPart, cd_X2_setsWith, cd_X7_greatestPart, cd_X2_fitKind, cd_X2_whoSpoke, cd_X2_whoKeptBack, cd_X6_playOut, cd_X7_isChance, cd_X7_weightOf, cd_X7_allWeight, cd_X7_actOfLot, cd_X1_canBe, cd_X1_commit, cd_X7_shownByAll, cd_X0_sum, cd_X1_thoseOfKind, cd_X4_thoseThere, cd_X7_keptCourts, cd_X7_count, cd_X4_digestFrom, cd_X0_set, cd_X4_hasPlace, cd_X1_toldOf, cd_X1_clear, cd_X2_readFrom, cd_X1_answerIf, cd_X7_commonDivisor, cd_L_cell, cd_L_up, cd_X7_put, cd_X7_text, cd_L_sign, cd_L_letter, cd_X7_court, cd_X7_bear, cd_X7_asked, cd_X7_init, cd_L_lay, cd_L_made, cd_X7_lots, cd_X7_count, cd_L_bits, cd_X7_keep, cd_L_told, cd_X7_tells, cd_X7_shown, cd_X7_duel, cd_X7_call, cd_L_asked, cd_X7_shake, cd_X7_at, cd_X7_press, cd_X7_on, cd_X7_cover, cd_X7_apart, cd_X7_rivals, cd_X7_row, cd_X7_lay, cd_X7_truths, cd_X7_upper, cd_X7_sure, cd_X7_next, cd_X7_walls, cd_X7_kinds, cd_X7_odds, cd_X7_lower, cd_X7_mid, cd_X7_mend, cd_X7_eye, cd_X7_turn, cd_X7_undo, cd_X7_digest, trivial⟩
theorem bw_KT_ok : bw_KT.all (fun e => decide (lw_tbl[e.2.2.2]? = some (match e.2.2.1 with | .int x => Cond.constant (bw_R e.1) e.2.1 x | .long x => Cond.constantLong (bw_R e.1) e.2.1 x | _ => Cond.tt))) = true := by decide +kernel
theorem bw_NT_ok : bw_NT.all (fun e => decide (e.2.2.1 < 9) && decide (lw_tbl[e.2.2.2.1]? = some (Cond.classLink (bw_R e.1) e.2.1 (bw_R e.2.2.1))) && decide (lw_tbl[e.2.2.2.2.1]? = some (Cond.instantiable (bw_R e.2.2.1) (bw_N e.2.2.1))) && decide (lw_tbl[e.2.2.2.2.2]? = some (Cond.initialized (bw_R e.2.2.1)))) = true := by decide +kernel
theorem bw_anT_ok : bw_anT.all (fun e => decide (lw_tbl[e.2.2]? = some (Cond.classLink (bw_R e.1) e.2.1 RX1))) = true := by decide +kernel
theorem bw_stT_ok : bw_stT.all (fun e => decide (lw_tbl[e.2.2]? = some (Cond.fieldLink (bw_R e.1) e.2.1 "BearWitness$Looks" "SETS_WITH" "[J"))) = true := by decide +kernel
theorem bw_oiT_ok : bw_oiT.all (fun e => decide (lw_tbl[e.2.2]? = some (Cond.methodLink (bw_R e.1) e.2.1 objectInit))) = true := by decide +kernel
theorem bw_acT_ok : bw_acT.all (fun e => decide (lw_tbl[e.2.2]? = some (Cond.methodLink (bw_R e.1) e.2.1 arraycopyName))) = true := by decide +kernel
theorem bw_mxT_ok : bw_mxT.all (fun e => decide (lw_tbl[e.2.2.2]? = some (Cond.methodLink (bw_R e.1) e.2.1 (if e.2.2.1 = true then Lib.Math.max.name else Lib.Math.min.name)))) = true := by decide +kernel
theorem bw_w_max1 : Cond.static Lib.Math.max.name ∈ lw_tbl := List.mem_of_getElem? (i := 699) (by decide +kernel)
theorem bw_w_max2 : Cond.code Lib.Math.max.name Lib.Math.max.code 2 (some .int) ∈ lw_tbl := List.mem_of_getElem? (i := 700) (by decide +kernel)
theorem bw_w_min1 : Cond.static Lib.Math.min.name ∈ lw_tbl := List.mem_of_getElem? (i := 734) (by decide +kernel)
theorem bw_w_min2 : Cond.code Lib.Math.min.name Lib.Math.min.code 2 (some .int) ∈ lw_tbl := List.mem_of_getElem? (i := 735) (by decide +kernel)
theorem bw_w_mm : Cond.initialized "java/lang/Math" ∈ lw_tbl := List.mem_of_getElem? (i := 78) (by decide +kernel)
theorem bw_w_oi1 : Cond.instanceMethod objectInit ∈ lw_tbl := List.mem_of_getElem? (i := 86) (by decide +kernel)
theorem bw_w_oi2 : Cond.code objectInit ⟨#[0xb1]⟩ 1 none ∈ lw_tbl := List.mem_of_getElem? (i := 87) (by decide +kernel)
theorem bw_w_arI : Cond.arrayClass .int ∈ lw_tbl := List.mem_of_getElem? (i := 104) (by decide +kernel)
theorem bw_w_arZ : Cond.arrayClass .long ∈ lw_tbl := List.mem_of_getElem? (i := 867) (by decide +kernel)
theorem bw_w_aro : Cond.arrayOver (.object RX1) ∈ lw_tbl := List.mem_of_getElem? (i := 182) (by decide +kernel)
