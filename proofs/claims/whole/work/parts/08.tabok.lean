/-! the tables hold: each link is a word of the claim's tables -/
theorem bw_FT_ok : bw_FT.all (fun e => decide (e.2.2.1 < 9) && decide (e.2.2.2.1 < bw_N e.2.2.1) && decide (lw_tbl[e.2.2.2.2.2]? = some (if e.2.2.2.2.1 = true then Cond.fieldLinkNest (bw_R e.1) e.2.1 (bw_T e.2.2.1 e.2.2.2.1).1 (bw_T e.2.2.1 e.2.2.2.1).2.1 (bw_T e.2.2.1 e.2.2.2.1).2.2.1 "BearWitness" else Cond.fieldLink (bw_R e.1) e.2.1 (bw_T e.2.2.1 e.2.2.2.1).1 (bw_T e.2.2.1 e.2.2.2.1).2.1 (bw_T e.2.2.1 e.2.2.2.1).2.2.1))) = true := by decide +kernel
theorem bw_FT_ok2 : bw_FT.all (fun e => !e.2.2.2.2.1 || decide (e.2.2.1 ≠ e.1)) = true := by decide +kernel
theorem bw_MT_ok : bw_MT.all (fun e => decide (lw_tbl[e.2.2.2.2.1]? = some (if e.2.2.1 % 2 = 1 then Cond.methodLinkNest (bw_R e.1) e.2.1 e.2.2.2.1.2.1 "BearWitness" else Cond.methodLink (bw_R e.1) e.2.1 e.2.2.2.1.2.1)) && decide (lw_tbl[e.2.2.2.2.2.1]? = some (if e.2.2.1 ≤ 1 then Cond.static e.2.2.2.1.2.1 else Cond.instanceMethod e.2.2.2.1.2.1)) && (decide (e.2.2.1 ≠ 2 ∧ e.2.2.1 ≠ 3) || decide (lw_tbl[e.2.2.2.2.2.2.1]? = some (Cond.selects e.2.2.2.1.2.1.cls e.2.2.2.1.2.1 e.2.2.2.1.2.1))) && decide (lw_tbl[e.2.2.2.2.2.2.2.1]? = some (Cond.initialized e.2.2.2.1.2.1.cls))) = true := by decide +kernel
theorem bw_MT_ok2 : bw_MT.all (fun e => decide (e.2.2.1 ≤ 5) && decide (e.2.2.2.1.2.1.cls ≠ "java/lang/invoke/MethodHandle" ∧ e.2.2.2.1.2.1.cls ≠ "java/lang/invoke/VarHandle")) = true := by decide +kernel
theorem bw_MT_ok3 : bw_MT.all (fun e => decide (bw_R e.2.2.2.1.1 = e.2.2.2.1.2.1.cls)) = true := by decide +kernel
theorem bw_MT_ok4 : bw_MT.all (fun e => decide ((parseMethodDescriptor e.2.2.2.1.2.1.desc).map (fun d => d.parameters.length) = some e.2.2.2.1.2.2.2.2.2)) = true := by decide +kernel
theorem bw_MT_ok5 : bw_MT.all (fun e => Jvm.plainName e.2.2.2.1.2.1.cls) = true := by decide +kernel
def bw_all {α : Type} (P : α → Prop) : List α → Prop
  | [] => True
  | a :: l => P a ∧ bw_all P l
theorem bw_all_mem {α : Type} {P : α → Prop} : ∀ {l : List α}, bw_all P l → ∀ a ∈ l, P a
  | [], _, a, h => absurd h List.not_mem_nil
  | b :: l, h, a, ha => by
    rcases List.mem_cons.mp ha with rfl | ha
    · exact h.1
    · exact bw_all_mem h.2 a ha
abbrev bw_cd (M : bw_M) : Cond := Cond.code M.2.1 M.2.2.1 M.2.2.2.1 M.2.2.2.2.1
set_option maxRecDepth 100000 in
theorem cd_X4_init : bw_cd bm_X4_init ∈ lw_tbl := List.mem_of_getElem? (i := 134) rfl
set_option maxRecDepth 100000 in
theorem cd_X1_init : bw_cd bm_X1_init ∈ lw_tbl := List.mem_of_getElem? (i := 168) rfl
set_option maxRecDepth 100000 in
theorem cd_X3_init : bw_cd bm_X3_init ∈ lw_tbl := List.mem_of_getElem? (i := 229) rfl
set_option maxRecDepth 100000 in
theorem cd_X2_init : bw_cd bm_X2_init ∈ lw_tbl := List.mem_of_getElem? (i := 250) rfl
set_option maxRecDepth 100000 in
theorem cd_X5_init : bw_cd bm_X5_init ∈ lw_tbl := List.mem_of_getElem? (i := 271) rfl
set_option maxRecDepth 100000 in
theorem cd_X6_init : bw_cd bm_X6_init ∈ lw_tbl := List.mem_of_getElem? (i := 289) rfl
set_option maxRecDepth 100000 in
theorem cd_X0_init : bw_cd bm_X0_init ∈ lw_tbl := List.mem_of_getElem? (i := 140) rfl
set_option maxRecDepth 100000 in
theorem cd_X7_missingPlace : bw_cd bm_X7_missingPlace ∈ lw_tbl := List.mem_of_getElem? (i := 386) rfl
set_option maxRecDepth 100000 in
theorem cd_X7_isOfKind : bw_cd bm_X7_isOfKind ∈ lw_tbl := List.mem_of_getElem? (i := 560) rfl
set_option maxRecDepth 100000 in
theorem cd_X7_isThing : bw_cd bm_X7_isThing ∈ lw_tbl := List.mem_of_getElem? (i := 633) rfl
set_option maxRecDepth 100000 in
theorem cd_J6_bitCount_0f7a4 : bw_cd bm_J6_bitCount_0f7a4 ∈ lw_tbl := List.mem_of_getElem? (i := 572) rfl
set_option maxRecDepth 100000 in
theorem cd_X7_isIn : bw_cd bm_X7_isIn ∈ lw_tbl := List.mem_of_getElem? (i := 547) rfl
set_option maxRecDepth 100000 in
theorem cd_X7_isFewer : bw_cd bm_X7_isFewer ∈ lw_tbl := List.mem_of_getElem? (i := 732) rfl
set_option maxRecDepth 100000 in
theorem cd_X7_leastOf : bw_cd bm_X7_leastOf ∈ lw_tbl := List.mem_of_getElem? (i := 783) rfl
set_option maxRecDepth 100000 in
theorem cd_J13_bitCount_95d88 : bw_cd bm_J13_bitCount_95d88 ∈ lw_tbl := List.mem_of_getElem? (i := 786) rfl
set_option maxRecDepth 100000 in
theorem cd_X2_setsWith : bw_cd bm_X2_setsWith ∈ lw_tbl := List.mem_of_getElem? (i := 773) rfl
set_option maxRecDepth 100000 in
theorem cd_X7_isChance : bw_cd bm_X7_isChance ∈ lw_tbl := List.mem_of_getElem? (i := 854) rfl
set_option maxRecDepth 100000 in
theorem cd_X7_actOfLot : bw_cd bm_X7_actOfLot ∈ lw_tbl := List.mem_of_getElem? (i := 878) rfl
set_option maxRecDepth 100000 in
theorem cd_X7_commonDivisor : bw_cd bm_X7_commonDivisor ∈ lw_tbl := List.mem_of_getElem? (i := 796) rfl
set_option maxRecDepth 100000 in
theorem cd_X4_isNumber : bw_cd bm_X4_isNumber ∈ lw_tbl := List.mem_of_getElem? (i := 365) rfl
set_option maxRecDepth 100000 in
theorem cd_X7_found : bw_cd bm_X7_found ∈ lw_tbl := List.mem_of_getElem? (i := 369) rfl
set_option maxRecDepth 100000 in
theorem cd_X4_make : bw_cd bm_X4_make ∈ lw_tbl := List.mem_of_getElem? (i := 378) rfl
set_option maxRecDepth 100000 in
theorem cd_X4_get : bw_cd bm_X4_get ∈ lw_tbl := List.mem_of_getElem? (i := 403) rfl
set_option maxRecDepth 100000 in
theorem cd_X4_set : bw_cd bm_X4_set ∈ lw_tbl := List.mem_of_getElem? (i := 408) rfl
set_option maxRecDepth 100000 in
theorem cd_X4_has : bw_cd bm_X4_has ∈ lw_tbl := List.mem_of_getElem? (i := 390) rfl
set_option maxRecDepth 100000 in
theorem cd_X4_drop : bw_cd bm_X4_drop ∈ lw_tbl := List.mem_of_getElem? (i := 420) rfl
set_option maxRecDepth 100000 in
theorem cd_X4_hasSpan : bw_cd bm_X4_hasSpan ∈ lw_tbl := List.mem_of_getElem? (i := 428) rfl
set_option maxRecDepth 100000 in
theorem cd_X4_move : bw_cd bm_X4_move ∈ lw_tbl := List.mem_of_getElem? (i := 432) rfl
set_option maxRecDepth 100000 in
theorem cd_X4_sizeOf : bw_cd bm_X4_sizeOf ∈ lw_tbl := List.mem_of_getElem? (i := 394) rfl
set_option maxRecDepth 100000 in
theorem cd_X4_sumOf : bw_cd bm_X4_sumOf ∈ lw_tbl := List.mem_of_getElem? (i := 449) rfl
set_option maxRecDepth 100000 in
theorem cd_X3_readInto : bw_cd bm_X3_readInto ∈ lw_tbl := List.mem_of_getElem? (i := 466) rfl
set_option maxRecDepth 100000 in
theorem cd_X1_take : bw_cd bm_X1_take ∈ lw_tbl := List.mem_of_getElem? (i := 518) rfl
set_option maxRecDepth 100000 in
theorem cd_X7_forgetKept : bw_cd bm_X7_forgetKept ∈ lw_tbl := List.mem_of_getElem? (i := 527) rfl
set_option maxRecDepth 100000 in
theorem cd_X1_hasBear : bw_cd bm_X1_hasBear ∈ lw_tbl := List.mem_of_getElem? (i := 540) rfl
set_option maxRecDepth 100000 in
theorem cd_X7_ofBear : bw_cd bm_X7_ofBear ∈ lw_tbl := List.mem_of_getElem? (i := 544) rfl
set_option maxRecDepth 100000 in
theorem cd_X0_get : bw_cd bm_X0_get ∈ lw_tbl := List.mem_of_getElem? (i := 373) rfl
set_option maxRecDepth 100000 in
theorem cd_X1_markOf : bw_cd bm_X1_markOf ∈ lw_tbl := List.mem_of_getElem? (i := 569) rfl
set_option maxRecDepth 100000 in
theorem cd_X7_answerDeed : bw_cd bm_X7_answerDeed ∈ lw_tbl := List.mem_of_getElem? (i := 586) rfl
set_option maxRecDepth 100000 in
theorem cd_X1_takeBackTo : bw_cd bm_X1_takeBackTo ∈ lw_tbl := List.mem_of_getElem? (i := 618) rfl
set_option maxRecDepth 100000 in
theorem cd_X7_keptIn : bw_cd bm_X7_keptIn ∈ lw_tbl := List.mem_of_getElem? (i := 531) rfl
set_option maxRecDepth 100000 in
theorem cd_X1_answerOf : bw_cd bm_X1_answerOf ∈ lw_tbl := List.mem_of_getElem? (i := 637) rfl
set_option maxRecDepth 100000 in
theorem cd_X1_isSet : bw_cd bm_X1_isSet ∈ lw_tbl := List.mem_of_getElem? (i := 653) rfl
set_option maxRecDepth 100000 in
theorem cd_X5_hear : bw_cd bm_X5_hear ∈ lw_tbl := List.mem_of_getElem? (i := 661) rfl
set_option maxRecDepth 100000 in
theorem cd_X5_tiedBy : bw_cd bm_X5_tiedBy ∈ lw_tbl := List.mem_of_getElem? (i := 669) rfl
set_option maxRecDepth 100000 in
theorem cd_X5_shownBy : bw_cd bm_X5_shownBy ∈ lw_tbl := List.mem_of_getElem? (i := 682) rfl
set_option maxRecDepth 100000 in
theorem cd_X1_allBears : bw_cd bm_X1_allBears ∈ lw_tbl := List.mem_of_getElem? (i := 657) rfl
set_option maxRecDepth 100000 in
theorem cd_X6_open : bw_cd bm_X6_open ∈ lw_tbl := List.mem_of_getElem? (i := 696) rfl
set_option maxRecDepth 100000 in
theorem cd_X6_fewestPresses : bw_cd bm_X6_fewestPresses ∈ lw_tbl := List.mem_of_getElem? (i := 712) rfl
set_option maxRecDepth 100000 in
theorem cd_X5_toldBy : bw_cd bm_X5_toldBy ∈ lw_tbl := List.mem_of_getElem? (i := 678) rfl
set_option maxRecDepth 100000 in
theorem cd_X5_clash : bw_cd bm_X5_clash ∈ lw_tbl := List.mem_of_getElem? (i := 740) rfl
set_option maxRecDepth 100000 in
theorem cd_X5_hasRivals : bw_cd bm_X5_hasRivals ∈ lw_tbl := List.mem_of_getElem? (i := 748) rfl
set_option maxRecDepth 100000 in
theorem cd_X7_readLooks : bw_cd bm_X7_readLooks ∈ lw_tbl := List.mem_of_getElem? (i := 756) rfl
set_option maxRecDepth 100000 in
theorem cd_X2_fittingSets : bw_cd bm_X2_fittingSets ∈ lw_tbl := List.mem_of_getElem? (i := 768) rfl
set_option maxRecDepth 100000 in
theorem cd_X7_tellPart : bw_cd bm_X7_tellPart ∈ lw_tbl := List.mem_of_getElem? (i := 793) rfl
set_option maxRecDepth 100000 in
theorem cd_X7_greatestPart : bw_cd bm_X7_greatestPart ∈ lw_tbl := List.mem_of_getElem? (i := 810) rfl
set_option maxRecDepth 100000 in
theorem cd_X2_fitKind : bw_cd bm_X2_fitKind ∈ lw_tbl := List.mem_of_getElem? (i := 820) rfl
set_option maxRecDepth 100000 in
theorem cd_X2_whoSpoke : bw_cd bm_X2_whoSpoke ∈ lw_tbl := List.mem_of_getElem? (i := 828) rfl
set_option maxRecDepth 100000 in
theorem cd_X2_whoKeptBack : bw_cd bm_X2_whoKeptBack ∈ lw_tbl := List.mem_of_getElem? (i := 832) rfl
set_option maxRecDepth 100000 in
theorem cd_X6_playOut : bw_cd bm_X6_playOut ∈ lw_tbl := List.mem_of_getElem? (i := 842) rfl
set_option maxRecDepth 100000 in
theorem cd_X7_weightOf : bw_cd bm_X7_weightOf ∈ lw_tbl := List.mem_of_getElem? (i := 858) rfl
set_option maxRecDepth 100000 in
theorem cd_X7_allWeight : bw_cd bm_X7_allWeight ∈ lw_tbl := List.mem_of_getElem? (i := 862) rfl
set_option maxRecDepth 100000 in
theorem cd_X1_canBe : bw_cd bm_X1_canBe ∈ lw_tbl := List.mem_of_getElem? (i := 590) rfl
set_option maxRecDepth 100000 in
theorem cd_X1_commit : bw_cd bm_X1_commit ∈ lw_tbl := List.mem_of_getElem? (i := 594) rfl
set_option maxRecDepth 100000 in
theorem cd_X7_shownByAll : bw_cd bm_X7_shownByAll ∈ lw_tbl := List.mem_of_getElem? (i := 882) rfl
set_option maxRecDepth 100000 in
theorem cd_X0_sum : bw_cd bm_X0_sum ∈ lw_tbl := List.mem_of_getElem? (i := 902) rfl
set_option maxRecDepth 100000 in
theorem cd_X1_thoseOfKind : bw_cd bm_X1_thoseOfKind ∈ lw_tbl := List.mem_of_getElem? (i := 906) rfl
set_option maxRecDepth 100000 in
theorem cd_X4_thoseThere : bw_cd bm_X4_thoseThere ∈ lw_tbl := List.mem_of_getElem? (i := 910) rfl
set_option maxRecDepth 100000 in
theorem cd_X7_keptCourts : bw_cd bm_X7_keptCourts ∈ lw_tbl := List.mem_of_getElem? (i := 915) rfl
set_option maxRecDepth 100000 in
theorem cd_X7_count : bw_cd bm_X7_count ∈ lw_tbl := List.mem_of_getElem? (i := 898) rfl
set_option maxRecDepth 100000 in
theorem cd_X4_digestFrom : bw_cd bm_X4_digestFrom ∈ lw_tbl := List.mem_of_getElem? (i := 934) rfl
set_option maxRecDepth 100000 in
theorem cd_X0_set : bw_cd bm_X0_set ∈ lw_tbl := List.mem_of_getElem? (i := 150) rfl
set_option maxRecDepth 100000 in
theorem cd_X4_hasPlace : bw_cd bm_X4_hasPlace ∈ lw_tbl := List.mem_of_getElem? (i := 399) rfl
set_option maxRecDepth 100000 in
theorem cd_X1_toldOf : bw_cd bm_X1_toldOf ∈ lw_tbl := List.mem_of_getElem? (i := 551) rfl
set_option maxRecDepth 100000 in
theorem cd_X1_clear : bw_cd bm_X1_clear ∈ lw_tbl := List.mem_of_getElem? (i := 477) rfl
set_option maxRecDepth 100000 in
theorem cd_X2_readFrom : bw_cd bm_X2_readFrom ∈ lw_tbl := List.mem_of_getElem? (i := 760) rfl
set_option maxRecDepth 100000 in
theorem cd_X1_answerIf : bw_cd bm_X1_answerIf ∈ lw_tbl := List.mem_of_getElem? (i := 641) rfl
set_option maxRecDepth 100000 in
theorem cd_X1_onesOf : bw_cd bm_X1_onesOf ∈ lw_tbl := List.mem_of_getElem? (i := 645) rfl
set_option maxRecDepth 100000 in
theorem cd_X0_take : bw_cd bm_X0_take ∈ lw_tbl := List.mem_of_getElem? (i := 522) rfl
set_option maxRecDepth 100000 in
theorem cd_X1_change : bw_cd bm_X1_change ∈ lw_tbl := List.mem_of_getElem? (i := 598) rfl
set_option maxRecDepth 100000 in
theorem cd_X1_seenBy : bw_cd bm_X1_seenBy ∈ lw_tbl := List.mem_of_getElem? (i := 556) rfl
set_option maxRecDepth 100000 in
theorem cd_X2_fits : bw_cd bm_X2_fits ∈ lw_tbl := List.mem_of_getElem? (i := 779) rfl
set_option maxRecDepth 100000 in
theorem cd_X3_kindOfLetter : bw_cd bm_X3_kindOfLetter ∈ lw_tbl := List.mem_of_getElem? (i := 505) rfl
set_option maxRecDepth 100000 in
theorem cd_X3_open : bw_cd bm_X3_open ∈ lw_tbl := List.mem_of_getElem? (i := 470) rfl
set_option maxRecDepth 100000 in
theorem cd_X3_skipBlanks : bw_cd bm_X3_skipBlanks ∈ lw_tbl := List.mem_of_getElem? (i := 481) rfl
set_option maxRecDepth 100000 in
theorem cd_X3_byteHere : bw_cd bm_X3_byteHere ∈ lw_tbl := List.mem_of_getElem? (i := 486) rfl
set_option maxRecDepth 100000 in
theorem cd_X3_twoFigures : bw_cd bm_X3_twoFigures ∈ lw_tbl := List.mem_of_getElem? (i := 490) rfl
set_option maxRecDepth 100000 in
theorem cd_X3_readBear : bw_cd bm_X3_readBear ∈ lw_tbl := List.mem_of_getElem? (i := 502) rfl
set_option maxRecDepth 100000 in
theorem cd_X3_fail : bw_cd bm_X3_fail ∈ lw_tbl := List.mem_of_getElem? (i := 498) rfl
set_option maxRecDepth 100000 in
theorem cd_X3_oneFigure : bw_cd bm_X3_oneFigure ∈ lw_tbl := List.mem_of_getElem? (i := 494) rfl
set_option maxRecDepth 100000 in
theorem cd_X1_seat : bw_cd bm_X1_seat ∈ lw_tbl := List.mem_of_getElem? (i := 509) rfl
set_option maxRecDepth 100000 in
theorem cd_X0_move : bw_cd bm_X0_move ∈ lw_tbl := List.mem_of_getElem? (i := 437) rfl
set_option maxRecDepth 100000 in
theorem cd_X5_balance : bw_cd bm_X5_balance ∈ lw_tbl := List.mem_of_getElem? (i := 673) rfl
set_option maxRecDepth 100000 in
theorem cd_X6_worthIf : bw_cd bm_X6_worthIf ∈ lw_tbl := List.mem_of_getElem? (i := 702) rfl
set_option maxRecDepth 100000 in
theorem cd_X6_worthNow : bw_cd bm_X6_worthNow ∈ lw_tbl := List.mem_of_getElem? (i := 708) rfl
set_option maxRecDepth 100000 in
theorem cd_X6_pressOn : bw_cd bm_X6_pressOn ∈ lw_tbl := List.mem_of_getElem? (i := 716) rfl
set_option maxRecDepth 100000 in
theorem cd_X6_canWear : bw_cd bm_X6_canWear ∈ lw_tbl := List.mem_of_getElem? (i := 720) rfl
set_option maxRecDepth 100000 in
theorem cd_X6_wearBy : bw_cd bm_X6_wearBy ∈ lw_tbl := List.mem_of_getElem? (i := 724) rfl
set_option maxRecDepth 100000 in
theorem cd_X7_init : bw_cd bm_X7_init ∈ lw_tbl := List.mem_of_getElem? (i := 126) rfl
set_option maxRecDepth 100000 in
theorem cd_X8_init : bw_cd bm_X8_init ∈ lw_tbl := List.mem_of_getElem? (i := 940) rfl
set_option maxRecDepth 100000 in
theorem cd_X7_row : bw_cd bm_X7_row ∈ lw_tbl := List.mem_of_getElem? (i := 361) rfl
set_option maxRecDepth 100000 in
theorem cd_X8_row : bw_cd bm_X8_row ∈ lw_tbl := List.mem_of_getElem? (i := 1007) rfl
set_option maxRecDepth 100000 in
theorem cd_X7_lay : bw_cd bm_X7_lay ∈ lw_tbl := List.mem_of_getElem? (i := 383) rfl
set_option maxRecDepth 100000 in
theorem cd_X8_lay : bw_cd bm_X8_lay ∈ lw_tbl := List.mem_of_getElem? (i := 1022) rfl
set_option maxRecDepth 100000 in
theorem cd_X7_at : bw_cd bm_X7_at ∈ lw_tbl := List.mem_of_getElem? (i := 412) rfl
set_option maxRecDepth 100000 in
theorem cd_X8_at : bw_cd bm_X8_at ∈ lw_tbl := List.mem_of_getElem? (i := 1026) rfl
set_option maxRecDepth 100000 in
theorem cd_X7_tear : bw_cd bm_X7_tear ∈ lw_tbl := List.mem_of_getElem? (i := 416) rfl
set_option maxRecDepth 100000 in
theorem cd_X8_tear : bw_cd bm_X8_tear ∈ lw_tbl := List.mem_of_getElem? (i := 1035) rfl
set_option maxRecDepth 100000 in
theorem cd_X7_copy : bw_cd bm_X7_copy ∈ lw_tbl := List.mem_of_getElem? (i := 424) rfl
set_option maxRecDepth 100000 in
theorem cd_X8_copy : bw_cd bm_X8_copy ∈ lw_tbl := List.mem_of_getElem? (i := 1039) rfl
set_option maxRecDepth 100000 in
theorem cd_X7_mean : bw_cd bm_X7_mean ∈ lw_tbl := List.mem_of_getElem? (i := 444) rfl
set_option maxRecDepth 100000 in
theorem cd_X8_mean : bw_cd bm_X8_mean ∈ lw_tbl := List.mem_of_getElem? (i := 1043) rfl
set_option maxRecDepth 100000 in
theorem cd_X7_text : bw_cd bm_X7_text ∈ lw_tbl := List.mem_of_getElem? (i := 454) rfl
set_option maxRecDepth 100000 in
theorem cd_X8_text : bw_cd bm_X8_text ∈ lw_tbl := List.mem_of_getElem? (i := 1047) rfl
set_option maxRecDepth 100000 in
theorem cd_X7_put : bw_cd bm_X7_put ∈ lw_tbl := List.mem_of_getElem? (i := 458) rfl
set_option maxRecDepth 100000 in
theorem cd_X8_put : bw_cd bm_X8_put ∈ lw_tbl := List.mem_of_getElem? (i := 1055) rfl
set_option maxRecDepth 100000 in
theorem cd_X7_fault : bw_cd bm_X7_fault ∈ lw_tbl := List.mem_of_getElem? (i := 462) rfl
set_option maxRecDepth 100000 in
theorem cd_X8_fault : bw_cd bm_X8_fault ∈ lw_tbl := List.mem_of_getElem? (i := 1059) rfl
set_option maxRecDepth 100000 in
theorem cd_X7_court : bw_cd bm_X7_court ∈ lw_tbl := List.mem_of_getElem? (i := 514) rfl
set_option maxRecDepth 100000 in
theorem cd_X8_court : bw_cd bm_X8_court ∈ lw_tbl := List.mem_of_getElem? (i := 1095) rfl
set_option maxRecDepth 100000 in
theorem cd_X7_bear : bw_cd bm_X7_bear ∈ lw_tbl := List.mem_of_getElem? (i := 536) rfl
set_option maxRecDepth 100000 in
theorem cd_X8_bear : bw_cd bm_X8_bear ∈ lw_tbl := List.mem_of_getElem? (i := 1102) rfl
set_option maxRecDepth 100000 in
theorem cd_X7_mark : bw_cd bm_X7_mark ∈ lw_tbl := List.mem_of_getElem? (i := 564) rfl
set_option maxRecDepth 100000 in
theorem cd_X8_mark : bw_cd bm_X8_mark ∈ lw_tbl := List.mem_of_getElem? (i := 1139) rfl
set_option maxRecDepth 100000 in
theorem cd_X7_press : bw_cd bm_X7_press ∈ lw_tbl := List.mem_of_getElem? (i := 582) rfl
set_option maxRecDepth 100000 in
theorem cd_X8_press : bw_cd bm_X8_press ∈ lw_tbl := List.mem_of_getElem? (i := 1153) rfl
set_option maxRecDepth 100000 in
theorem cd_X7_mend : bw_cd bm_X7_mend ∈ lw_tbl := List.mem_of_getElem? (i := 602) rfl
set_option maxRecDepth 100000 in
theorem cd_X8_mend : bw_cd bm_X8_mend ∈ lw_tbl := List.mem_of_getElem? (i := 1171) rfl
set_option maxRecDepth 100000 in
theorem cd_X7_eye : bw_cd bm_X7_eye ∈ lw_tbl := List.mem_of_getElem? (i := 606) rfl
set_option maxRecDepth 100000 in
theorem cd_X8_eye : bw_cd bm_X8_eye ∈ lw_tbl := List.mem_of_getElem? (i := 1175) rfl
set_option maxRecDepth 100000 in
theorem cd_X7_turn : bw_cd bm_X7_turn ∈ lw_tbl := List.mem_of_getElem? (i := 610) rfl
set_option maxRecDepth 100000 in
theorem cd_X8_turn : bw_cd bm_X8_turn ∈ lw_tbl := List.mem_of_getElem? (i := 1179) rfl
set_option maxRecDepth 100000 in
theorem cd_X7_undo : bw_cd bm_X7_undo ∈ lw_tbl := List.mem_of_getElem? (i := 614) rfl
set_option maxRecDepth 100000 in
theorem cd_X8_undo : bw_cd bm_X8_undo ∈ lw_tbl := List.mem_of_getElem? (i := 1183) rfl
set_option maxRecDepth 100000 in
theorem cd_X7_keep : bw_cd bm_X7_keep ∈ lw_tbl := List.mem_of_getElem? (i := 622) rfl
set_option maxRecDepth 100000 in
theorem cd_X8_keep : bw_cd bm_X8_keep ∈ lw_tbl := List.mem_of_getElem? (i := 1187) rfl
set_option maxRecDepth 100000 in
theorem cd_X7_on : bw_cd bm_X7_on ∈ lw_tbl := List.mem_of_getElem? (i := 626) rfl
set_option maxRecDepth 100000 in
theorem cd_X8_on : bw_cd bm_X8_on ∈ lw_tbl := List.mem_of_getElem? (i := 1195) rfl
set_option maxRecDepth 100000 in
theorem cd_X7_tells : bw_cd bm_X7_tells ∈ lw_tbl := List.mem_of_getElem? (i := 630) rfl
set_option maxRecDepth 100000 in
theorem cd_X8_tells : bw_cd bm_X8_tells ∈ lw_tbl := List.mem_of_getElem? (i := 1199) rfl
set_option maxRecDepth 100000 in
theorem cd_X7_shown : bw_cd bm_X7_shown ∈ lw_tbl := List.mem_of_getElem? (i := 649) rfl
set_option maxRecDepth 100000 in
theorem cd_X8_shown : bw_cd bm_X8_shown ∈ lw_tbl := List.mem_of_getElem? (i := 1206) rfl
set_option maxRecDepth 100000 in
theorem cd_X7_call : bw_cd bm_X7_call ∈ lw_tbl := List.mem_of_getElem? (i := 686) rfl
set_option maxRecDepth 100000 in
theorem cd_X8_call : bw_cd bm_X8_call ∈ lw_tbl := List.mem_of_getElem? (i := 1222) rfl
set_option maxRecDepth 100000 in
theorem cd_X7_shake : bw_cd bm_X7_shake ∈ lw_tbl := List.mem_of_getElem? (i := 692) rfl
set_option maxRecDepth 100000 in
theorem cd_X8_shake : bw_cd bm_X8_shake ∈ lw_tbl := List.mem_of_getElem? (i := 1227) rfl
set_option maxRecDepth 100000 in
theorem cd_X7_cover : bw_cd bm_X7_cover ∈ lw_tbl := List.mem_of_getElem? (i := 728) rfl
set_option maxRecDepth 100000 in
theorem cd_X8_cover : bw_cd bm_X8_cover ∈ lw_tbl := List.mem_of_getElem? (i := 1239) rfl
set_option maxRecDepth 100000 in
theorem cd_X7_rivals : bw_cd bm_X7_rivals ∈ lw_tbl := List.mem_of_getElem? (i := 736) rfl
set_option maxRecDepth 100000 in
theorem cd_X8_rivals : bw_cd bm_X8_rivals ∈ lw_tbl := List.mem_of_getElem? (i := 1244) rfl
set_option maxRecDepth 100000 in
theorem cd_X7_apart : bw_cd bm_X7_apart ∈ lw_tbl := List.mem_of_getElem? (i := 744) rfl
set_option maxRecDepth 100000 in
theorem cd_X8_apart : bw_cd bm_X8_apart ∈ lw_tbl := List.mem_of_getElem? (i := 1252) rfl
set_option maxRecDepth 100000 in
theorem cd_X7_truths : bw_cd bm_X7_truths ∈ lw_tbl := List.mem_of_getElem? (i := 752) rfl
set_option maxRecDepth 100000 in
theorem cd_X8_truths : bw_cd bm_X8_truths ∈ lw_tbl := List.mem_of_getElem? (i := 1256) rfl
set_option maxRecDepth 100000 in
theorem cd_X7_sure : bw_cd bm_X7_sure ∈ lw_tbl := List.mem_of_getElem? (i := 800) rfl
set_option maxRecDepth 100000 in
theorem cd_X8_sure : bw_cd bm_X8_sure ∈ lw_tbl := List.mem_of_getElem? (i := 1276) rfl
set_option maxRecDepth 100000 in
theorem cd_X7_next : bw_cd bm_X7_next ∈ lw_tbl := List.mem_of_getElem? (i := 806) rfl
set_option maxRecDepth 100000 in
theorem cd_X8_next : bw_cd bm_X8_next ∈ lw_tbl := List.mem_of_getElem? (i := 1280) rfl
set_option maxRecDepth 100000 in
theorem cd_X7_kinds : bw_cd bm_X7_kinds ∈ lw_tbl := List.mem_of_getElem? (i := 816) rfl
set_option maxRecDepth 100000 in
theorem cd_X8_kinds : bw_cd bm_X8_kinds ∈ lw_tbl := List.mem_of_getElem? (i := 1284) rfl
set_option maxRecDepth 100000 in
theorem cd_X7_walls : bw_cd bm_X7_walls ∈ lw_tbl := List.mem_of_getElem? (i := 824) rfl
set_option maxRecDepth 100000 in
theorem cd_X8_walls : bw_cd bm_X8_walls ∈ lw_tbl := List.mem_of_getElem? (i := 1288) rfl
set_option maxRecDepth 100000 in
theorem cd_X7_duel : bw_cd bm_X7_duel ∈ lw_tbl := List.mem_of_getElem? (i := 838) rfl
set_option maxRecDepth 100000 in
theorem cd_X8_duel : bw_cd bm_X8_duel ∈ lw_tbl := List.mem_of_getElem? (i := 1292) rfl
set_option maxRecDepth 100000 in
theorem cd_X7_odds : bw_cd bm_X7_odds ∈ lw_tbl := List.mem_of_getElem? (i := 851) rfl
set_option maxRecDepth 100000 in
theorem cd_X8_odds : bw_cd bm_X8_odds ∈ lw_tbl := List.mem_of_getElem? (i := 1308) rfl
set_option maxRecDepth 100000 in
theorem cd_X7_mid : bw_cd bm_X7_mid ∈ lw_tbl := List.mem_of_getElem? (i := 867) rfl
set_option maxRecDepth 100000 in
theorem cd_X8_mid : bw_cd bm_X8_mid ∈ lw_tbl := List.mem_of_getElem? (i := 1321) rfl
set_option maxRecDepth 100000 in
theorem cd_X7_lots : bw_cd bm_X7_lots ∈ lw_tbl := List.mem_of_getElem? (i := 871) rfl
set_option maxRecDepth 100000 in
theorem cd_X8_lots : bw_cd bm_X8_lots ∈ lw_tbl := List.mem_of_getElem? (i := 1325) rfl
set_option maxRecDepth 100000 in
theorem cd_X7_asked : bw_cd bm_X7_asked ∈ lw_tbl := List.mem_of_getElem? (i := 886) rfl
set_option maxRecDepth 100000 in
theorem cd_X8_asked : bw_cd bm_X8_asked ∈ lw_tbl := List.mem_of_getElem? (i := 1334) rfl
set_option maxRecDepth 100000 in
theorem cd_X7_upper : bw_cd bm_X7_upper ∈ lw_tbl := List.mem_of_getElem? (i := 890) rfl
set_option maxRecDepth 100000 in
theorem cd_X8_upper : bw_cd bm_X8_upper ∈ lw_tbl := List.mem_of_getElem? (i := 1338) rfl
set_option maxRecDepth 100000 in
theorem cd_X7_lower : bw_cd bm_X7_lower ∈ lw_tbl := List.mem_of_getElem? (i := 894) rfl
set_option maxRecDepth 100000 in
theorem cd_X8_lower : bw_cd bm_X8_lower ∈ lw_tbl := List.mem_of_getElem? (i := 1342) rfl
set_option maxRecDepth 100000 in
theorem cd_X8_count : bw_cd bm_X8_count ∈ lw_tbl := List.mem_of_getElem? (i := 1346) rfl
set_option maxRecDepth 100000 in
theorem cd_X7_finding : bw_cd bm_X7_finding ∈ lw_tbl := List.mem_of_getElem? (i := 919) rfl
set_option maxRecDepth 100000 in
theorem cd_X8_finding : bw_cd bm_X8_finding ∈ lw_tbl := List.mem_of_getElem? (i := 1366) rfl
set_option maxRecDepth 100000 in
theorem cd_X7_findings : bw_cd bm_X7_findings ∈ lw_tbl := List.mem_of_getElem? (i := 923) rfl
set_option maxRecDepth 100000 in
theorem cd_X8_findings : bw_cd bm_X8_findings ∈ lw_tbl := List.mem_of_getElem? (i := 1370) rfl
set_option maxRecDepth 100000 in
theorem cd_X7_digest : bw_cd bm_X7_digest ∈ lw_tbl := List.mem_of_getElem? (i := 927) rfl
set_option maxRecDepth 100000 in
theorem cd_X8_digest : bw_cd bm_X8_digest ∈ lw_tbl := List.mem_of_getElem? (i := 1374) rfl
set_option maxRecDepth 100000 in
theorem cd_X8_in : bw_cd bm_X8_in ∈ lw_tbl := List.mem_of_getElem? (i := 1014) rfl
set_option maxRecDepth 100000 in
theorem cd_X8_isRow : bw_cd bm_X8_isRow ∈ lw_tbl := List.mem_of_getElem? (i := 1010) rfl
set_option maxRecDepth 100000 in
theorem cd_X8_isText : bw_cd bm_X8_isText ∈ lw_tbl := List.mem_of_getElem? (i := 1050) rfl
set_option maxRecDepth 100000 in
theorem cd_X8_kindBy : bw_cd bm_X8_kindBy ∈ lw_tbl := List.mem_of_getElem? (i := 1091) rfl
set_option maxRecDepth 100000 in
theorem cd_X8_begin : bw_cd bm_X8_begin ∈ lw_tbl := List.mem_of_getElem? (i := 1098) rfl
set_option maxRecDepth 100000 in
theorem cd_X8_has : bw_cd bm_X8_has ∈ lw_tbl := List.mem_of_getElem? (i := 1113) rfl
set_option maxRecDepth 100000 in
theorem cd_X8_seesAs : bw_cd bm_X8_seesAs ∈ lw_tbl := List.mem_of_getElem? (i := 1135) rfl
set_option maxRecDepth 100000 in
theorem cd_X8_tellsAs : bw_cd bm_X8_tellsAs ∈ lw_tbl := List.mem_of_getElem? (i := 1132) rfl
set_option maxRecDepth 100000 in
theorem cd_X8_isOf : bw_cd bm_X8_isOf ∈ lw_tbl := List.mem_of_getElem? (i := 1142) rfl
set_option maxRecDepth 100000 in
theorem cd_X8_bits : bw_cd bm_X8_bits ∈ lw_tbl := List.mem_of_getElem? (i := 1145) rfl
set_option maxRecDepth 100000 in
theorem cd_X8_goDeed : bw_cd bm_X8_goDeed ∈ lw_tbl := List.mem_of_getElem? (i := 1167) rfl
set_option maxRecDepth 100000 in
theorem cd_X8_may : bw_cd bm_X8_may ∈ lw_tbl := List.mem_of_getElem? (i := 1160) rfl
set_option maxRecDepth 100000 in
theorem cd_X8_isShelf : bw_cd bm_X8_isShelf ∈ lw_tbl := List.mem_of_getElem? (i := 1190) rfl
set_option maxRecDepth 100000 in
theorem cd_X8_isThing : bw_cd bm_X8_isThing ∈ lw_tbl := List.mem_of_getElem? (i := 1202) rfl
set_option maxRecDepth 100000 in
theorem cd_X8_pairOf : bw_cd bm_X8_pairOf ∈ lw_tbl := List.mem_of_getElem? (i := 1272) rfl
set_option maxRecDepth 100000 in
theorem cd_X8_startOf : bw_cd bm_X8_startOf ∈ lw_tbl := List.mem_of_getElem? (i := 1295) rfl
set_option maxRecDepth 100000 in
theorem cd_X8_manyThere : bw_cd bm_X8_manyThere ∈ lw_tbl := List.mem_of_getElem? (i := 1362) rfl
set_option maxRecDepth 100000 in
theorem cd_X8_finds : bw_cd bm_X8_finds ∈ lw_tbl := List.mem_of_getElem? (i := 1018) rfl
set_option maxRecDepth 100000 in
theorem cd_X8_asks : bw_cd bm_X8_asks ∈ lw_tbl := List.mem_of_getElem? (i := 1030) rfl
set_option maxRecDepth 100000 in
theorem cd_X8_here : bw_cd bm_X8_here ∈ lw_tbl := List.mem_of_getElem? (i := 1075) rfl
set_option maxRecDepth 100000 in
theorem cd_X8_takes : bw_cd bm_X8_takes ∈ lw_tbl := List.mem_of_getElem? (i := 1083) rfl
set_option maxRecDepth 100000 in
theorem cd_X8_skip : bw_cd bm_X8_skip ∈ lw_tbl := List.mem_of_getElem? (i := 1071) rfl
set_option maxRecDepth 100000 in
theorem cd_X8_takesSet : bw_cd bm_X8_takesSet ∈ lw_tbl := List.mem_of_getElem? (i := 1079) rfl
set_option maxRecDepth 100000 in
theorem cd_X8_takesFirst : bw_cd bm_X8_takesFirst ∈ lw_tbl := List.mem_of_getElem? (i := 1067) rfl
set_option maxRecDepth 100000 in
theorem cd_X8_takesBear : bw_cd bm_X8_takesBear ∈ lw_tbl := List.mem_of_getElem? (i := 1088) rfl
set_option maxRecDepth 100000 in
theorem cd_X8_faultOf : bw_cd bm_X8_faultOf ∈ lw_tbl := List.mem_of_getElem? (i := 1063) rfl
set_option maxRecDepth 100000 in
theorem cd_X8_sayOf : bw_cd bm_X8_sayOf ∈ lw_tbl := List.mem_of_getElem? (i := 1129) rfl
set_option maxRecDepth 100000 in
theorem cd_X8_tellOf : bw_cd bm_X8_tellOf ∈ lw_tbl := List.mem_of_getElem? (i := 1125) rfl
set_option maxRecDepth 100000 in
theorem cd_X8_tellNow : bw_cd bm_X8_tellNow ∈ lw_tbl := List.mem_of_getElem? (i := 1121) rfl
set_option maxRecDepth 100000 in
theorem cd_X8_balance : bw_cd bm_X8_balance ∈ lw_tbl := List.mem_of_getElem? (i := 1214) rfl
set_option maxRecDepth 100000 in
theorem cd_X8_toldThings : bw_cd bm_X8_toldThings ∈ lw_tbl := List.mem_of_getElem? (i := 1117) rfl
set_option maxRecDepth 100000 in
theorem cd_X8_isBear : bw_cd bm_X8_isBear ∈ lw_tbl := List.mem_of_getElem? (i := 1106) rfl
set_option maxRecDepth 100000 in
theorem cd_X8_toldOf : bw_cd bm_X8_toldOf ∈ lw_tbl := List.mem_of_getElem? (i := 1110) rfl
set_option maxRecDepth 100000 in
theorem cd_X8_seesBeyond : bw_cd bm_X8_seesBeyond ∈ lw_tbl := List.mem_of_getElem? (i := 1149) rfl
set_option maxRecDepth 100000 in
theorem cd_X8_does : bw_cd bm_X8_does ∈ lw_tbl := List.mem_of_getElem? (i := 1164) rfl
set_option maxRecDepth 100000 in
theorem cd_X8_doesTo : bw_cd bm_X8_doesTo ∈ lw_tbl := List.mem_of_getElem? (i := 1157) rfl
set_option maxRecDepth 100000 in
theorem cd_X8_allBears : bw_cd bm_X8_allBears ∈ lw_tbl := List.mem_of_getElem? (i := 1210) rfl
set_option maxRecDepth 100000 in
theorem cd_X8_shownBy : bw_cd bm_X8_shownBy ∈ lw_tbl := List.mem_of_getElem? (i := 1218) rfl
set_option maxRecDepth 100000 in
theorem cd_X8_layHand : bw_cd bm_X8_layHand ∈ lw_tbl := List.mem_of_getElem? (i := 1235) rfl
set_option maxRecDepth 100000 in
theorem cd_X8_goes : bw_cd bm_X8_goes ∈ lw_tbl := List.mem_of_getElem? (i := 1231) rfl
set_option maxRecDepth 100000 in
theorem cd_X8_rivalThings : bw_cd bm_X8_rivalThings ∈ lw_tbl := List.mem_of_getElem? (i := 1248) rfl
set_option maxRecDepth 100000 in
theorem cd_X8_refusesPairs : bw_cd bm_X8_refusesPairs ∈ lw_tbl := List.mem_of_getElem? (i := 1264) rfl
set_option maxRecDepth 100000 in
theorem cd_X8_refusesLooks : bw_cd bm_X8_refusesLooks ∈ lw_tbl := List.mem_of_getElem? (i := 1260) rfl
set_option maxRecDepth 100000 in
theorem cd_X8_isTruth : bw_cd bm_X8_isTruth ∈ lw_tbl := List.mem_of_getElem? (i := 1269) rfl
set_option maxRecDepth 100000 in
theorem cd_X8_goChoices : bw_cd bm_X8_goChoices ∈ lw_tbl := List.mem_of_getElem? (i := 1300) rfl
set_option maxRecDepth 100000 in
theorem cd_X8_weigh : bw_cd bm_X8_weigh ∈ lw_tbl := List.mem_of_getElem? (i := 1304) rfl
set_option maxRecDepth 100000 in
theorem cd_X8_fraction : bw_cd bm_X8_fraction ∈ lw_tbl := List.mem_of_getElem? (i := 1317) rfl
set_option maxRecDepth 100000 in
theorem cd_X8_goOdds : bw_cd bm_X8_goOdds ∈ lw_tbl := List.mem_of_getElem? (i := 1313) rfl
set_option maxRecDepth 100000 in
theorem cd_X8_sumOf : bw_cd bm_X8_sumOf ∈ lw_tbl := List.mem_of_getElem? (i := 1355) rfl
set_option maxRecDepth 100000 in
theorem cd_X8_manyOf : bw_cd bm_X8_manyOf ∈ lw_tbl := List.mem_of_getElem? (i := 1359) rfl
set_option maxRecDepth 100000 in
theorem cd_X8_counted : bw_cd bm_X8_counted ∈ lw_tbl := List.mem_of_getElem? (i := 1351) rfl
set_option maxRecDepth 100000 in
theorem bw_MT_code : bw_all (fun e => bw_cd e.2.2.2.1 ∈ lw_tbl) bw_MT := ⟨cd_X0_get, cd_X0_init, cd_X0_take, cd_X0_set, cd_X1_allBears, cd_X0_get, cd_X7_isOfKind, cd_X1_change, cd_X7_isIn, cd_X1_seenBy, cd_X1_toldOf, cd_X1_onesOf, cd_X1_answerIf, cd_J6_bitCount_0f7a4, cd_X0_init, cd_X4_has, cd_X4_sizeOf, cd_X4_get, cd_X0_set, cd_X0_get, cd_X1_answerIf, cd_X2_setsWith, cd_X2_fits, cd_X1_seenBy, cd_X7_isIn, cd_X0_init, cd_X3_open, cd_X1_clear, cd_X3_skipBlanks, cd_X3_byteHere, cd_X3_twoFigures, cd_X3_readBear, cd_X4_sizeOf, cd_X4_get, cd_X0_set, cd_X3_kindOfLetter, cd_X3_fail, cd_X3_oneFigure, cd_X1_seat, cd_X0_get, cd_X0_init, cd_X0_set, cd_X4_isNumber, cd_X0_get, cd_X4_sizeOf, cd_X4_hasPlace, cd_X4_hasSpan, cd_X0_move, cd_X4_get, cd_X4_has, cd_X0_init, cd_X0_get, cd_X1_toldOf, cd_X1_onesOf, cd_X0_set, cd_X7_isIn, cd_X5_balance, cd_X5_toldBy, cd_X0_init, cd_X0_get, cd_X0_set, cd_X7_isIn, cd_X6_worthIf, cd_X6_worthNow, cd_X1_toldOf, cd_X1_onesOf, cd_X6_pressOn, cd_X6_canWear, cd_X6_wearBy, cd_X6_playOut, cd_X4_init, cd_X1_init, cd_X3_init, cd_X2_init, cd_X5_init, cd_X6_init, cd_X0_init, cd_X4_isNumber, cd_X7_found, cd_X4_make, cd_X7_missingPlace, cd_X4_get, cd_X4_set, cd_X4_has, cd_X4_drop, cd_X4_hasSpan, cd_X4_move, cd_X4_sizeOf, cd_X4_sumOf, cd_X3_readInto, cd_X1_take, cd_X7_forgetKept, cd_X1_hasBear, cd_X7_ofBear, cd_X0_get, cd_X7_isOfKind, cd_X1_markOf, cd_X7_answerDeed, cd_X1_takeBackTo, cd_X7_keptIn, cd_X7_isThing, cd_X1_answerOf, cd_X1_isSet, cd_X5_hear, cd_X5_tiedBy, cd_X5_shownBy, cd_X1_allBears, cd_J6_bitCount_0f7a4, cd_X7_isIn, cd_X6_open, cd_X6_fewestPresses, cd_X5_toldBy, cd_X7_isFewer, cd_X5_clash, cd_X5_hasRivals, cd_X7_readLooks, cd_X2_fittingSets, cd_X7_leastOf, cd_J13_bitCount_95d88, cd_X7_tellPart, cd_X2_setsWith, cd_X7_greatestPart, cd_X2_fitKind, cd_X2_whoSpoke, cd_X2_whoKeptBack, cd_X6_playOut, cd_X7_isChance, cd_X7_weightOf, cd_X7_allWeight, cd_X7_actOfLot, cd_X1_canBe, cd_X1_commit, cd_X7_shownByAll, cd_X0_sum, cd_X1_thoseOfKind, cd_X4_thoseThere, cd_X7_keptCourts, cd_X7_count, cd_X4_digestFrom, cd_X0_set, cd_X4_hasPlace, cd_X1_toldOf, cd_X1_clear, cd_X2_readFrom, cd_X1_answerIf, cd_X7_commonDivisor, cd_X8_in, cd_X8_isRow, cd_X8_finds, cd_X8_at, cd_X8_asks, cd_X8_isText, cd_X8_here, cd_X8_takes, cd_X8_skip, cd_X8_takesSet, cd_X8_kindBy, cd_X8_takesFirst, cd_X8_takesBear, cd_X8_faultOf, cd_X8_begin, cd_X8_has, cd_X8_seesAs, cd_X8_tellsAs, cd_X8_sayOf, cd_X8_tellOf, cd_X8_tellNow, cd_X8_balance, cd_X8_toldThings, cd_X8_isBear, cd_X8_toldOf, cd_X8_isOf, cd_X8_bits, cd_X8_seesBeyond, cd_X8_goDeed, cd_X8_may, cd_X8_does, cd_X8_doesTo, cd_X8_isShelf, cd_X8_isThing, cd_X8_allBears, cd_X8_shownBy, cd_X8_layHand, cd_X8_goes, cd_X8_rivalThings, cd_X8_pairOf, cd_X8_refusesPairs, cd_X8_refusesLooks, cd_X8_isTruth, cd_X8_startOf, cd_X8_goChoices, cd_X8_weigh, cd_X8_fraction, cd_X8_goOdds, cd_X8_sumOf, cd_X8_manyOf, cd_X8_manyThere, cd_X8_counted, cd_X7_init, cd_X8_init, cd_X7_row, cd_X8_row, cd_X7_lay, cd_X8_lay, cd_X7_at, cd_X8_at, cd_X7_tear, cd_X8_tear, cd_X7_copy, cd_X8_copy, cd_X7_mean, cd_X8_mean, cd_X7_text, cd_X8_text, cd_X7_put, cd_X8_put, cd_X7_fault, cd_X8_fault, cd_X7_court, cd_X8_court, cd_X7_bear, cd_X8_bear, cd_X7_mark, cd_X8_mark, cd_X7_press, cd_X8_press, cd_X7_mend, cd_X8_mend, cd_X7_eye, cd_X8_eye, cd_X7_turn, cd_X8_turn, cd_X7_undo, cd_X8_undo, cd_X7_keep, cd_X8_keep, cd_X7_on, cd_X8_on, cd_X7_tells, cd_X8_tells, cd_X7_shown, cd_X8_shown, cd_X7_call, cd_X8_call, cd_X7_shake, cd_X8_shake, cd_X7_cover, cd_X8_cover, cd_X7_rivals, cd_X8_rivals, cd_X7_apart, cd_X8_apart, cd_X7_truths, cd_X8_truths, cd_X7_sure, cd_X8_sure, cd_X7_next, cd_X8_next, cd_X7_kinds, cd_X8_kinds, cd_X7_walls, cd_X8_walls, cd_X7_duel, cd_X8_duel, cd_X7_odds, cd_X8_odds, cd_X7_mid, cd_X8_mid, cd_X7_lots, cd_X8_lots, cd_X7_asked, cd_X8_asked, cd_X7_upper, cd_X8_upper, cd_X7_lower, cd_X8_lower, cd_X7_count, cd_X8_count, cd_X7_finding, cd_X8_finding, cd_X7_findings, cd_X8_findings, cd_X7_digest, cd_X8_digest, trivial⟩
theorem bw_KT_ok : bw_KT.all (fun e => decide (lw_tbl[e.2.2.2]? = some (match e.2.2.1 with | .int x => Cond.constant (bw_R e.1) e.2.1 x | .long x => Cond.constantLong (bw_R e.1) e.2.1 x | _ => Cond.tt))) = true := by decide +kernel
theorem bw_NT_ok : bw_NT.all (fun e => decide (e.2.2.1 < 9) && decide (lw_tbl[e.2.2.2.1]? = some (Cond.classLink (bw_R e.1) e.2.1 (bw_R e.2.2.1))) && decide (lw_tbl[e.2.2.2.2.1]? = some (Cond.instantiable (bw_R e.2.2.1) (bw_N e.2.2.1))) && decide (lw_tbl[e.2.2.2.2.2]? = some (Cond.initialized (bw_R e.2.2.1)))) = true := by decide +kernel
theorem bw_anT_ok : bw_anT.all (fun e => decide (lw_tbl[e.2.2]? = some (Cond.classLink (bw_R e.1) e.2.1 RX1))) = true := by decide +kernel
theorem bw_stT_ok : bw_stT.all (fun e => decide (lw_tbl[e.2.2]? = some (Cond.fieldLink (bw_R e.1) e.2.1 "BearWitness$Looks" "SETS_WITH" "[J"))) = true := by decide +kernel
theorem bw_oiT_ok : bw_oiT.all (fun e => decide (lw_tbl[e.2.2]? = some (Cond.methodLink (bw_R e.1) e.2.1 objectInit))) = true := by decide +kernel
theorem bw_acT_ok : bw_acT.all (fun e => decide (lw_tbl[e.2.2]? = some (Cond.methodLink (bw_R e.1) e.2.1 arraycopyName))) = true := by decide +kernel
theorem bw_mxT_ok : bw_mxT.all (fun e => decide (lw_tbl[e.2.2.2]? = some (Cond.methodLink (bw_R e.1) e.2.1 (if e.2.2.1 = true then Lib.Math.max.name else Lib.Math.min.name)))) = true := by decide +kernel
theorem bw_w_max1 : Cond.static Lib.Math.max.name ∈ lw_tbl := List.mem_of_getElem? (i := 577) (by decide +kernel)
theorem bw_w_max2 : Cond.code Lib.Math.max.name Lib.Math.max.code 2 (some .int) ∈ lw_tbl := List.mem_of_getElem? (i := 578) (by decide +kernel)
theorem bw_w_min1 : Cond.static Lib.Math.min.name ∈ lw_tbl := List.mem_of_getElem? (i := 846) (by decide +kernel)
theorem bw_w_min2 : Cond.code Lib.Math.min.name Lib.Math.min.code 2 (some .int) ∈ lw_tbl := List.mem_of_getElem? (i := 847) (by decide +kernel)
theorem bw_w_mm : Cond.initialized "java/lang/Math" ∈ lw_tbl := List.mem_of_getElem? (i := 120) (by decide +kernel)
theorem bw_w_oi1 : Cond.instanceMethod objectInit ∈ lw_tbl := List.mem_of_getElem? (i := 128) (by decide +kernel)
theorem bw_w_oi2 : Cond.code objectInit ⟨#[0xb1]⟩ 1 none ∈ lw_tbl := List.mem_of_getElem? (i := 129) (by decide +kernel)
theorem bw_w_ac1 : Cond.native arraycopyName ∈ lw_tbl := List.mem_of_getElem? (i := 440) (by decide +kernel)
theorem bw_w_ac2 : Cond.static arraycopyName ∈ lw_tbl := List.mem_of_getElem? (i := 439) (by decide +kernel)
theorem bw_w_ac3 : Cond.initialized "java/lang/System" ∈ lw_tbl := List.mem_of_getElem? (i := 118) (by decide +kernel)
theorem bw_w_arI : Cond.arrayClass .int ∈ lw_tbl := List.mem_of_getElem? (i := 146) (by decide +kernel)
theorem bw_w_arZ : Cond.arrayClass .boolean ∈ lw_tbl := List.mem_of_getElem? (i := 1003) (by decide +kernel)
theorem bw_w_aro : Cond.arrayOver (.object RX1) ∈ lw_tbl := List.mem_of_getElem? (i := 224) (by decide +kernel)
