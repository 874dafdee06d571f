section
-- ===== PART A: goes FIRST, ahead of the names: the tables' words, and 'selects' of the private methods out of them =====
/-- a private method of a class that the tables say can be made, by its rows of tables_1 -/
def lw_okq (q : MethodName × Nat) : Prop := (q.1.cls ≠ "java/lang/invoke/MethodHandle" ∧ q.1.cls ≠ "java/lang/invoke/VarHandle") ∧ Cond.instantiable q.1.cls q.2 ∈ tables_1 ∧ Cond.privateMethod q.1 ∈ tables_1 ∧ Cond.instanceMethod q.1 ∈ tables_1
theorem lw_p0 : lw_okq (⟨"BearWitness$Cells", "set", "(II)V"⟩, 1) := ⟨⟨by decide +kernel, by decide +kernel⟩, List.mem_of_getElem? (i := 27) (by decide +kernel), List.mem_of_getElem? (i := 38) (by decide +kernel), List.mem_of_getElem? (i := 39) (by decide +kernel)⟩
theorem lw_p1 : lw_okq (⟨"BearWitness$Shelf", "isNumber", "(I)Z"⟩, 4) := ⟨⟨by decide +kernel, by decide +kernel⟩, List.mem_of_getElem? (i := 21) (by decide +kernel), List.mem_of_getElem? (i := 253) (by decide +kernel), List.mem_of_getElem? (i := 254) (by decide +kernel)⟩
theorem lw_p2 : lw_okq (⟨"BearWitness", "found", "(I)I"⟩, 14) := ⟨⟨by decide +kernel, by decide +kernel⟩, List.mem_of_getElem? (i := 13) (by decide +kernel), List.mem_of_getElem? (i := 257) (by decide +kernel), List.mem_of_getElem? (i := 258) (by decide +kernel)⟩
theorem lw_p3 : lw_okq (⟨"BearWitness$Cells", "get", "(I)I"⟩, 1) := ⟨⟨by decide +kernel, by decide +kernel⟩, List.mem_of_getElem? (i := 27) (by decide +kernel), List.mem_of_getElem? (i := 261) (by decide +kernel), List.mem_of_getElem? (i := 262) (by decide +kernel)⟩
theorem lw_p4 : lw_okq (⟨"BearWitness$Shelf", "make", "(III)V"⟩, 4) := ⟨⟨by decide +kernel, by decide +kernel⟩, List.mem_of_getElem? (i := 21) (by decide +kernel), List.mem_of_getElem? (i := 266) (by decide +kernel), List.mem_of_getElem? (i := 267) (by decide +kernel)⟩
theorem lw_p5 : lw_okq (⟨"BearWitness$Shelf", "has", "(I)Z"⟩, 4) := ⟨⟨by decide +kernel, by decide +kernel⟩, List.mem_of_getElem? (i := 21) (by decide +kernel), List.mem_of_getElem? (i := 278) (by decide +kernel), List.mem_of_getElem? (i := 279) (by decide +kernel)⟩
theorem lw_p6 : lw_okq (⟨"BearWitness$Shelf", "sizeOf", "(I)I"⟩, 4) := ⟨⟨by decide +kernel, by decide +kernel⟩, List.mem_of_getElem? (i := 21) (by decide +kernel), List.mem_of_getElem? (i := 282) (by decide +kernel), List.mem_of_getElem? (i := 283) (by decide +kernel)⟩
theorem lw_p7 : lw_okq (⟨"BearWitness$Shelf", "hasPlace", "(II)Z"⟩, 4) := ⟨⟨by decide +kernel, by decide +kernel⟩, List.mem_of_getElem? (i := 21) (by decide +kernel), List.mem_of_getElem? (i := 287) (by decide +kernel), List.mem_of_getElem? (i := 288) (by decide +kernel)⟩
theorem lw_p8 : lw_okq (⟨"BearWitness$Shelf", "get", "(II)I"⟩, 4) := ⟨⟨by decide +kernel, by decide +kernel⟩, List.mem_of_getElem? (i := 21) (by decide +kernel), List.mem_of_getElem? (i := 291) (by decide +kernel), List.mem_of_getElem? (i := 292) (by decide +kernel)⟩
theorem lw_p9 : lw_okq (⟨"BearWitness$Shelf", "set", "(III)V"⟩, 4) := ⟨⟨by decide +kernel, by decide +kernel⟩, List.mem_of_getElem? (i := 21) (by decide +kernel), List.mem_of_getElem? (i := 296) (by decide +kernel), List.mem_of_getElem? (i := 297) (by decide +kernel)⟩
theorem lw_p10 : lw_okq (⟨"BearWitness$Reader", "readInto", "(LBearWitness$Court;LBearWitness$Shelf;I)I"⟩, 4) := ⟨⟨by decide +kernel, by decide +kernel⟩, List.mem_of_getElem? (i := 116) (by decide +kernel), List.mem_of_getElem? (i := 308) (by decide +kernel), List.mem_of_getElem? (i := 309) (by decide +kernel)⟩
theorem lw_p11 : lw_okq (⟨"BearWitness$Reader", "open", "(LBearWitness$Shelf;I)V"⟩, 4) := ⟨⟨by decide +kernel, by decide +kernel⟩, List.mem_of_getElem? (i := 116) (by decide +kernel), List.mem_of_getElem? (i := 312) (by decide +kernel), List.mem_of_getElem? (i := 313) (by decide +kernel)⟩
theorem lw_p12 : lw_okq (⟨"BearWitness$Court", "clear", "()V"⟩, 10) := ⟨⟨by decide +kernel, by decide +kernel⟩, List.mem_of_getElem? (i := 55) (by decide +kernel), List.mem_of_getElem? (i := 319) (by decide +kernel), List.mem_of_getElem? (i := 320) (by decide +kernel)⟩
theorem lw_p13 : lw_okq (⟨"BearWitness$Reader", "skipBlanks", "()V"⟩, 4) := ⟨⟨by decide +kernel, by decide +kernel⟩, List.mem_of_getElem? (i := 116) (by decide +kernel), List.mem_of_getElem? (i := 323) (by decide +kernel), List.mem_of_getElem? (i := 324) (by decide +kernel)⟩
theorem lw_p14 : lw_okq (⟨"BearWitness$Reader", "byteHere", "()I"⟩, 4) := ⟨⟨by decide +kernel, by decide +kernel⟩, List.mem_of_getElem? (i := 116) (by decide +kernel), List.mem_of_getElem? (i := 328) (by decide +kernel), List.mem_of_getElem? (i := 329) (by decide +kernel)⟩
theorem lw_p15 : lw_okq (⟨"BearWitness$Reader", "twoFigures", "()I"⟩, 4) := ⟨⟨by decide +kernel, by decide +kernel⟩, List.mem_of_getElem? (i := 116) (by decide +kernel), List.mem_of_getElem? (i := 332) (by decide +kernel), List.mem_of_getElem? (i := 333) (by decide +kernel)⟩
def lw_privs_1 : List (MethodName × Nat) := [(⟨"BearWitness$Cells", "set", "(II)V"⟩, 1), (⟨"BearWitness$Shelf", "isNumber", "(I)Z"⟩, 4), (⟨"BearWitness", "found", "(I)I"⟩, 14), (⟨"BearWitness$Cells", "get", "(I)I"⟩, 1), (⟨"BearWitness$Shelf", "make", "(III)V"⟩, 4), (⟨"BearWitness$Shelf", "has", "(I)Z"⟩, 4), (⟨"BearWitness$Shelf", "sizeOf", "(I)I"⟩, 4), (⟨"BearWitness$Shelf", "hasPlace", "(II)Z"⟩, 4), (⟨"BearWitness$Shelf", "get", "(II)I"⟩, 4), (⟨"BearWitness$Shelf", "set", "(III)V"⟩, 4), (⟨"BearWitness$Reader", "readInto", "(LBearWitness$Court;LBearWitness$Shelf;I)I"⟩, 4), (⟨"BearWitness$Reader", "open", "(LBearWitness$Shelf;I)V"⟩, 4), (⟨"BearWitness$Court", "clear", "()V"⟩, 10), (⟨"BearWitness$Reader", "skipBlanks", "()V"⟩, 4), (⟨"BearWitness$Reader", "byteHere", "()I"⟩, 4), (⟨"BearWitness$Reader", "twoFigures", "()I"⟩, 4)]
theorem lw_r1 : ∀ q ∈ lw_privs_1, lw_okq q := List.forall_mem_cons.mpr ⟨lw_p0, List.forall_mem_cons.mpr ⟨lw_p1, List.forall_mem_cons.mpr ⟨lw_p2, List.forall_mem_cons.mpr ⟨lw_p3, List.forall_mem_cons.mpr ⟨lw_p4, List.forall_mem_cons.mpr ⟨lw_p5, List.forall_mem_cons.mpr ⟨lw_p6, List.forall_mem_cons.mpr ⟨lw_p7, List.forall_mem_cons.mpr ⟨lw_p8, List.forall_mem_cons.mpr ⟨lw_p9, List.forall_mem_cons.mpr ⟨lw_p10, List.forall_mem_cons.mpr ⟨lw_p11, List.forall_mem_cons.mpr ⟨lw_p12, List.forall_mem_cons.mpr ⟨lw_p13, List.forall_mem_cons.mpr ⟨lw_p14, List.forall_mem_cons.mpr ⟨lw_p15, fun _ h => absurd h List.not_mem_nil⟩⟩⟩⟩⟩⟩⟩⟩⟩⟩⟩⟩⟩⟩⟩⟩
theorem lw_p16 : lw_okq (⟨"BearWitness$Reader", "oneFigure", "(I)I"⟩, 4) := ⟨⟨by decide +kernel, by decide +kernel⟩, List.mem_of_getElem? (i := 116) (by decide +kernel), List.mem_of_getElem? (i := 336) (by decide +kernel), List.mem_of_getElem? (i := 337) (by decide +kernel)⟩
theorem lw_p17 : lw_okq (⟨"BearWitness$Reader", "fail", "(I)V"⟩, 4) := ⟨⟨by decide +kernel, by decide +kernel⟩, List.mem_of_getElem? (i := 116) (by decide +kernel), List.mem_of_getElem? (i := 340) (by decide +kernel), List.mem_of_getElem? (i := 341) (by decide +kernel)⟩
theorem lw_p18 : lw_okq (⟨"BearWitness$Reader", "readBear", "(LBearWitness$Court;)V"⟩, 4) := ⟨⟨by decide +kernel, by decide +kernel⟩, List.mem_of_getElem? (i := 116) (by decide +kernel), List.mem_of_getElem? (i := 344) (by decide +kernel), List.mem_of_getElem? (i := 345) (by decide +kernel)⟩
theorem lw_p19 : lw_okq (⟨"BearWitness$Court", "seat", "(IIII)V"⟩, 10) := ⟨⟨by decide +kernel, by decide +kernel⟩, List.mem_of_getElem? (i := 55) (by decide +kernel), List.mem_of_getElem? (i := 351) (by decide +kernel), List.mem_of_getElem? (i := 352) (by decide +kernel)⟩
theorem lw_p20 : lw_okq (⟨"BearWitness$Court", "take", "(LBearWitness$Court;)V"⟩, 10) := ⟨⟨by decide +kernel, by decide +kernel⟩, List.mem_of_getElem? (i := 55) (by decide +kernel), List.mem_of_getElem? (i := 356) (by decide +kernel), List.mem_of_getElem? (i := 357) (by decide +kernel)⟩
theorem lw_p21 : lw_okq (⟨"BearWitness$Cells", "take", "(LBearWitness$Cells;)V"⟩, 1) := ⟨⟨by decide +kernel, by decide +kernel⟩, List.mem_of_getElem? (i := 27) (by decide +kernel), List.mem_of_getElem? (i := 360) (by decide +kernel), List.mem_of_getElem? (i := 361) (by decide +kernel)⟩
theorem lw_p22 : lw_okq (⟨"BearWitness", "forgetKept", "(I)V"⟩, 14) := ⟨⟨by decide +kernel, by decide +kernel⟩, List.mem_of_getElem? (i := 13) (by decide +kernel), List.mem_of_getElem? (i := 365) (by decide +kernel), List.mem_of_getElem? (i := 366) (by decide +kernel)⟩
theorem lw_p23 : lw_okq (⟨"BearWitness", "keptIn", "(I)LBearWitness$Court;"⟩, 14) := ⟨⟨by decide +kernel, by decide +kernel⟩, List.mem_of_getElem? (i := 13) (by decide +kernel), List.mem_of_getElem? (i := 369) (by decide +kernel), List.mem_of_getElem? (i := 370) (by decide +kernel)⟩
theorem lw_p24 : lw_okq (⟨"BearWitness", "answerDeed", "(II)I"⟩, 14) := ⟨⟨by decide +kernel, by decide +kernel⟩, List.mem_of_getElem? (i := 13) (by decide +kernel), List.mem_of_getElem? (i := 378) (by decide +kernel), List.mem_of_getElem? (i := 379) (by decide +kernel)⟩
theorem lw_p25 : lw_okq (⟨"BearWitness$Court", "hasBear", "(I)Z"⟩, 10) := ⟨⟨by decide +kernel, by decide +kernel⟩, List.mem_of_getElem? (i := 55) (by decide +kernel), List.mem_of_getElem? (i := 382) (by decide +kernel), List.mem_of_getElem? (i := 383) (by decide +kernel)⟩
theorem lw_p26 : lw_okq (⟨"BearWitness$Court", "canBe", "(II)Z"⟩, 10) := ⟨⟨by decide +kernel, by decide +kernel⟩, List.mem_of_getElem? (i := 55) (by decide +kernel), List.mem_of_getElem? (i := 386) (by decide +kernel), List.mem_of_getElem? (i := 387) (by decide +kernel)⟩
theorem lw_p27 : lw_okq (⟨"BearWitness$Court", "commit", "(II)V"⟩, 10) := ⟨⟨by decide +kernel, by decide +kernel⟩, List.mem_of_getElem? (i := 55) (by decide +kernel), List.mem_of_getElem? (i := 391) (by decide +kernel), List.mem_of_getElem? (i := 392) (by decide +kernel)⟩
theorem lw_p28 : lw_okq (⟨"BearWitness$Court", "change", "(III)V"⟩, 10) := ⟨⟨by decide +kernel, by decide +kernel⟩, List.mem_of_getElem? (i := 55) (by decide +kernel), List.mem_of_getElem? (i := 395) (by decide +kernel), List.mem_of_getElem? (i := 396) (by decide +kernel)⟩
theorem lw_p29 : lw_okq (⟨"BearWitness$Court", "takeBackTo", "(I)V"⟩, 10) := ⟨⟨by decide +kernel, by decide +kernel⟩, List.mem_of_getElem? (i := 55) (by decide +kernel), List.mem_of_getElem? (i := 418) (by decide +kernel), List.mem_of_getElem? (i := 419) (by decide +kernel)⟩
theorem lw_p30 : lw_okq (⟨"BearWitness$Court", "answerOf", "(II)I"⟩, 10) := ⟨⟨by decide +kernel, by decide +kernel⟩, List.mem_of_getElem? (i := 55) (by decide +kernel), List.mem_of_getElem? (i := 437) (by decide +kernel), List.mem_of_getElem? (i := 438) (by decide +kernel)⟩
theorem lw_p31 : lw_okq (⟨"BearWitness$Court", "answerIf", "(IIII)I"⟩, 10) := ⟨⟨by decide +kernel, by decide +kernel⟩, List.mem_of_getElem? (i := 55) (by decide +kernel), List.mem_of_getElem? (i := 441) (by decide +kernel), List.mem_of_getElem? (i := 442) (by decide +kernel)⟩
def lw_privs_2 : List (MethodName × Nat) := [(⟨"BearWitness$Reader", "oneFigure", "(I)I"⟩, 4), (⟨"BearWitness$Reader", "fail", "(I)V"⟩, 4), (⟨"BearWitness$Reader", "readBear", "(LBearWitness$Court;)V"⟩, 4), (⟨"BearWitness$Court", "seat", "(IIII)V"⟩, 10), (⟨"BearWitness$Court", "take", "(LBearWitness$Court;)V"⟩, 10), (⟨"BearWitness$Cells", "take", "(LBearWitness$Cells;)V"⟩, 1), (⟨"BearWitness", "forgetKept", "(I)V"⟩, 14), (⟨"BearWitness", "keptIn", "(I)LBearWitness$Court;"⟩, 14), (⟨"BearWitness", "answerDeed", "(II)I"⟩, 14), (⟨"BearWitness$Court", "hasBear", "(I)Z"⟩, 10), (⟨"BearWitness$Court", "canBe", "(II)Z"⟩, 10), (⟨"BearWitness$Court", "commit", "(II)V"⟩, 10), (⟨"BearWitness$Court", "change", "(III)V"⟩, 10), (⟨"BearWitness$Court", "takeBackTo", "(I)V"⟩, 10), (⟨"BearWitness$Court", "answerOf", "(II)I"⟩, 10), (⟨"BearWitness$Court", "answerIf", "(IIII)I"⟩, 10)]
theorem lw_r2 : ∀ q ∈ lw_privs_2, lw_okq q := List.forall_mem_cons.mpr ⟨lw_p16, List.forall_mem_cons.mpr ⟨lw_p17, List.forall_mem_cons.mpr ⟨lw_p18, List.forall_mem_cons.mpr ⟨lw_p19, List.forall_mem_cons.mpr ⟨lw_p20, List.forall_mem_cons.mpr ⟨lw_p21, List.forall_mem_cons.mpr ⟨lw_p22, List.forall_mem_cons.mpr ⟨lw_p23, List.forall_mem_cons.mpr ⟨lw_p24, List.forall_mem_cons.mpr ⟨lw_p25, List.forall_mem_cons.mpr ⟨lw_p26, List.forall_mem_cons.mpr ⟨lw_p27, List.forall_mem_cons.mpr ⟨lw_p28, List.forall_mem_cons.mpr ⟨lw_p29, List.forall_mem_cons.mpr ⟨lw_p30, List.forall_mem_cons.mpr ⟨lw_p31, fun _ h => absurd h List.not_mem_nil⟩⟩⟩⟩⟩⟩⟩⟩⟩⟩⟩⟩⟩⟩⟩⟩
theorem lw_p32 : lw_okq (⟨"BearWitness$Court", "toldOf", "(III)I"⟩, 10) := ⟨⟨by decide +kernel, by decide +kernel⟩, List.mem_of_getElem? (i := 55) (by decide +kernel), List.mem_of_getElem? (i := 445) (by decide +kernel), List.mem_of_getElem? (i := 446) (by decide +kernel)⟩
theorem lw_p33 : lw_okq (⟨"BearWitness$Court", "seenBy", "(III)I"⟩, 10) := ⟨⟨by decide +kernel, by decide +kernel⟩, List.mem_of_getElem? (i := 55) (by decide +kernel), List.mem_of_getElem? (i := 450) (by decide +kernel), List.mem_of_getElem? (i := 451) (by decide +kernel)⟩
theorem lw_p34 : lw_okq (⟨"BearWitness$Court", "isSet", "(I)Z"⟩, 10) := ⟨⟨by decide +kernel, by decide +kernel⟩, List.mem_of_getElem? (i := 55) (by decide +kernel), List.mem_of_getElem? (i := 464) (by decide +kernel), List.mem_of_getElem? (i := 465) (by decide +kernel)⟩
theorem lw_p35 : lw_okq (⟨"BearWitness$Court", "allBears", "()I"⟩, 10) := ⟨⟨by decide +kernel, by decide +kernel⟩, List.mem_of_getElem? (i := 55) (by decide +kernel), List.mem_of_getElem? (i := 468) (by decide +kernel), List.mem_of_getElem? (i := 469) (by decide +kernel)⟩
theorem lw_p36 : lw_okq (⟨"BearWitness$Tally", "hear", "(LBearWitness$Court;)V"⟩, 3) := ⟨⟨by decide +kernel, by decide +kernel⟩, List.mem_of_getElem? (i := 158) (by decide +kernel), List.mem_of_getElem? (i := 472) (by decide +kernel), List.mem_of_getElem? (i := 473) (by decide +kernel)⟩
theorem lw_p37 : lw_okq (⟨"BearWitness$Tally", "tiedBy", "(I)I"⟩, 3) := ⟨⟨by decide +kernel, by decide +kernel⟩, List.mem_of_getElem? (i := 158) (by decide +kernel), List.mem_of_getElem? (i := 480) (by decide +kernel), List.mem_of_getElem? (i := 481) (by decide +kernel)⟩
theorem lw_p38 : lw_okq (⟨"BearWitness$Tally", "balance", "(II)I"⟩, 3) := ⟨⟨by decide +kernel, by decide +kernel⟩, List.mem_of_getElem? (i := 158) (by decide +kernel), List.mem_of_getElem? (i := 484) (by decide +kernel), List.mem_of_getElem? (i := 485) (by decide +kernel)⟩
theorem lw_p39 : lw_okq (⟨"BearWitness$Tally", "toldBy", "(I)I"⟩, 3) := ⟨⟨by decide +kernel, by decide +kernel⟩, List.mem_of_getElem? (i := 158) (by decide +kernel), List.mem_of_getElem? (i := 489) (by decide +kernel), List.mem_of_getElem? (i := 490) (by decide +kernel)⟩
theorem lw_p40 : lw_okq (⟨"BearWitness$Tally", "shownBy", "(I)I"⟩, 3) := ⟨⟨by decide +kernel, by decide +kernel⟩, List.mem_of_getElem? (i := 158) (by decide +kernel), List.mem_of_getElem? (i := 493) (by decide +kernel), List.mem_of_getElem? (i := 494) (by decide +kernel)⟩
theorem lw_p41 : lw_okq (⟨"BearWitness$Trial", "open", "(LBearWitness$Court;II)V"⟩, 6) := ⟨⟨by decide +kernel, by decide +kernel⟩, List.mem_of_getElem? (i := 176) (by decide +kernel), List.mem_of_getElem? (i := 512) (by decide +kernel), List.mem_of_getElem? (i := 513) (by decide +kernel)⟩
theorem lw_p42 : lw_okq (⟨"BearWitness$Trial", "worthNow", "(I)I"⟩, 6) := ⟨⟨by decide +kernel, by decide +kernel⟩, List.mem_of_getElem? (i := 176) (by decide +kernel), List.mem_of_getElem? (i := 524) (by decide +kernel), List.mem_of_getElem? (i := 525) (by decide +kernel)⟩
theorem lw_p43 : lw_okq (⟨"BearWitness$Trial", "fewestPresses", "()I"⟩, 6) := ⟨⟨by decide +kernel, by decide +kernel⟩, List.mem_of_getElem? (i := 176) (by decide +kernel), List.mem_of_getElem? (i := 528) (by decide +kernel), List.mem_of_getElem? (i := 529) (by decide +kernel)⟩
theorem lw_p44 : lw_okq (⟨"BearWitness$Trial", "pressOn", "(III)Z"⟩, 6) := ⟨⟨by decide +kernel, by decide +kernel⟩, List.mem_of_getElem? (i := 176) (by decide +kernel), List.mem_of_getElem? (i := 532) (by decide +kernel), List.mem_of_getElem? (i := 533) (by decide +kernel)⟩
theorem lw_p45 : lw_okq (⟨"BearWitness$Trial", "canWear", "(II)Z"⟩, 6) := ⟨⟨by decide +kernel, by decide +kernel⟩, List.mem_of_getElem? (i := 176) (by decide +kernel), List.mem_of_getElem? (i := 536) (by decide +kernel), List.mem_of_getElem? (i := 537) (by decide +kernel)⟩
theorem lw_p46 : lw_okq (⟨"BearWitness$Trial", "wearBy", "(II)V"⟩, 6) := ⟨⟨by decide +kernel, by decide +kernel⟩, List.mem_of_getElem? (i := 176) (by decide +kernel), List.mem_of_getElem? (i := 540) (by decide +kernel), List.mem_of_getElem? (i := 541) (by decide +kernel)⟩
theorem lw_p47 : lw_okq (⟨"BearWitness$Tally", "clash", "(II)I"⟩, 3) := ⟨⟨by decide +kernel, by decide +kernel⟩, List.mem_of_getElem? (i := 158) (by decide +kernel), List.mem_of_getElem? (i := 556) (by decide +kernel), List.mem_of_getElem? (i := 557) (by decide +kernel)⟩
def lw_privs_3 : List (MethodName × Nat) := [(⟨"BearWitness$Court", "toldOf", "(III)I"⟩, 10), (⟨"BearWitness$Court", "seenBy", "(III)I"⟩, 10), (⟨"BearWitness$Court", "isSet", "(I)Z"⟩, 10), (⟨"BearWitness$Court", "allBears", "()I"⟩, 10), (⟨"BearWitness$Tally", "hear", "(LBearWitness$Court;)V"⟩, 3), (⟨"BearWitness$Tally", "tiedBy", "(I)I"⟩, 3), (⟨"BearWitness$Tally", "balance", "(II)I"⟩, 3), (⟨"BearWitness$Tally", "toldBy", "(I)I"⟩, 3), (⟨"BearWitness$Tally", "shownBy", "(I)I"⟩, 3), (⟨"BearWitness$Trial", "open", "(LBearWitness$Court;II)V"⟩, 6), (⟨"BearWitness$Trial", "worthNow", "(I)I"⟩, 6), (⟨"BearWitness$Trial", "fewestPresses", "()I"⟩, 6), (⟨"BearWitness$Trial", "pressOn", "(III)Z"⟩, 6), (⟨"BearWitness$Trial", "canWear", "(II)Z"⟩, 6), (⟨"BearWitness$Trial", "wearBy", "(II)V"⟩, 6), (⟨"BearWitness$Tally", "clash", "(II)I"⟩, 3)]
theorem lw_r3 : ∀ q ∈ lw_privs_3, lw_okq q := List.forall_mem_cons.mpr ⟨lw_p32, List.forall_mem_cons.mpr ⟨lw_p33, List.forall_mem_cons.mpr ⟨lw_p34, List.forall_mem_cons.mpr ⟨lw_p35, List.forall_mem_cons.mpr ⟨lw_p36, List.forall_mem_cons.mpr ⟨lw_p37, List.forall_mem_cons.mpr ⟨lw_p38, List.forall_mem_cons.mpr ⟨lw_p39, List.forall_mem_cons.mpr ⟨lw_p40, List.forall_mem_cons.mpr ⟨lw_p41, List.forall_mem_cons.mpr ⟨lw_p42, List.forall_mem_cons.mpr ⟨lw_p43, List.forall_mem_cons.mpr ⟨lw_p44, List.forall_mem_cons.mpr ⟨lw_p45, List.forall_mem_cons.mpr ⟨lw_p46, List.forall_mem_cons.mpr ⟨lw_p47, fun _ h => absurd h List.not_mem_nil⟩⟩⟩⟩⟩⟩⟩⟩⟩⟩⟩⟩⟩⟩⟩⟩
theorem lw_p48 : lw_okq (⟨"BearWitness$Tally", "hasRivals", "(I)Z"⟩, 3) := ⟨⟨by decide +kernel, by decide +kernel⟩, List.mem_of_getElem? (i := 158) (by decide +kernel), List.mem_of_getElem? (i := 564) (by decide +kernel), List.mem_of_getElem? (i := 565) (by decide +kernel)⟩
theorem lw_p49 : lw_okq (⟨"BearWitness", "readLooks", "(I)I"⟩, 14) := ⟨⟨by decide +kernel, by decide +kernel⟩, List.mem_of_getElem? (i := 13) (by decide +kernel), List.mem_of_getElem? (i := 572) (by decide +kernel), List.mem_of_getElem? (i := 573) (by decide +kernel)⟩
theorem lw_p50 : lw_okq (⟨"BearWitness$Looks", "readFrom", "(LBearWitness$Shelf;II)I"⟩, 4) := ⟨⟨by decide +kernel, by decide +kernel⟩, List.mem_of_getElem? (i := 137) (by decide +kernel), List.mem_of_getElem? (i := 576) (by decide +kernel), List.mem_of_getElem? (i := 577) (by decide +kernel)⟩
theorem lw_p51 : lw_okq (⟨"BearWitness$Looks", "fittingSets", "(LBearWitness$Court;)J"⟩, 4) := ⟨⟨by decide +kernel, by decide +kernel⟩, List.mem_of_getElem? (i := 137) (by decide +kernel), List.mem_of_getElem? (i := 584) (by decide +kernel), List.mem_of_getElem? (i := 585) (by decide +kernel)⟩
theorem lw_p52 : lw_okq (⟨"BearWitness$Looks", "fits", "(LBearWitness$Court;III)Z"⟩, 4) := ⟨⟨by decide +kernel, by decide +kernel⟩, List.mem_of_getElem? (i := 137) (by decide +kernel), List.mem_of_getElem? (i := 595) (by decide +kernel), List.mem_of_getElem? (i := 596) (by decide +kernel)⟩
theorem lw_p53 : lw_okq (⟨"BearWitness", "tellPart", "(JJ)V"⟩, 14) := ⟨⟨by decide +kernel, by decide +kernel⟩, List.mem_of_getElem? (i := 13) (by decide +kernel), List.mem_of_getElem? (i := 609) (by decide +kernel), List.mem_of_getElem? (i := 610) (by decide +kernel)⟩
theorem lw_p54 : lw_okq (⟨"BearWitness", "greatestPart", "(IIJ)I"⟩, 14) := ⟨⟨by decide +kernel, by decide +kernel⟩, List.mem_of_getElem? (i := 13) (by decide +kernel), List.mem_of_getElem? (i := 626) (by decide +kernel), List.mem_of_getElem? (i := 627) (by decide +kernel)⟩
theorem lw_p55 : lw_okq (⟨"BearWitness$Looks", "fitKind", "(LBearWitness$Court;II)Z"⟩, 4) := ⟨⟨by decide +kernel, by decide +kernel⟩, List.mem_of_getElem? (i := 137) (by decide +kernel), List.mem_of_getElem? (i := 638) (by decide +kernel), List.mem_of_getElem? (i := 639) (by decide +kernel)⟩
theorem lw_p56 : lw_okq (⟨"BearWitness$Looks", "whoSpoke", "()I"⟩, 4) := ⟨⟨by decide +kernel, by decide +kernel⟩, List.mem_of_getElem? (i := 137) (by decide +kernel), List.mem_of_getElem? (i := 646) (by decide +kernel), List.mem_of_getElem? (i := 647) (by decide +kernel)⟩
theorem lw_p57 : lw_okq (⟨"BearWitness$Looks", "whoKeptBack", "(LBearWitness$Court;)I"⟩, 4) := ⟨⟨by decide +kernel, by decide +kernel⟩, List.mem_of_getElem? (i := 137) (by decide +kernel), List.mem_of_getElem? (i := 650) (by decide +kernel), List.mem_of_getElem? (i := 651) (by decide +kernel)⟩
theorem lw_p58 : lw_okq (⟨"BearWitness$Trial", "playOut", "(I)I"⟩, 6) := ⟨⟨by decide +kernel, by decide +kernel⟩, List.mem_of_getElem? (i := 176) (by decide +kernel), List.mem_of_getElem? (i := 660) (by decide +kernel), List.mem_of_getElem? (i := 661) (by decide +kernel)⟩
theorem lw_p59 : lw_okq (⟨"BearWitness", "weightOf", "(II)J"⟩, 14) := ⟨⟨by decide +kernel, by decide +kernel⟩, List.mem_of_getElem? (i := 13) (by decide +kernel), List.mem_of_getElem? (i := 676) (by decide +kernel), List.mem_of_getElem? (i := 677) (by decide +kernel)⟩
theorem lw_p60 : lw_okq (⟨"BearWitness", "allWeight", "()J"⟩, 14) := ⟨⟨by decide +kernel, by decide +kernel⟩, List.mem_of_getElem? (i := 13) (by decide +kernel), List.mem_of_getElem? (i := 680) (by decide +kernel), List.mem_of_getElem? (i := 681) (by decide +kernel)⟩
theorem lw_p61 : lw_okq (⟨"BearWitness", "shownByAll", "()I"⟩, 14) := ⟨⟨by decide +kernel, by decide +kernel⟩, List.mem_of_getElem? (i := 13) (by decide +kernel), List.mem_of_getElem? (i := 700) (by decide +kernel), List.mem_of_getElem? (i := 701) (by decide +kernel)⟩
theorem lw_p62 : lw_okq (⟨"BearWitness$Cells", "sum", "(I)I"⟩, 1) := ⟨⟨by decide +kernel, by decide +kernel⟩, List.mem_of_getElem? (i := 27) (by decide +kernel), List.mem_of_getElem? (i := 720) (by decide +kernel), List.mem_of_getElem? (i := 721) (by decide +kernel)⟩
theorem lw_p63 : lw_okq (⟨"BearWitness$Court", "thoseOfKind", "(I)I"⟩, 10) := ⟨⟨by decide +kernel, by decide +kernel⟩, List.mem_of_getElem? (i := 55) (by decide +kernel), List.mem_of_getElem? (i := 724) (by decide +kernel), List.mem_of_getElem? (i := 725) (by decide +kernel)⟩
def lw_privs_4 : List (MethodName × Nat) := [(⟨"BearWitness$Tally", "hasRivals", "(I)Z"⟩, 3), (⟨"BearWitness", "readLooks", "(I)I"⟩, 14), (⟨"BearWitness$Looks", "readFrom", "(LBearWitness$Shelf;II)I"⟩, 4), (⟨"BearWitness$Looks", "fittingSets", "(LBearWitness$Court;)J"⟩, 4), (⟨"BearWitness$Looks", "fits", "(LBearWitness$Court;III)Z"⟩, 4), (⟨"BearWitness", "tellPart", "(JJ)V"⟩, 14), (⟨"BearWitness", "greatestPart", "(IIJ)I"⟩, 14), (⟨"BearWitness$Looks", "fitKind", "(LBearWitness$Court;II)Z"⟩, 4), (⟨"BearWitness$Looks", "whoSpoke", "()I"⟩, 4), (⟨"BearWitness$Looks", "whoKeptBack", "(LBearWitness$Court;)I"⟩, 4), (⟨"BearWitness$Trial", "playOut", "(I)I"⟩, 6), (⟨"BearWitness", "weightOf", "(II)J"⟩, 14), (⟨"BearWitness", "allWeight", "()J"⟩, 14), (⟨"BearWitness", "shownByAll", "()I"⟩, 14), (⟨"BearWitness$Cells", "sum", "(I)I"⟩, 1), (⟨"BearWitness$Court", "thoseOfKind", "(I)I"⟩, 10)]
theorem lw_r4 : ∀ q ∈ lw_privs_4, lw_okq q := List.forall_mem_cons.mpr ⟨lw_p48, List.forall_mem_cons.mpr ⟨lw_p49, List.forall_mem_cons.mpr ⟨lw_p50, List.forall_mem_cons.mpr ⟨lw_p51, List.forall_mem_cons.mpr ⟨lw_p52, List.forall_mem_cons.mpr ⟨lw_p53, List.forall_mem_cons.mpr ⟨lw_p54, List.forall_mem_cons.mpr ⟨lw_p55, List.forall_mem_cons.mpr ⟨lw_p56, List.forall_mem_cons.mpr ⟨lw_p57, List.forall_mem_cons.mpr ⟨lw_p58, List.forall_mem_cons.mpr ⟨lw_p59, List.forall_mem_cons.mpr ⟨lw_p60, List.forall_mem_cons.mpr ⟨lw_p61, List.forall_mem_cons.mpr ⟨lw_p62, List.forall_mem_cons.mpr ⟨lw_p63, fun _ h => absurd h List.not_mem_nil⟩⟩⟩⟩⟩⟩⟩⟩⟩⟩⟩⟩⟩⟩⟩⟩
theorem lw_p64 : lw_okq (⟨"BearWitness$Shelf", "thoseThere", "()I"⟩, 4) := ⟨⟨by decide +kernel, by decide +kernel⟩, List.mem_of_getElem? (i := 21) (by decide +kernel), List.mem_of_getElem? (i := 728) (by decide +kernel), List.mem_of_getElem? (i := 729) (by decide +kernel)⟩
theorem lw_p65 : lw_okq (⟨"BearWitness", "keptCourts", "()I"⟩, 14) := ⟨⟨by decide +kernel, by decide +kernel⟩, List.mem_of_getElem? (i := 13) (by decide +kernel), List.mem_of_getElem? (i := 733) (by decide +kernel), List.mem_of_getElem? (i := 734) (by decide +kernel)⟩
theorem lw_p66 : lw_okq (⟨"BearWitness", "ofBear", "(II)I"⟩, 14) := ⟨⟨by decide +kernel, by decide +kernel⟩, List.mem_of_getElem? (i := 13) (by decide +kernel), List.mem_of_getElem? (i := 744) (by decide +kernel), List.mem_of_getElem? (i := 745) (by decide +kernel)⟩
theorem lw_p67 : lw_okq (⟨"BearWitness$Shelf", "digestFrom", "(J)J"⟩, 4) := ⟨⟨by decide +kernel, by decide +kernel⟩, List.mem_of_getElem? (i := 21) (by decide +kernel), List.mem_of_getElem? (i := 749) (by decide +kernel), List.mem_of_getElem? (i := 750) (by decide +kernel)⟩
def lw_privs_5 : List (MethodName × Nat) := [(⟨"BearWitness$Shelf", "thoseThere", "()I"⟩, 4), (⟨"BearWitness", "keptCourts", "()I"⟩, 14), (⟨"BearWitness", "ofBear", "(II)I"⟩, 14), (⟨"BearWitness$Shelf", "digestFrom", "(J)J"⟩, 4)]
theorem lw_r5 : ∀ q ∈ lw_privs_5, lw_okq q := List.forall_mem_cons.mpr ⟨lw_p64, List.forall_mem_cons.mpr ⟨lw_p65, List.forall_mem_cons.mpr ⟨lw_p66, List.forall_mem_cons.mpr ⟨lw_p67, fun _ h => absurd h List.not_mem_nil⟩⟩⟩⟩
def lw_privs : List (MethodName × Nat) := lw_privs_1 ++ (lw_privs_2 ++ (lw_privs_3 ++ (lw_privs_4 ++ (lw_privs_5))))
def lw_tbl : List Cond := k2_sels lw_privs ++ tables_1
theorem lw_privs_ok : ∀ q ∈ lw_privs, lw_okq q := by
  show ∀ q ∈ lw_privs_1 ++ (lw_privs_2 ++ (lw_privs_3 ++ (lw_privs_4 ++ (lw_privs_5)))), lw_okq q
  exact List.forall_mem_append.mpr ⟨lw_r1, List.forall_mem_append.mpr ⟨lw_r2, List.forall_mem_append.mpr ⟨lw_r3, List.forall_mem_append.mpr ⟨lw_r4, lw_r5⟩⟩⟩⟩
end
section
def RX0 : String := "BearWitness$Cells"
def TX0 : u_T := fun k => match k with
  | _ => ("BearWitness$Cells", "cells", "[I", true)
def tyX0 : Nat → FieldType := fun k => match k with
  | _ => .array .int
abbrev wsX00 : List Cond := u_ws RX0 TX0 1
theorem nmX0 : ∀ a, a < 1 → ∀ b, b < 1 → a ≠ b → (TX0 a).2.1 ≠ (TX0 b).2.1 := by decide +kernel
theorem tyX0_ok : ∀ k, k < 1 → parseFieldDescriptor (TX0 k).2.2.1 = some (tyX0 k) := by decide +kernel
abbrev cX0_init : ByteArray := prog_2_method_1_code
def yX0_init : MethodName := ⟨RX0, "<init>", "(I)V"⟩
abbrev cX0_get : ByteArray := prog_2_method_2_code
def yX0_get : MethodName := ⟨RX0, "get", "(I)I"⟩
abbrev cX0_set : ByteArray := prog_2_method_3_code
def yX0_set : MethodName := ⟨RX0, "set", "(II)V"⟩
abbrev cX0_sum : ByteArray := prog_2_method_4_code
def yX0_sum : MethodName := ⟨RX0, "sum", "(I)I"⟩
abbrev cX0_take : ByteArray := prog_2_method_5_code
def yX0_take : MethodName := ⟨RX0, "take", "(LBearWitness$Cells;)V"⟩
def RX1 : String := "BearWitness$Court"
def TX1 : u_T := fun k => match k with
  | 0 => ("BearWitness$Court", "bears", "I", false)
  | 1 => ("BearWitness$Court", "done", "I", false)
  | 2 => ("BearWitness$Court", "wall", "I", false)
  | 3 => ("BearWitness$Court", "deeds", "I", false)
  | 4 => ("BearWitness$Court", "kind", "LBearWitness$Cells;", true)
  | 5 => ("BearWitness$Court", "eyes", "LBearWitness$Cells;", true)
  | 6 => ("BearWitness$Court", "wear", "LBearWitness$Cells;", true)
  | 7 => ("BearWitness$Court", "view", "LBearWitness$Cells;", true)
  | 8 => ("BearWitness$Court", "deedActs", "LBearWitness$Cells;", true)
  | _ => ("BearWitness$Court", "deedBears", "LBearWitness$Cells;", true)
def tyX1 : Nat → FieldType := fun k => match k with
  | 0 => .int
  | 1 => .int
  | 2 => .int
  | 3 => .int
  | 4 => .object "BearWitness$Cells"
  | 5 => .object "BearWitness$Cells"
  | 6 => .object "BearWitness$Cells"
  | 7 => .object "BearWitness$Cells"
  | 8 => .object "BearWitness$Cells"
  | _ => .object "BearWitness$Cells"
abbrev wsX10 : List Cond := u_ws RX1 TX1 10
theorem nmX1 : ∀ a, a < 10 → ∀ b, b < 10 → a ≠ b → (TX1 a).2.1 ≠ (TX1 b).2.1 := by decide +kernel
theorem tyX1_ok : ∀ k, k < 10 → parseFieldDescriptor (TX1 k).2.2.1 = some (tyX1 k) := by decide +kernel
abbrev cX1_init : ByteArray := prog_3_method_1_code
def yX1_init : MethodName := ⟨RX1, "<init>", "()V"⟩
abbrev cX1_clear : ByteArray := prog_3_method_2_code
def yX1_clear : MethodName := ⟨RX1, "clear", "()V"⟩
abbrev cX1_take : ByteArray := prog_3_method_3_code
def yX1_take : MethodName := ⟨RX1, "take", "(LBearWitness$Court;)V"⟩
abbrev cX1_seat : ByteArray := prog_3_method_4_code
def yX1_seat : MethodName := ⟨RX1, "seat", "(IIII)V"⟩
abbrev cX1_hasBear : ByteArray := prog_3_method_5_code
def yX1_hasBear : MethodName := ⟨RX1, "hasBear", "(I)Z"⟩
abbrev cX1_isSet : ByteArray := prog_3_method_6_code
def yX1_isSet : MethodName := ⟨RX1, "isSet", "(I)Z"⟩
abbrev cX1_allBears : ByteArray := prog_3_method_7_code
def yX1_allBears : MethodName := ⟨RX1, "allBears", "()I"⟩
abbrev cX1_thoseOfKind : ByteArray := prog_3_method_8_code
def yX1_thoseOfKind : MethodName := ⟨RX1, "thoseOfKind", "(I)I"⟩
abbrev cX1_canBe : ByteArray := prog_3_method_9_code
def yX1_canBe : MethodName := ⟨RX1, "canBe", "(II)Z"⟩
abbrev cX1_commit : ByteArray := prog_3_method_10_code
def yX1_commit : MethodName := ⟨RX1, "commit", "(II)V"⟩
abbrev cX1_takeBackTo : ByteArray := prog_3_method_11_code
def yX1_takeBackTo : MethodName := ⟨RX1, "takeBackTo", "(I)V"⟩
abbrev cX1_change : ByteArray := prog_3_method_12_code
def yX1_change : MethodName := ⟨RX1, "change", "(III)V"⟩
abbrev cX1_seenBy : ByteArray := prog_3_method_13_code
def yX1_seenBy : MethodName := ⟨RX1, "seenBy", "(III)I"⟩
abbrev cX1_toldOf : ByteArray := prog_3_method_14_code
def yX1_toldOf : MethodName := ⟨RX1, "toldOf", "(III)I"⟩
abbrev cX1_onesOf : ByteArray := prog_3_method_15_code
def yX1_onesOf : MethodName := ⟨RX1, "onesOf", "(IIII)I"⟩
abbrev cX1_answerIf : ByteArray := prog_3_method_16_code
def yX1_answerIf : MethodName := ⟨RX1, "answerIf", "(IIII)I"⟩
abbrev cX1_answerOf : ByteArray := prog_3_method_17_code
def yX1_answerOf : MethodName := ⟨RX1, "answerOf", "(II)I"⟩
def RX2 : String := "BearWitness$Looks"
def TX2 : u_T := fun k => match k with
  | 0 => ("BearWitness$Looks", "pairs", "I", false)
  | 1 => ("BearWitness$Looks", "whom", "LBearWitness$Cells;", true)
  | 2 => ("BearWitness$Looks", "thing", "LBearWitness$Cells;", true)
  | _ => ("BearWitness$Looks", "told", "LBearWitness$Cells;", true)
def tyX2 : Nat → FieldType := fun k => match k with
  | 0 => .int
  | 1 => .object "BearWitness$Cells"
  | 2 => .object "BearWitness$Cells"
  | _ => .object "BearWitness$Cells"
abbrev wsX20 : List Cond := u_ws RX2 TX2 4
theorem nmX2 : ∀ a, a < 4 → ∀ b, b < 4 → a ≠ b → (TX2 a).2.1 ≠ (TX2 b).2.1 := by decide +kernel
theorem tyX2_ok : ∀ k, k < 4 → parseFieldDescriptor (TX2 k).2.2.1 = some (tyX2 k) := by decide +kernel
abbrev cX2_init : ByteArray := prog_4_method_1_code
def yX2_init : MethodName := ⟨RX2, "<init>", "()V"⟩
abbrev cX2_setsWith : ByteArray := prog_4_method_2_code
def yX2_setsWith : MethodName := ⟨RX2, "setsWith", "(I)J"⟩
abbrev cX2_readFrom : ByteArray := prog_4_method_3_code
def yX2_readFrom : MethodName := ⟨RX2, "readFrom", "(LBearWitness$Shelf;II)I"⟩
abbrev cX2_fits : ByteArray := prog_4_method_4_code
def yX2_fits : MethodName := ⟨RX2, "fits", "(LBearWitness$Court;III)Z"⟩
abbrev cX2_fittingSets : ByteArray := prog_4_method_5_code
def yX2_fittingSets : MethodName := ⟨RX2, "fittingSets", "(LBearWitness$Court;)J"⟩
abbrev cX2_fitKind : ByteArray := prog_4_method_6_code
def yX2_fitKind : MethodName := ⟨RX2, "fitKind", "(LBearWitness$Court;II)Z"⟩
abbrev cX2_whoSpoke : ByteArray := prog_4_method_7_code
def yX2_whoSpoke : MethodName := ⟨RX2, "whoSpoke", "()I"⟩
abbrev cX2_whoKeptBack : ByteArray := prog_4_method_8_code
def yX2_whoKeptBack : MethodName := ⟨RX2, "whoKeptBack", "(LBearWitness$Court;)I"⟩
def RX3 : String := "BearWitness$Reader"
def TX3 : u_T := fun k => match k with
  | 0 => ("BearWitness$Reader", "bytes", "LBearWitness$Cells;", true)
  | 1 => ("BearWitness$Reader", "size", "I", false)
  | 2 => ("BearWitness$Reader", "place", "I", false)
  | _ => ("BearWitness$Reader", "met", "I", false)
def tyX3 : Nat → FieldType := fun k => match k with
  | 0 => .object "BearWitness$Cells"
  | 1 => .int
  | 2 => .int
  | _ => .int
abbrev wsX30 : List Cond := u_ws RX3 TX3 4
theorem nmX3 : ∀ a, a < 4 → ∀ b, b < 4 → a ≠ b → (TX3 a).2.1 ≠ (TX3 b).2.1 := by decide +kernel
theorem tyX3_ok : ∀ k, k < 4 → parseFieldDescriptor (TX3 k).2.2.1 = some (tyX3 k) := by decide +kernel
abbrev cX3_init : ByteArray := prog_5_method_1_code
def yX3_init : MethodName := ⟨RX3, "<init>", "()V"⟩
abbrev cX3_readInto : ByteArray := prog_5_method_2_code
def yX3_readInto : MethodName := ⟨RX3, "readInto", "(LBearWitness$Court;LBearWitness$Shelf;I)I"⟩
abbrev cX3_open : ByteArray := prog_5_method_3_code
def yX3_open : MethodName := ⟨RX3, "open", "(LBearWitness$Shelf;I)V"⟩
abbrev cX3_readBear : ByteArray := prog_5_method_4_code
def yX3_readBear : MethodName := ⟨RX3, "readBear", "(LBearWitness$Court;)V"⟩
abbrev cX3_skipBlanks : ByteArray := prog_5_method_5_code
def yX3_skipBlanks : MethodName := ⟨RX3, "skipBlanks", "()V"⟩
abbrev cX3_byteHere : ByteArray := prog_5_method_6_code
def yX3_byteHere : MethodName := ⟨RX3, "byteHere", "()I"⟩
abbrev cX3_fail : ByteArray := prog_5_method_7_code
def yX3_fail : MethodName := ⟨RX3, "fail", "(I)V"⟩
abbrev cX3_oneFigure : ByteArray := prog_5_method_8_code
def yX3_oneFigure : MethodName := ⟨RX3, "oneFigure", "(I)I"⟩
abbrev cX3_twoFigures : ByteArray := prog_5_method_9_code
def yX3_twoFigures : MethodName := ⟨RX3, "twoFigures", "()I"⟩
abbrev cX3_kindOfLetter : ByteArray := prog_5_method_10_code
def yX3_kindOfLetter : MethodName := ⟨RX3, "kindOfLetter", "(I)I"⟩
def RX4 : String := "BearWitness$Shelf"
def TX4 : u_T := fun k => match k with
  | 0 => ("BearWitness$Shelf", "number", "I", true)
  | 1 => ("BearWitness$Shelf", "width", "I", true)
  | 2 => ("BearWitness$Shelf", "sizes", "LBearWitness$Cells;", true)
  | _ => ("BearWitness$Shelf", "places", "LBearWitness$Cells;", true)
def tyX4 : Nat → FieldType := fun k => match k with
  | 0 => .int
  | 1 => .int
  | 2 => .object "BearWitness$Cells"
  | _ => .object "BearWitness$Cells"
abbrev wsX40 : List Cond := u_ws RX4 TX4 4
theorem nmX4 : ∀ a, a < 4 → ∀ b, b < 4 → a ≠ b → (TX4 a).2.1 ≠ (TX4 b).2.1 := by decide +kernel
theorem tyX4_ok : ∀ k, k < 4 → parseFieldDescriptor (TX4 k).2.2.1 = some (tyX4 k) := by decide +kernel
abbrev cX4_init : ByteArray := prog_6_method_1_code
def yX4_init : MethodName := ⟨RX4, "<init>", "(II)V"⟩
abbrev cX4_isNumber : ByteArray := prog_6_method_2_code
def yX4_isNumber : MethodName := ⟨RX4, "isNumber", "(I)Z"⟩
abbrev cX4_sizeOf : ByteArray := prog_6_method_3_code
def yX4_sizeOf : MethodName := ⟨RX4, "sizeOf", "(I)I"⟩
abbrev cX4_has : ByteArray := prog_6_method_4_code
def yX4_has : MethodName := ⟨RX4, "has", "(I)Z"⟩
abbrev cX4_hasPlace : ByteArray := prog_6_method_5_code
def yX4_hasPlace : MethodName := ⟨RX4, "hasPlace", "(II)Z"⟩
abbrev cX4_get : ByteArray := prog_6_method_7_code
def yX4_get : MethodName := ⟨RX4, "get", "(II)I"⟩
abbrev cX4_set : ByteArray := prog_6_method_8_code
def yX4_set : MethodName := ⟨RX4, "set", "(III)V"⟩
abbrev cX4_make : ByteArray := prog_6_method_9_code
def yX4_make : MethodName := ⟨RX4, "make", "(III)V"⟩
abbrev cX4_thoseThere : ByteArray := prog_6_method_13_code
def yX4_thoseThere : MethodName := ⟨RX4, "thoseThere", "()I"⟩
abbrev cX4_digestFrom : ByteArray := prog_6_method_14_code
def yX4_digestFrom : MethodName := ⟨RX4, "digestFrom", "(J)J"⟩
def RX5 : String := "BearWitness$Tally"
def TX5 : u_T := fun k => match k with
  | 0 => ("BearWitness$Tally", "bears", "I", false)
  | 1 => ("BearWitness$Tally", "ones", "LBearWitness$Cells;", true)
  | _ => ("BearWitness$Tally", "noughts", "LBearWitness$Cells;", true)
def tyX5 : Nat → FieldType := fun k => match k with
  | 0 => .int
  | 1 => .object "BearWitness$Cells"
  | _ => .object "BearWitness$Cells"
abbrev wsX50 : List Cond := u_ws RX5 TX5 3
theorem nmX5 : ∀ a, a < 3 → ∀ b, b < 3 → a ≠ b → (TX5 a).2.1 ≠ (TX5 b).2.1 := by decide +kernel
theorem tyX5_ok : ∀ k, k < 3 → parseFieldDescriptor (TX5 k).2.2.1 = some (tyX5 k) := by decide +kernel
abbrev cX5_init : ByteArray := prog_7_method_1_code
def yX5_init : MethodName := ⟨RX5, "<init>", "()V"⟩
abbrev cX5_hear : ByteArray := prog_7_method_2_code
def yX5_hear : MethodName := ⟨RX5, "hear", "(LBearWitness$Court;)V"⟩
abbrev cX5_toldBy : ByteArray := prog_7_method_3_code
def yX5_toldBy : MethodName := ⟨RX5, "toldBy", "(I)I"⟩
abbrev cX5_balance : ByteArray := prog_7_method_4_code
def yX5_balance : MethodName := ⟨RX5, "balance", "(II)I"⟩
abbrev cX5_shownBy : ByteArray := prog_7_method_5_code
def yX5_shownBy : MethodName := ⟨RX5, "shownBy", "(I)I"⟩
abbrev cX5_tiedBy : ByteArray := prog_7_method_6_code
def yX5_tiedBy : MethodName := ⟨RX5, "tiedBy", "(I)I"⟩
abbrev cX5_clash : ByteArray := prog_7_method_7_code
def yX5_clash : MethodName := ⟨RX5, "clash", "(II)I"⟩
abbrev cX5_hasRivals : ByteArray := prog_7_method_8_code
def yX5_hasRivals : MethodName := ⟨RX5, "hasRivals", "(I)Z"⟩
def RX6 : String := "BearWitness$Trial"
def TX6 : u_T := fun k => match k with
  | 0 => ("BearWitness$Trial", "bears", "I", false)
  | 1 => ("BearWitness$Trial", "called", "I", false)
  | 2 => ("BearWitness$Trial", "more", "I", false)
  | 3 => ("BearWitness$Trial", "wear", "LBearWitness$Cells;", true)
  | 4 => ("BearWitness$Trial", "worth", "LBearWitness$Cells;", true)
  | _ => ("BearWitness$Trial", "pressed", "LBearWitness$Cells;", true)
def tyX6 : Nat → FieldType := fun k => match k with
  | 0 => .int
  | 1 => .int
  | 2 => .int
  | 3 => .object "BearWitness$Cells"
  | 4 => .object "BearWitness$Cells"
  | _ => .object "BearWitness$Cells"
abbrev wsX60 : List Cond := u_ws RX6 TX6 6
theorem nmX6 : ∀ a, a < 6 → ∀ b, b < 6 → a ≠ b → (TX6 a).2.1 ≠ (TX6 b).2.1 := by decide +kernel
theorem tyX6_ok : ∀ k, k < 6 → parseFieldDescriptor (TX6 k).2.2.1 = some (tyX6 k) := by decide +kernel
abbrev cX6_init : ByteArray := prog_8_method_1_code
def yX6_init : MethodName := ⟨RX6, "<init>", "()V"⟩
abbrev cX6_open : ByteArray := prog_8_method_2_code
def yX6_open : MethodName := ⟨RX6, "open", "(LBearWitness$Court;II)V"⟩
abbrev cX6_worthIf : ByteArray := prog_8_method_3_code
def yX6_worthIf : MethodName := ⟨RX6, "worthIf", "(LBearWitness$Court;III)I"⟩
abbrev cX6_worthNow : ByteArray := prog_8_method_4_code
def yX6_worthNow : MethodName := ⟨RX6, "worthNow", "(I)I"⟩
abbrev cX6_canWear : ByteArray := prog_8_method_5_code
def yX6_canWear : MethodName := ⟨RX6, "canWear", "(II)Z"⟩
abbrev cX6_wearBy : ByteArray := prog_8_method_6_code
def yX6_wearBy : MethodName := ⟨RX6, "wearBy", "(II)V"⟩
abbrev cX6_fewestPresses : ByteArray := prog_8_method_7_code
def yX6_fewestPresses : MethodName := ⟨RX6, "fewestPresses", "()I"⟩
abbrev cX6_pressOn : ByteArray := prog_8_method_8_code
def yX6_pressOn : MethodName := ⟨RX6, "pressOn", "(III)Z"⟩
abbrev cX6_playOut : ByteArray := prog_8_method_9_code
def yX6_playOut : MethodName := ⟨RX6, "playOut", "(I)I"⟩
def RX7 : String := "BearWitness"
def TX7 : u_T := fun k => match k with
  | 0 => ("BearWitness", "rows", "LBearWitness$Shelf;", true)
  | 1 => ("BearWitness", "texts", "LBearWitness$Shelf;", true)
  | 2 => ("BearWitness", "now", "LBearWitness$Court;", true)
  | 3 => ("BearWitness", "draft", "LBearWitness$Court;", true)
  | 4 => ("BearWitness", "kept", "[LBearWitness$Court;", true)
  | 5 => ("BearWitness", "reader", "LBearWitness$Reader;", true)
  | 6 => ("BearWitness", "looks", "LBearWitness$Looks;", true)
  | 7 => ("BearWitness", "tally", "LBearWitness$Tally;", true)
  | 8 => ("BearWitness", "trial", "LBearWitness$Trial;", true)
  | 9 => ("BearWitness", "findingCounts", "LBearWitness$Cells;", true)
  | 10 => ("BearWitness", "lastFinding", "I", false)
  | 11 => ("BearWitness", "lastAsked", "I", false)
  | 12 => ("BearWitness", "lastUpper", "J", false)
  | _ => ("BearWitness", "lastLower", "J", false)
def tyX7 : Nat → FieldType := fun k => match k with
  | 0 => .object "BearWitness$Shelf"
  | 1 => .object "BearWitness$Shelf"
  | 2 => .object "BearWitness$Court"
  | 3 => .object "BearWitness$Court"
  | 4 => .array (.object "BearWitness$Court")
  | 5 => .object "BearWitness$Reader"
  | 6 => .object "BearWitness$Looks"
  | 7 => .object "BearWitness$Tally"
  | 8 => .object "BearWitness$Trial"
  | 9 => .object "BearWitness$Cells"
  | 10 => .int
  | 11 => .int
  | 12 => .long
  | _ => .long
abbrev wsX70 : List Cond := u_ws RX7 TX7 14
theorem nmX7 : ∀ a, a < 14 → ∀ b, b < 14 → a ≠ b → (TX7 a).2.1 ≠ (TX7 b).2.1 := by decide +kernel
theorem tyX7_ok : ∀ k, k < 14 → parseFieldDescriptor (TX7 k).2.2.1 = some (tyX7 k) := by decide +kernel
abbrev cX7_init : ByteArray := prog_1_method_1_code
def yX7_init : MethodName := ⟨RX7, "<init>", "()V"⟩
abbrev cX7_row : ByteArray := prog_1_method_2_code
def yX7_row : MethodName := ⟨RX7, "row", "(II)I"⟩
abbrev cX7_lay : ByteArray := prog_1_method_3_code
def yX7_lay : MethodName := ⟨RX7, "lay", "(III)I"⟩
abbrev cX7_at : ByteArray := prog_1_method_4_code
def yX7_at : MethodName := ⟨RX7, "at", "(II)I"⟩
abbrev cX7_text : ByteArray := prog_1_method_8_code
def yX7_text : MethodName := ⟨RX7, "text", "(II)I"⟩
abbrev cX7_put : ByteArray := prog_1_method_9_code
def yX7_put : MethodName := ⟨RX7, "put", "(III)I"⟩
abbrev cX7_court : ByteArray := prog_1_method_11_code
def yX7_court : MethodName := ⟨RX7, "court", "(I)I"⟩
abbrev cX7_bear : ByteArray := prog_1_method_12_code
def yX7_bear : MethodName := ⟨RX7, "bear", "(II)I"⟩
abbrev cX7_press : ByteArray := prog_1_method_14_code
def yX7_press : MethodName := ⟨RX7, "press", "(I)I"⟩
abbrev cX7_mend : ByteArray := prog_1_method_15_code
def yX7_mend : MethodName := ⟨RX7, "mend", "(I)I"⟩
abbrev cX7_eye : ByteArray := prog_1_method_16_code
def yX7_eye : MethodName := ⟨RX7, "eye", "(I)I"⟩
abbrev cX7_turn : ByteArray := prog_1_method_17_code
def yX7_turn : MethodName := ⟨RX7, "turn", "(I)I"⟩
abbrev cX7_undo : ByteArray := prog_1_method_18_code
def yX7_undo : MethodName := ⟨RX7, "undo", "(I)I"⟩
abbrev cX7_keep : ByteArray := prog_1_method_19_code
def yX7_keep : MethodName := ⟨RX7, "keep", "(I)I"⟩
abbrev cX7_on : ByteArray := prog_1_method_20_code
def yX7_on : MethodName := ⟨RX7, "on", "(I)I"⟩
abbrev cX7_tells : ByteArray := prog_1_method_21_code
def yX7_tells : MethodName := ⟨RX7, "tells", "(II)I"⟩
abbrev cX7_shown : ByteArray := prog_1_method_22_code
def yX7_shown : MethodName := ⟨RX7, "shown", "(I)I"⟩
abbrev cX7_call : ByteArray := prog_1_method_23_code
def yX7_call : MethodName := ⟨RX7, "call", "(I)I"⟩
abbrev cX7_shake : ByteArray := prog_1_method_24_code
def yX7_shake : MethodName := ⟨RX7, "shake", "(III)I"⟩
abbrev cX7_cover : ByteArray := prog_1_method_25_code
def yX7_cover : MethodName := ⟨RX7, "cover", "(I)I"⟩
abbrev cX7_rivals : ByteArray := prog_1_method_26_code
def yX7_rivals : MethodName := ⟨RX7, "rivals", "(II)I"⟩
abbrev cX7_apart : ByteArray := prog_1_method_27_code
def yX7_apart : MethodName := ⟨RX7, "apart", "()I"⟩
abbrev cX7_truths : ByteArray := prog_1_method_28_code
def yX7_truths : MethodName := ⟨RX7, "truths", "(I)I"⟩
abbrev cX7_sure : ByteArray := prog_1_method_29_code
def yX7_sure : MethodName := ⟨RX7, "sure", "(I)I"⟩
abbrev cX7_next : ByteArray := prog_1_method_30_code
def yX7_next : MethodName := ⟨RX7, "next", "(I)I"⟩
abbrev cX7_kinds : ByteArray := prog_1_method_31_code
def yX7_kinds : MethodName := ⟨RX7, "kinds", "(II)I"⟩
abbrev cX7_walls : ByteArray := prog_1_method_32_code
def yX7_walls : MethodName := ⟨RX7, "walls", "(I)I"⟩
abbrev cX7_duel : ByteArray := prog_1_method_33_code
def yX7_duel : MethodName := ⟨RX7, "duel", "(II)I"⟩
abbrev cX7_odds : ByteArray := prog_1_method_34_code
def yX7_odds : MethodName := ⟨RX7, "odds", "(II)I"⟩
abbrev cX7_mid : ByteArray := prog_1_method_35_code
def yX7_mid : MethodName := ⟨RX7, "mid", "(I)I"⟩
abbrev cX7_lots : ByteArray := prog_1_method_36_code
def yX7_lots : MethodName := ⟨RX7, "lots", "(II)I"⟩
abbrev cX7_asked : ByteArray := prog_1_method_37_code
def yX7_asked : MethodName := ⟨RX7, "asked", "()I"⟩
abbrev cX7_upper : ByteArray := prog_1_method_38_code
def yX7_upper : MethodName := ⟨RX7, "upper", "()J"⟩
abbrev cX7_lower : ByteArray := prog_1_method_39_code
def yX7_lower : MethodName := ⟨RX7, "lower", "()J"⟩
abbrev cX7_count : ByteArray := prog_1_method_40_code
def yX7_count : MethodName := ⟨RX7, "count", "(I)I"⟩
abbrev cX7_digest : ByteArray := prog_1_method_43_code
def yX7_digest : MethodName := ⟨RX7, "digest", "()J"⟩
abbrev cX7_found : ByteArray := prog_1_method_44_code
def yX7_found : MethodName := ⟨RX7, "found", "(I)I"⟩
abbrev cX7_missingPlace : ByteArray := prog_1_method_45_code
def yX7_missingPlace : MethodName := ⟨RX7, "missingPlace", "(LBearWitness$Shelf;II)I"⟩
abbrev cX7_ofBear : ByteArray := prog_1_method_46_code
def yX7_ofBear : MethodName := ⟨RX7, "ofBear", "(II)I"⟩
abbrev cX7_answerDeed : ByteArray := prog_1_method_47_code
def yX7_answerDeed : MethodName := ⟨RX7, "answerDeed", "(II)I"⟩
abbrev cX7_actOfLot : ByteArray := prog_1_method_48_code
def yX7_actOfLot : MethodName := ⟨RX7, "actOfLot", "(I)I"⟩
abbrev cX7_keptIn : ByteArray := prog_1_method_49_code
def yX7_keptIn : MethodName := ⟨RX7, "keptIn", "(I)LBearWitness$Court;"⟩
abbrev cX7_forgetKept : ByteArray := prog_1_method_50_code
def yX7_forgetKept : MethodName := ⟨RX7, "forgetKept", "(I)V"⟩
abbrev cX7_keptCourts : ByteArray := prog_1_method_51_code
def yX7_keptCourts : MethodName := ⟨RX7, "keptCourts", "()I"⟩
abbrev cX7_shownByAll : ByteArray := prog_1_method_52_code
def yX7_shownByAll : MethodName := ⟨RX7, "shownByAll", "()I"⟩
abbrev cX7_readLooks : ByteArray := prog_1_method_53_code
def yX7_readLooks : MethodName := ⟨RX7, "readLooks", "(I)I"⟩
abbrev cX7_greatestPart : ByteArray := prog_1_method_54_code
def yX7_greatestPart : MethodName := ⟨RX7, "greatestPart", "(IIJ)I"⟩
abbrev cX7_leastOf : ByteArray := prog_1_method_55_code
def yX7_leastOf : MethodName := ⟨RX7, "leastOf", "(J)I"⟩
abbrev cX7_isFewer : ByteArray := prog_1_method_56_code
def yX7_isFewer : MethodName := ⟨RX7, "isFewer", "(II)Z"⟩
abbrev cX7_isThing : ByteArray := prog_1_method_57_code
def yX7_isThing : MethodName := ⟨RX7, "isThing", "(I)Z"⟩
abbrev cX7_isChance : ByteArray := prog_1_method_58_code
def yX7_isChance : MethodName := ⟨RX7, "isChance", "(I)Z"⟩
abbrev cX7_isIn : ByteArray := prog_1_method_59_code
def yX7_isIn : MethodName := ⟨RX7, "isIn", "(II)Z"⟩
abbrev cX7_isOfKind : ByteArray := prog_1_method_60_code
def yX7_isOfKind : MethodName := ⟨RX7, "isOfKind", "(II)Z"⟩
abbrev cX7_weightOf : ByteArray := prog_1_method_61_code
def yX7_weightOf : MethodName := ⟨RX7, "weightOf", "(II)J"⟩
abbrev cX7_allWeight : ByteArray := prog_1_method_62_code
def yX7_allWeight : MethodName := ⟨RX7, "allWeight", "()J"⟩
abbrev cX7_tellPart : ByteArray := prog_1_method_63_code
def yX7_tellPart : MethodName := ⟨RX7, "tellPart", "(JJ)V"⟩
abbrev cX7_commonDivisor : ByteArray := prog_1_method_64_code
def yX7_commonDivisor : MethodName := ⟨RX7, "commonDivisor", "(JJ)J"⟩
def RX8 : String := "BearWitnessModel"
def TX8 : u_T := fun k => match k with
  | _ => ("", "", "", false)
def tyX8 : Nat → FieldType := fun k => match k with
  | _ => .int
abbrev wsX80 : List Cond := u_ws RX8 TX8 0
theorem nmX8 : ∀ a, a < 0 → ∀ b, b < 0 → a ≠ b → (TX8 a).2.1 ≠ (TX8 b).2.1 := by decide +kernel
theorem tyX8_ok : ∀ k, k < 0 → parseFieldDescriptor (TX8 k).2.2.1 = some (tyX8 k) := by decide +kernel
def RJ6 : String := "java/lang/Integer"
def TJ6 : u_T := fun k => match k with
  | _ => ("", "", "", false)
def tyJ6 : Nat → FieldType := fun k => match k with
  | _ => .int
abbrev wsJ60 : List Cond := u_ws RJ6 TJ6 0
theorem nmJ6 : ∀ a, a < 0 → ∀ b, b < 0 → a ≠ b → (TJ6 a).2.1 ≠ (TJ6 b).2.1 := by decide +kernel
theorem tyJ6_ok : ∀ k, k < 0 → parseFieldDescriptor (TJ6 k).2.2.1 = some (tyJ6 k) := by decide +kernel
abbrev cJ6_bitCount_0f7a4 : ByteArray := prog_11_method_49_code
def yJ6_bitCount_0f7a4 : MethodName := ⟨RJ6, "bitCount", "(I)I"⟩
def RJ13 : String := "java/lang/Long"
def TJ13 : u_T := fun k => match k with
  | _ => ("", "", "", false)
def tyJ13 : Nat → FieldType := fun k => match k with
  | _ => .int
abbrev wsJ130 : List Cond := u_ws RJ13 TJ13 0
theorem nmJ13 : ∀ a, a < 0 → ∀ b, b < 0 → a ≠ b → (TJ13 a).2.1 ≠ (TJ13 b).2.1 := by decide +kernel
theorem tyJ13_ok : ∀ k, k < 0 → parseFieldDescriptor (TJ13 k).2.2.1 = some (tyJ13 k) := by decide +kernel
abbrev cJ13_bitCount_95d88 : ByteArray := prog_12_method_50_code
def yJ13_bitCount_95d88 : MethodName := ⟨RJ13, "bitCount", "(J)I"⟩
def RJ9 : String := "java/lang/Math"
def TJ9 : u_T := fun k => match k with
  | _ => ("", "", "", false)
def tyJ9 : Nat → FieldType := fun k => match k with
  | _ => .int
abbrev wsJ90 : List Cond := u_ws RJ9 TJ9 0
theorem nmJ9 : ∀ a, a < 0 → ∀ b, b < 0 → a ≠ b → (TJ9 a).2.1 ≠ (TJ9 b).2.1 := by decide +kernel
theorem tyJ9_ok : ∀ k, k < 0 → parseFieldDescriptor (TJ9 k).2.2.1 = some (tyJ9 k) := by decide +kernel
abbrev cJ9_max_7cf53 : ByteArray := prog_13_method_65_code
def yJ9_max_7cf53 : MethodName := ⟨RJ9, "max", "(II)I"⟩
abbrev cJ9_min_7cf53 : ByteArray := prog_13_method_69_code
def yJ9_min_7cf53 : MethodName := ⟨RJ9, "min", "(II)I"⟩
def RL : String := "BearWitnessLaw"
abbrev cL_cell : ByteArray := method_2_code
def yL_cell : MethodName := ⟨RL, "cell", "([II)I"⟩
abbrev cL_up : ByteArray := method_3_code
def yL_up : MethodName := ⟨RL, "up", "(II)I"⟩
abbrev cL_lay : ByteArray := method_4_code
def yL_lay : MethodName := ⟨RL, "lay", "([I[I)V"⟩
abbrev cL_letter : ByteArray := method_5_code
def yL_letter : MethodName := ⟨RL, "letter", "(I)I"⟩
abbrev cL_sign : ByteArray := method_6_code
def yL_sign : MethodName := ⟨RL, "sign", "(LBearWitness;II)Z"⟩
abbrev cL_made : ByteArray := method_7_code
def yL_made : MethodName := ⟨RL, "made", "(LBearWitness;[I)Z"⟩
abbrev cL_bits : ByteArray := method_9_code
def yL_bits : MethodName := ⟨RL, "bits", "(I)I"⟩
abbrev cL_told : ByteArray := method_10_code
def yL_told : MethodName := ⟨RL, "told", "(LBearWitness;II)I"⟩
abbrev cL_asked : ByteArray := method_11_code
def yL_asked : MethodName := ⟨RL, "asked", "(LBearWitness;I)I"⟩
abbrev cL_law : ByteArray := code
def yL_law : MethodName := ⟨RL, "law", "([I)Z"⟩
abbrev vwCl : List vw_C := [(RX0, TX0, 1), (RX1, TX1, 10), (RX2, TX2, 4), (RX3, TX3, 4), (RX4, TX4, 4), (RX5, TX5, 3), (RX6, TX6, 6), (RX7, TX7, 14), (RX0, TX0, 1)]
theorem inX0 : ∀ w ∈ wsX00, w ∈ lw_tbl := by decide +kernel
theorem inX1 : ∀ w ∈ wsX10, w ∈ lw_tbl := by decide +kernel
theorem inX2 : ∀ w ∈ wsX20, w ∈ lw_tbl := by decide +kernel
theorem inX3 : ∀ w ∈ wsX30, w ∈ lw_tbl := by decide +kernel
theorem inX4 : ∀ w ∈ wsX40, w ∈ lw_tbl := by decide +kernel
theorem inX5 : ∀ w ∈ wsX50, w ∈ lw_tbl := by decide +kernel
theorem inX6 : ∀ w ∈ wsX60, w ∈ lw_tbl := by decide +kernel
theorem inX7 : ∀ w ∈ wsX70, w ∈ lw_tbl := by decide +kernel
end
section
/-! decode rows -/
theorem dX0_init_0 : decode cX0_init 0 = .ok (.aload_n 0, 1) := by decide +kernel
theorem dX0_init_1 : decode cX0_init 1 = .ok (.invokespecial 1, 3) := by decide +kernel
theorem dX0_init_4 : decode cX0_init 4 = .ok (.aload_n 0, 1) := by decide +kernel
theorem dX0_init_5 : decode cX0_init 5 = .ok (.iload_n 1, 1) := by decide +kernel
theorem dX0_init_6 : decode cX0_init 6 = .ok (.ifCond .ge 7, 3) := by decide +kernel
theorem dX0_init_9 : decode cX0_init 9 = .ok (.iconst 0, 1) := by decide +kernel
theorem dX0_init_10 : decode cX0_init 10 = .ok (.goto 4, 3) := by decide +kernel
theorem dX0_init_13 : decode cX0_init 13 = .ok (.iload_n 1, 1) := by decide +kernel
theorem dX0_init_14 : decode cX0_init 14 = .ok (.newarray .int, 2) := by decide +kernel
theorem dX0_init_16 : decode cX0_init 16 = .ok (.putfield 7, 3) := by decide +kernel
theorem dX0_init_19 : decode cX0_init 19 = .ok (.return_, 1) := by decide +kernel
theorem dX0_get_0 : decode cX0_get 0 = .ok (.iload_n 1, 1) := by decide +kernel
theorem dX0_get_1 : decode cX0_get 1 = .ok (.ifCond .lt 21, 3) := by decide +kernel
theorem dX0_get_4 : decode cX0_get 4 = .ok (.iload_n 1, 1) := by decide +kernel
theorem dX0_get_5 : decode cX0_get 5 = .ok (.aload_n 0, 1) := by decide +kernel
theorem dX0_get_6 : decode cX0_get 6 = .ok (.getfield 7, 3) := by decide +kernel
theorem dX0_get_9 : decode cX0_get 9 = .ok (.arraylength, 1) := by decide +kernel
theorem dX0_get_10 : decode cX0_get 10 = .ok (.if_icmp .ge 12, 3) := by decide +kernel
theorem dX0_get_13 : decode cX0_get 13 = .ok (.aload_n 0, 1) := by decide +kernel
theorem dX0_get_14 : decode cX0_get 14 = .ok (.getfield 7, 3) := by decide +kernel
theorem dX0_get_17 : decode cX0_get 17 = .ok (.iload_n 1, 1) := by decide +kernel
theorem dX0_get_18 : decode cX0_get 18 = .ok (.iaload, 1) := by decide +kernel
theorem dX0_get_19 : decode cX0_get 19 = .ok (.goto 4, 3) := by decide +kernel
theorem dX0_get_22 : decode cX0_get 22 = .ok (.iconst 0, 1) := by decide +kernel
theorem dX0_get_23 : decode cX0_get 23 = .ok (.ireturn, 1) := by decide +kernel
theorem dX0_set_0 : decode cX0_set 0 = .ok (.iload_n 1, 1) := by decide +kernel
theorem dX0_set_1 : decode cX0_set 1 = .ok (.ifCond .lt 19, 3) := by decide +kernel
theorem dX0_set_4 : decode cX0_set 4 = .ok (.iload_n 1, 1) := by decide +kernel
theorem dX0_set_5 : decode cX0_set 5 = .ok (.aload_n 0, 1) := by decide +kernel
theorem dX0_set_6 : decode cX0_set 6 = .ok (.getfield 7, 3) := by decide +kernel
theorem dX0_set_9 : decode cX0_set 9 = .ok (.arraylength, 1) := by decide +kernel
theorem dX0_set_10 : decode cX0_set 10 = .ok (.if_icmp .ge 10, 3) := by decide +kernel
theorem dX0_set_13 : decode cX0_set 13 = .ok (.aload_n 0, 1) := by decide +kernel
theorem dX0_set_14 : decode cX0_set 14 = .ok (.getfield 7, 3) := by decide +kernel
theorem dX0_set_17 : decode cX0_set 17 = .ok (.iload_n 1, 1) := by decide +kernel
theorem dX0_set_18 : decode cX0_set 18 = .ok (.iload_n 2, 1) := by decide +kernel
theorem dX0_set_19 : decode cX0_set 19 = .ok (.iastore, 1) := by decide +kernel
theorem dX0_set_20 : decode cX0_set 20 = .ok (.return_, 1) := by decide +kernel
theorem dX0_sum_0 : decode cX0_sum 0 = .ok (.iconst 0, 1) := by decide +kernel
theorem dX0_sum_1 : decode cX0_sum 1 = .ok (.istore_n 2, 1) := by decide +kernel
theorem dX0_sum_2 : decode cX0_sum 2 = .ok (.iconst 0, 1) := by decide +kernel
theorem dX0_sum_3 : decode cX0_sum 3 = .ok (.istore_n 3, 1) := by decide +kernel
theorem dX0_sum_4 : decode cX0_sum 4 = .ok (.iload_n 3, 1) := by decide +kernel
theorem dX0_sum_5 : decode cX0_sum 5 = .ok (.iload_n 1, 1) := by decide +kernel
theorem dX0_sum_6 : decode cX0_sum 6 = .ok (.if_icmp .ge 27, 3) := by decide +kernel
theorem dX0_sum_9 : decode cX0_sum 9 = .ok (.iload_n 3, 1) := by decide +kernel
theorem dX0_sum_10 : decode cX0_sum 10 = .ok (.aload_n 0, 1) := by decide +kernel
theorem dX0_sum_11 : decode cX0_sum 11 = .ok (.getfield 7, 3) := by decide +kernel
theorem dX0_sum_14 : decode cX0_sum 14 = .ok (.arraylength, 1) := by decide +kernel
theorem dX0_sum_15 : decode cX0_sum 15 = .ok (.if_icmp .ge 18, 3) := by decide +kernel
theorem dX0_sum_18 : decode cX0_sum 18 = .ok (.iload_n 2, 1) := by decide +kernel
theorem dX0_sum_19 : decode cX0_sum 19 = .ok (.aload_n 0, 1) := by decide +kernel
theorem dX0_sum_20 : decode cX0_sum 20 = .ok (.getfield 7, 3) := by decide +kernel
theorem dX0_sum_23 : decode cX0_sum 23 = .ok (.iload_n 3, 1) := by decide +kernel
theorem dX0_sum_24 : decode cX0_sum 24 = .ok (.iaload, 1) := by decide +kernel
theorem dX0_sum_25 : decode cX0_sum 25 = .ok (.iadd, 1) := by decide +kernel
theorem dX0_sum_26 : decode cX0_sum 26 = .ok (.istore_n 2, 1) := by decide +kernel
theorem dX0_sum_27 : decode cX0_sum 27 = .ok (.iinc 3 1, 3) := by decide +kernel
theorem dX0_sum_30 : decode cX0_sum 30 = .ok (.goto (-26), 3) := by decide +kernel
theorem dX0_sum_33 : decode cX0_sum 33 = .ok (.iload_n 2, 1) := by decide +kernel
theorem dX0_sum_34 : decode cX0_sum 34 = .ok (.ireturn, 1) := by decide +kernel
theorem dX0_take_0 : decode cX0_take 0 = .ok (.iconst 0, 1) := by decide +kernel
theorem dX0_take_1 : decode cX0_take 1 = .ok (.istore_n 2, 1) := by decide +kernel
theorem dX0_take_2 : decode cX0_take 2 = .ok (.iload_n 2, 1) := by decide +kernel
theorem dX0_take_3 : decode cX0_take 3 = .ok (.aload_n 0, 1) := by decide +kernel
theorem dX0_take_4 : decode cX0_take 4 = .ok (.getfield 7, 3) := by decide +kernel
theorem dX0_take_7 : decode cX0_take 7 = .ok (.arraylength, 1) := by decide +kernel
theorem dX0_take_8 : decode cX0_take 8 = .ok (.if_icmp .ge 20, 3) := by decide +kernel
theorem dX0_take_11 : decode cX0_take 11 = .ok (.aload_n 0, 1) := by decide +kernel
theorem dX0_take_12 : decode cX0_take 12 = .ok (.getfield 7, 3) := by decide +kernel
theorem dX0_take_15 : decode cX0_take 15 = .ok (.iload_n 2, 1) := by decide +kernel
theorem dX0_take_16 : decode cX0_take 16 = .ok (.aload_n 1, 1) := by decide +kernel
theorem dX0_take_17 : decode cX0_take 17 = .ok (.iload_n 2, 1) := by decide +kernel
theorem dX0_take_18 : decode cX0_take 18 = .ok (.invokevirtual 13, 3) := by decide +kernel
theorem dX0_take_21 : decode cX0_take 21 = .ok (.iastore, 1) := by decide +kernel
theorem dX0_take_22 : decode cX0_take 22 = .ok (.iinc 2 1, 3) := by decide +kernel
theorem dX0_take_25 : decode cX0_take 25 = .ok (.goto (-23), 3) := by decide +kernel
theorem dX0_take_28 : decode cX0_take 28 = .ok (.return_, 1) := by decide +kernel
theorem dX1_init_0 : decode cX1_init 0 = .ok (.aload_n 0, 1) := by decide +kernel
theorem dX1_init_1 : decode cX1_init 1 = .ok (.invokespecial 3, 3) := by decide +kernel
theorem dX1_init_4 : decode cX1_init 4 = .ok (.aload_n 0, 1) := by decide +kernel
theorem dX1_init_5 : decode cX1_init 5 = .ok (.iconst 0, 1) := by decide +kernel
theorem dX1_init_6 : decode cX1_init 6 = .ok (.putfield 9, 3) := by decide +kernel
theorem dX1_init_9 : decode cX1_init 9 = .ok (.aload_n 0, 1) := by decide +kernel
theorem dX1_init_10 : decode cX1_init 10 = .ok (.iconst 0, 1) := by decide +kernel
theorem dX1_init_11 : decode cX1_init 11 = .ok (.putfield 15, 3) := by decide +kernel
theorem dX1_init_14 : decode cX1_init 14 = .ok (.aload_n 0, 1) := by decide +kernel
theorem dX1_init_15 : decode cX1_init 15 = .ok (.iconst 0, 1) := by decide +kernel
theorem dX1_init_16 : decode cX1_init 16 = .ok (.putfield 18, 3) := by decide +kernel
theorem dX1_init_19 : decode cX1_init 19 = .ok (.aload_n 0, 1) := by decide +kernel
theorem dX1_init_20 : decode cX1_init 20 = .ok (.iconst 0, 1) := by decide +kernel
theorem dX1_init_21 : decode cX1_init 21 = .ok (.putfield 21, 3) := by decide +kernel
theorem dX1_init_24 : decode cX1_init 24 = .ok (.aload_n 0, 1) := by decide +kernel
theorem dX1_init_25 : decode cX1_init 25 = .ok (.new 24, 3) := by decide +kernel
theorem dX1_init_28 : decode cX1_init 28 = .ok (.dup, 1) := by decide +kernel
theorem dX1_init_29 : decode cX1_init 29 = .ok (.bipush 6, 2) := by decide +kernel
theorem dX1_init_31 : decode cX1_init 31 = .ok (.invokespecial 26, 3) := by decide +kernel
theorem dX1_init_34 : decode cX1_init 34 = .ok (.putfield 29, 3) := by decide +kernel
theorem dX1_init_37 : decode cX1_init 37 = .ok (.aload_n 0, 1) := by decide +kernel
theorem dX1_init_38 : decode cX1_init 38 = .ok (.new 24, 3) := by decide +kernel
theorem dX1_init_41 : decode cX1_init 41 = .ok (.dup, 1) := by decide +kernel
theorem dX1_init_42 : decode cX1_init 42 = .ok (.bipush 6, 2) := by decide +kernel
theorem dX1_init_44 : decode cX1_init 44 = .ok (.invokespecial 26, 3) := by decide +kernel
theorem dX1_init_47 : decode cX1_init 47 = .ok (.putfield 33, 3) := by decide +kernel
theorem dX1_init_50 : decode cX1_init 50 = .ok (.aload_n 0, 1) := by decide +kernel
theorem dX1_init_51 : decode cX1_init 51 = .ok (.new 24, 3) := by decide +kernel
theorem dX1_init_54 : decode cX1_init 54 = .ok (.dup, 1) := by decide +kernel
theorem dX1_init_55 : decode cX1_init 55 = .ok (.bipush 6, 2) := by decide +kernel
theorem dX1_init_57 : decode cX1_init 57 = .ok (.invokespecial 26, 3) := by decide +kernel
theorem dX1_init_60 : decode cX1_init 60 = .ok (.putfield 36, 3) := by decide +kernel
theorem dX1_init_63 : decode cX1_init 63 = .ok (.aload_n 0, 1) := by decide +kernel
theorem dX1_init_64 : decode cX1_init 64 = .ok (.new 24, 3) := by decide +kernel
theorem dX1_init_67 : decode cX1_init 67 = .ok (.dup, 1) := by decide +kernel
theorem dX1_init_68 : decode cX1_init 68 = .ok (.bipush 6, 2) := by decide +kernel
theorem dX1_init_70 : decode cX1_init 70 = .ok (.invokespecial 26, 3) := by decide +kernel
theorem dX1_init_73 : decode cX1_init 73 = .ok (.putfield 39, 3) := by decide +kernel
theorem dX1_init_76 : decode cX1_init 76 = .ok (.aload_n 0, 1) := by decide +kernel
theorem dX1_init_77 : decode cX1_init 77 = .ok (.new 24, 3) := by decide +kernel
theorem dX1_init_80 : decode cX1_init 80 = .ok (.dup, 1) := by decide +kernel
theorem dX1_init_81 : decode cX1_init 81 = .ok (.bipush 40, 2) := by decide +kernel
theorem dX1_init_83 : decode cX1_init 83 = .ok (.invokespecial 26, 3) := by decide +kernel
theorem dX1_init_86 : decode cX1_init 86 = .ok (.putfield 42, 3) := by decide +kernel
theorem dX1_init_89 : decode cX1_init 89 = .ok (.aload_n 0, 1) := by decide +kernel
theorem dX1_init_90 : decode cX1_init 90 = .ok (.new 24, 3) := by decide +kernel
theorem dX1_init_93 : decode cX1_init 93 = .ok (.dup, 1) := by decide +kernel
theorem dX1_init_94 : decode cX1_init 94 = .ok (.bipush 40, 2) := by decide +kernel
theorem dX1_init_96 : decode cX1_init 96 = .ok (.invokespecial 26, 3) := by decide +kernel
theorem dX1_init_99 : decode cX1_init 99 = .ok (.putfield 45, 3) := by decide +kernel
theorem dX1_init_102 : decode cX1_init 102 = .ok (.return_, 1) := by decide +kernel
theorem dX1_clear_0 : decode cX1_clear 0 = .ok (.aload_n 0, 1) := by decide +kernel
theorem dX1_clear_1 : decode cX1_clear 1 = .ok (.iconst 0, 1) := by decide +kernel
theorem dX1_clear_2 : decode cX1_clear 2 = .ok (.putfield 9, 3) := by decide +kernel
theorem dX1_clear_5 : decode cX1_clear 5 = .ok (.aload_n 0, 1) := by decide +kernel
theorem dX1_clear_6 : decode cX1_clear 6 = .ok (.iconst 0, 1) := by decide +kernel
theorem dX1_clear_7 : decode cX1_clear 7 = .ok (.putfield 15, 3) := by decide +kernel
theorem dX1_clear_10 : decode cX1_clear 10 = .ok (.aload_n 0, 1) := by decide +kernel
theorem dX1_clear_11 : decode cX1_clear 11 = .ok (.iconst 0, 1) := by decide +kernel
theorem dX1_clear_12 : decode cX1_clear 12 = .ok (.putfield 18, 3) := by decide +kernel
theorem dX1_clear_15 : decode cX1_clear 15 = .ok (.aload_n 0, 1) := by decide +kernel
theorem dX1_clear_16 : decode cX1_clear 16 = .ok (.iconst 0, 1) := by decide +kernel
theorem dX1_clear_17 : decode cX1_clear 17 = .ok (.putfield 21, 3) := by decide +kernel
theorem dX1_clear_20 : decode cX1_clear 20 = .ok (.return_, 1) := by decide +kernel
theorem dX1_take_0 : decode cX1_take 0 = .ok (.aload_n 0, 1) := by decide +kernel
theorem dX1_take_1 : decode cX1_take 1 = .ok (.aload_n 1, 1) := by decide +kernel
theorem dX1_take_2 : decode cX1_take 2 = .ok (.getfield 9, 3) := by decide +kernel
theorem dX1_take_5 : decode cX1_take 5 = .ok (.putfield 9, 3) := by decide +kernel
theorem dX1_take_8 : decode cX1_take 8 = .ok (.aload_n 0, 1) := by decide +kernel
theorem dX1_take_9 : decode cX1_take 9 = .ok (.aload_n 1, 1) := by decide +kernel
theorem dX1_take_10 : decode cX1_take 10 = .ok (.getfield 15, 3) := by decide +kernel
theorem dX1_take_13 : decode cX1_take 13 = .ok (.putfield 15, 3) := by decide +kernel
theorem dX1_take_16 : decode cX1_take 16 = .ok (.aload_n 0, 1) := by decide +kernel
theorem dX1_take_17 : decode cX1_take 17 = .ok (.aload_n 1, 1) := by decide +kernel
theorem dX1_take_18 : decode cX1_take 18 = .ok (.getfield 18, 3) := by decide +kernel
theorem dX1_take_21 : decode cX1_take 21 = .ok (.putfield 18, 3) := by decide +kernel
theorem dX1_take_24 : decode cX1_take 24 = .ok (.aload_n 0, 1) := by decide +kernel
theorem dX1_take_25 : decode cX1_take 25 = .ok (.aload_n 1, 1) := by decide +kernel
theorem dX1_take_26 : decode cX1_take 26 = .ok (.getfield 21, 3) := by decide +kernel
theorem dX1_take_29 : decode cX1_take 29 = .ok (.putfield 21, 3) := by decide +kernel
theorem dX1_take_32 : decode cX1_take 32 = .ok (.aload_n 0, 1) := by decide +kernel
theorem dX1_take_33 : decode cX1_take 33 = .ok (.getfield 29, 3) := by decide +kernel
theorem dX1_take_36 : decode cX1_take 36 = .ok (.aload_n 1, 1) := by decide +kernel
theorem dX1_take_37 : decode cX1_take 37 = .ok (.getfield 29, 3) := by decide +kernel
theorem dX1_take_40 : decode cX1_take 40 = .ok (.invokevirtual 48, 3) := by decide +kernel
theorem dX1_take_43 : decode cX1_take 43 = .ok (.aload_n 0, 1) := by decide +kernel
theorem dX1_take_44 : decode cX1_take 44 = .ok (.getfield 33, 3) := by decide +kernel
theorem dX1_take_47 : decode cX1_take 47 = .ok (.aload_n 1, 1) := by decide +kernel
theorem dX1_take_48 : decode cX1_take 48 = .ok (.getfield 33, 3) := by decide +kernel
theorem dX1_take_51 : decode cX1_take 51 = .ok (.invokevirtual 48, 3) := by decide +kernel
theorem dX1_take_54 : decode cX1_take 54 = .ok (.aload_n 0, 1) := by decide +kernel
theorem dX1_take_55 : decode cX1_take 55 = .ok (.getfield 36, 3) := by decide +kernel
theorem dX1_take_58 : decode cX1_take 58 = .ok (.aload_n 1, 1) := by decide +kernel
theorem dX1_take_59 : decode cX1_take 59 = .ok (.getfield 36, 3) := by decide +kernel
theorem dX1_take_62 : decode cX1_take 62 = .ok (.invokevirtual 48, 3) := by decide +kernel
theorem dX1_take_65 : decode cX1_take 65 = .ok (.aload_n 0, 1) := by decide +kernel
theorem dX1_take_66 : decode cX1_take 66 = .ok (.getfield 39, 3) := by decide +kernel
theorem dX1_take_69 : decode cX1_take 69 = .ok (.aload_n 1, 1) := by decide +kernel
theorem dX1_take_70 : decode cX1_take 70 = .ok (.getfield 39, 3) := by decide +kernel
theorem dX1_take_73 : decode cX1_take 73 = .ok (.invokevirtual 48, 3) := by decide +kernel
theorem dX1_take_76 : decode cX1_take 76 = .ok (.aload_n 0, 1) := by decide +kernel
theorem dX1_take_77 : decode cX1_take 77 = .ok (.getfield 42, 3) := by decide +kernel
theorem dX1_take_80 : decode cX1_take 80 = .ok (.aload_n 1, 1) := by decide +kernel
theorem dX1_take_81 : decode cX1_take 81 = .ok (.getfield 42, 3) := by decide +kernel
theorem dX1_take_84 : decode cX1_take 84 = .ok (.invokevirtual 48, 3) := by decide +kernel
theorem dX1_take_87 : decode cX1_take 87 = .ok (.aload_n 0, 1) := by decide +kernel
theorem dX1_take_88 : decode cX1_take 88 = .ok (.getfield 45, 3) := by decide +kernel
theorem dX1_take_91 : decode cX1_take 91 = .ok (.aload_n 1, 1) := by decide +kernel
theorem dX1_take_92 : decode cX1_take 92 = .ok (.getfield 45, 3) := by decide +kernel
theorem dX1_take_95 : decode cX1_take 95 = .ok (.invokevirtual 48, 3) := by decide +kernel
theorem dX1_take_98 : decode cX1_take 98 = .ok (.return_, 1) := by decide +kernel
theorem dX1_seat_0 : decode cX1_seat 0 = .ok (.aload_n 0, 1) := by decide +kernel
theorem dX1_seat_1 : decode cX1_seat 1 = .ok (.getfield 9, 3) := by decide +kernel
theorem dX1_seat_4 : decode cX1_seat 4 = .ok (.bipush 6, 2) := by decide +kernel
theorem dX1_seat_6 : decode cX1_seat 6 = .ok (.if_icmp .lt 4, 3) := by decide +kernel
theorem dX1_seat_9 : decode cX1_seat 9 = .ok (.return_, 1) := by decide +kernel
theorem dX1_seat_10 : decode cX1_seat 10 = .ok (.aload_n 0, 1) := by decide +kernel
theorem dX1_seat_11 : decode cX1_seat 11 = .ok (.getfield 29, 3) := by decide +kernel
theorem dX1_seat_14 : decode cX1_seat 14 = .ok (.aload_n 0, 1) := by decide +kernel
theorem dX1_seat_15 : decode cX1_seat 15 = .ok (.getfield 9, 3) := by decide +kernel
theorem dX1_seat_18 : decode cX1_seat 18 = .ok (.iload_n 1, 1) := by decide +kernel
theorem dX1_seat_19 : decode cX1_seat 19 = .ok (.invokevirtual 52, 3) := by decide +kernel
theorem dX1_seat_22 : decode cX1_seat 22 = .ok (.aload_n 0, 1) := by decide +kernel
theorem dX1_seat_23 : decode cX1_seat 23 = .ok (.getfield 33, 3) := by decide +kernel
theorem dX1_seat_26 : decode cX1_seat 26 = .ok (.aload_n 0, 1) := by decide +kernel
theorem dX1_seat_27 : decode cX1_seat 27 = .ok (.getfield 9, 3) := by decide +kernel
theorem dX1_seat_30 : decode cX1_seat 30 = .ok (.iload_n 2, 1) := by decide +kernel
theorem dX1_seat_31 : decode cX1_seat 31 = .ok (.invokevirtual 52, 3) := by decide +kernel
theorem dX1_seat_34 : decode cX1_seat 34 = .ok (.aload_n 0, 1) := by decide +kernel
theorem dX1_seat_35 : decode cX1_seat 35 = .ok (.getfield 36, 3) := by decide +kernel
theorem dX1_seat_38 : decode cX1_seat 38 = .ok (.aload_n 0, 1) := by decide +kernel
theorem dX1_seat_39 : decode cX1_seat 39 = .ok (.getfield 9, 3) := by decide +kernel
theorem dX1_seat_42 : decode cX1_seat 42 = .ok (.iload_n 3, 1) := by decide +kernel
theorem dX1_seat_43 : decode cX1_seat 43 = .ok (.invokevirtual 52, 3) := by decide +kernel
theorem dX1_seat_46 : decode cX1_seat 46 = .ok (.aload_n 0, 1) := by decide +kernel
theorem dX1_seat_47 : decode cX1_seat 47 = .ok (.getfield 39, 3) := by decide +kernel
theorem dX1_seat_50 : decode cX1_seat 50 = .ok (.aload_n 0, 1) := by decide +kernel
theorem dX1_seat_51 : decode cX1_seat 51 = .ok (.getfield 9, 3) := by decide +kernel
theorem dX1_seat_54 : decode cX1_seat 54 = .ok (.iload 4, 2) := by decide +kernel
theorem dX1_seat_56 : decode cX1_seat 56 = .ok (.invokevirtual 52, 3) := by decide +kernel
theorem dX1_seat_59 : decode cX1_seat 59 = .ok (.aload_n 0, 1) := by decide +kernel
theorem dX1_seat_60 : decode cX1_seat 60 = .ok (.dup, 1) := by decide +kernel
theorem dX1_seat_61 : decode cX1_seat 61 = .ok (.getfield 9, 3) := by decide +kernel
theorem dX1_seat_64 : decode cX1_seat 64 = .ok (.iconst 1, 1) := by decide +kernel
theorem dX1_seat_65 : decode cX1_seat 65 = .ok (.iadd, 1) := by decide +kernel
theorem dX1_seat_66 : decode cX1_seat 66 = .ok (.putfield 9, 3) := by decide +kernel
theorem dX1_seat_69 : decode cX1_seat 69 = .ok (.return_, 1) := by decide +kernel
theorem dX1_hasBear_0 : decode cX1_hasBear 0 = .ok (.iload_n 1, 1) := by decide +kernel
theorem dX1_hasBear_1 : decode cX1_hasBear 1 = .ok (.ifCond .lt 15, 3) := by decide +kernel
theorem dX1_hasBear_4 : decode cX1_hasBear 4 = .ok (.iload_n 1, 1) := by decide +kernel
theorem dX1_hasBear_5 : decode cX1_hasBear 5 = .ok (.aload_n 0, 1) := by decide +kernel
theorem dX1_hasBear_6 : decode cX1_hasBear 6 = .ok (.getfield 9, 3) := by decide +kernel
theorem dX1_hasBear_9 : decode cX1_hasBear 9 = .ok (.if_icmp .ge 7, 3) := by decide +kernel
theorem dX1_hasBear_12 : decode cX1_hasBear 12 = .ok (.iconst 1, 1) := by decide +kernel
theorem dX1_hasBear_13 : decode cX1_hasBear 13 = .ok (.goto 4, 3) := by decide +kernel
theorem dX1_hasBear_16 : decode cX1_hasBear 16 = .ok (.iconst 0, 1) := by decide +kernel
theorem dX1_hasBear_17 : decode cX1_hasBear 17 = .ok (.ireturn, 1) := by decide +kernel
theorem dX1_isSet_0 : decode cX1_isSet 0 = .ok (.iload_n 1, 1) := by decide +kernel
theorem dX1_isSet_1 : decode cX1_isSet 1 = .ok (.ifCond .lt 15, 3) := by decide +kernel
theorem dX1_isSet_4 : decode cX1_isSet 4 = .ok (.iload_n 1, 1) := by decide +kernel
theorem dX1_isSet_5 : decode cX1_isSet 5 = .ok (.aload_n 0, 1) := by decide +kernel
theorem dX1_isSet_6 : decode cX1_isSet 6 = .ok (.invokevirtual 56, 3) := by decide +kernel
theorem dX1_isSet_9 : decode cX1_isSet 9 = .ok (.if_icmp .gt 7, 3) := by decide +kernel
theorem dX1_isSet_12 : decode cX1_isSet 12 = .ok (.iconst 1, 1) := by decide +kernel
theorem dX1_isSet_13 : decode cX1_isSet 13 = .ok (.goto 4, 3) := by decide +kernel
theorem dX1_isSet_16 : decode cX1_isSet 16 = .ok (.iconst 0, 1) := by decide +kernel
theorem dX1_isSet_17 : decode cX1_isSet 17 = .ok (.ireturn, 1) := by decide +kernel
theorem dX1_allBears_0 : decode cX1_allBears 0 = .ok (.iconst 1, 1) := by decide +kernel
theorem dX1_allBears_1 : decode cX1_allBears 1 = .ok (.aload_n 0, 1) := by decide +kernel
theorem dX1_allBears_2 : decode cX1_allBears 2 = .ok (.getfield 9, 3) := by decide +kernel
theorem dX1_allBears_5 : decode cX1_allBears 5 = .ok (.ishl, 1) := by decide +kernel
theorem dX1_allBears_6 : decode cX1_allBears 6 = .ok (.iconst 1, 1) := by decide +kernel
theorem dX1_allBears_7 : decode cX1_allBears 7 = .ok (.isub, 1) := by decide +kernel
theorem dX1_allBears_8 : decode cX1_allBears 8 = .ok (.ireturn, 1) := by decide +kernel
theorem dX1_thoseOfKind_0 : decode cX1_thoseOfKind 0 = .ok (.iconst 0, 1) := by decide +kernel
theorem dX1_thoseOfKind_1 : decode cX1_thoseOfKind 1 = .ok (.istore_n 2, 1) := by decide +kernel
theorem dX1_thoseOfKind_2 : decode cX1_thoseOfKind 2 = .ok (.iconst 0, 1) := by decide +kernel
theorem dX1_thoseOfKind_3 : decode cX1_thoseOfKind 3 = .ok (.istore_n 3, 1) := by decide +kernel
theorem dX1_thoseOfKind_4 : decode cX1_thoseOfKind 4 = .ok (.iload_n 3, 1) := by decide +kernel
theorem dX1_thoseOfKind_5 : decode cX1_thoseOfKind 5 = .ok (.aload_n 0, 1) := by decide +kernel
theorem dX1_thoseOfKind_6 : decode cX1_thoseOfKind 6 = .ok (.getfield 9, 3) := by decide +kernel
theorem dX1_thoseOfKind_9 : decode cX1_thoseOfKind 9 = .ok (.if_icmp .ge 27, 3) := by decide +kernel
theorem dX1_thoseOfKind_12 : decode cX1_thoseOfKind 12 = .ok (.aload_n 0, 1) := by decide +kernel
theorem dX1_thoseOfKind_13 : decode cX1_thoseOfKind 13 = .ok (.getfield 29, 3) := by decide +kernel
theorem dX1_thoseOfKind_16 : decode cX1_thoseOfKind 16 = .ok (.iload_n 3, 1) := by decide +kernel
theorem dX1_thoseOfKind_17 : decode cX1_thoseOfKind 17 = .ok (.invokevirtual 60, 3) := by decide +kernel
theorem dX1_thoseOfKind_20 : decode cX1_thoseOfKind 20 = .ok (.iload_n 1, 1) := by decide +kernel
theorem dX1_thoseOfKind_21 : decode cX1_thoseOfKind 21 = .ok (.invokestatic 64, 3) := by decide +kernel
theorem dX1_thoseOfKind_24 : decode cX1_thoseOfKind 24 = .ok (.ifCond .eq 6, 3) := by decide +kernel
theorem dX1_thoseOfKind_27 : decode cX1_thoseOfKind 27 = .ok (.iinc 2 1, 3) := by decide +kernel
theorem dX1_thoseOfKind_30 : decode cX1_thoseOfKind 30 = .ok (.iinc 3 1, 3) := by decide +kernel
theorem dX1_thoseOfKind_33 : decode cX1_thoseOfKind 33 = .ok (.goto (-29), 3) := by decide +kernel
theorem dX1_thoseOfKind_36 : decode cX1_thoseOfKind 36 = .ok (.iload_n 2, 1) := by decide +kernel
theorem dX1_thoseOfKind_37 : decode cX1_thoseOfKind 37 = .ok (.ireturn, 1) := by decide +kernel
theorem dX1_canBe_0 : decode cX1_canBe 0 = .ok (.iload_n 1, 1) := by decide +kernel
theorem dX1_canBe_1 : decode cX1_canBe 1 = .ok (.tableswitch 80 0 2 #[27, 46, 63], 27) := by decide +kernel
theorem dX1_canBe_28 : decode cX1_canBe 28 = .ok (.aload_n 0, 1) := by decide +kernel
theorem dX1_canBe_29 : decode cX1_canBe 29 = .ok (.getfield 36, 3) := by decide +kernel
theorem dX1_canBe_32 : decode cX1_canBe 32 = .ok (.iload_n 2, 1) := by decide +kernel
theorem dX1_canBe_33 : decode cX1_canBe 33 = .ok (.invokevirtual 60, 3) := by decide +kernel
theorem dX1_canBe_36 : decode cX1_canBe 36 = .ok (.bipush 9, 2) := by decide +kernel
theorem dX1_canBe_38 : decode cX1_canBe 38 = .ok (.if_icmp .ge 7, 3) := by decide +kernel
theorem dX1_canBe_41 : decode cX1_canBe 41 = .ok (.iconst 1, 1) := by decide +kernel
theorem dX1_canBe_42 : decode cX1_canBe 42 = .ok (.goto 4, 3) := by decide +kernel
theorem dX1_canBe_45 : decode cX1_canBe 45 = .ok (.iconst 0, 1) := by decide +kernel
theorem dX1_canBe_46 : decode cX1_canBe 46 = .ok (.ireturn, 1) := by decide +kernel
theorem dX1_canBe_47 : decode cX1_canBe 47 = .ok (.aload_n 0, 1) := by decide +kernel
theorem dX1_canBe_48 : decode cX1_canBe 48 = .ok (.getfield 36, 3) := by decide +kernel
theorem dX1_canBe_51 : decode cX1_canBe 51 = .ok (.iload_n 2, 1) := by decide +kernel
theorem dX1_canBe_52 : decode cX1_canBe 52 = .ok (.invokevirtual 60, 3) := by decide +kernel
theorem dX1_canBe_55 : decode cX1_canBe 55 = .ok (.ifCond .le 7, 3) := by decide +kernel
theorem dX1_canBe_58 : decode cX1_canBe 58 = .ok (.iconst 1, 1) := by decide +kernel
theorem dX1_canBe_59 : decode cX1_canBe 59 = .ok (.goto 4, 3) := by decide +kernel
theorem dX1_canBe_62 : decode cX1_canBe 62 = .ok (.iconst 0, 1) := by decide +kernel
theorem dX1_canBe_63 : decode cX1_canBe 63 = .ok (.ireturn, 1) := by decide +kernel
theorem dX1_canBe_64 : decode cX1_canBe 64 = .ok (.aload_n 0, 1) := by decide +kernel
theorem dX1_canBe_65 : decode cX1_canBe 65 = .ok (.getfield 33, 3) := by decide +kernel
theorem dX1_canBe_68 : decode cX1_canBe 68 = .ok (.iload_n 2, 1) := by decide +kernel
theorem dX1_canBe_69 : decode cX1_canBe 69 = .ok (.invokevirtual 60, 3) := by decide +kernel
theorem dX1_canBe_72 : decode cX1_canBe 72 = .ok (.ifCond .le 7, 3) := by decide +kernel
theorem dX1_canBe_75 : decode cX1_canBe 75 = .ok (.iconst 1, 1) := by decide +kernel
theorem dX1_canBe_76 : decode cX1_canBe 76 = .ok (.goto 4, 3) := by decide +kernel
theorem dX1_canBe_79 : decode cX1_canBe 79 = .ok (.iconst 0, 1) := by decide +kernel
theorem dX1_canBe_80 : decode cX1_canBe 80 = .ok (.ireturn, 1) := by decide +kernel
theorem dX1_canBe_81 : decode cX1_canBe 81 = .ok (.iconst 1, 1) := by decide +kernel
theorem dX1_canBe_82 : decode cX1_canBe 82 = .ok (.ireturn, 1) := by decide +kernel
theorem dX1_commit_0 : decode cX1_commit 0 = .ok (.aload_n 0, 1) := by decide +kernel
theorem dX1_commit_1 : decode cX1_commit 1 = .ok (.getfield 21, 3) := by decide +kernel
theorem dX1_commit_4 : decode cX1_commit 4 = .ok (.bipush 40, 2) := by decide +kernel
theorem dX1_commit_6 : decode cX1_commit 6 = .ok (.if_icmp .lt 4, 3) := by decide +kernel
theorem dX1_commit_9 : decode cX1_commit 9 = .ok (.return_, 1) := by decide +kernel
theorem dX1_commit_10 : decode cX1_commit 10 = .ok (.aload_n 0, 1) := by decide +kernel
theorem dX1_commit_11 : decode cX1_commit 11 = .ok (.iload_n 1, 1) := by decide +kernel
theorem dX1_commit_12 : decode cX1_commit 12 = .ok (.iload_n 2, 1) := by decide +kernel
theorem dX1_commit_13 : decode cX1_commit 13 = .ok (.iconst 1, 1) := by decide +kernel
theorem dX1_commit_14 : decode cX1_commit 14 = .ok (.invokevirtual 68, 3) := by decide +kernel
theorem dX1_commit_17 : decode cX1_commit 17 = .ok (.aload_n 0, 1) := by decide +kernel
theorem dX1_commit_18 : decode cX1_commit 18 = .ok (.getfield 42, 3) := by decide +kernel
theorem dX1_commit_21 : decode cX1_commit 21 = .ok (.aload_n 0, 1) := by decide +kernel
theorem dX1_commit_22 : decode cX1_commit 22 = .ok (.getfield 21, 3) := by decide +kernel
theorem dX1_commit_25 : decode cX1_commit 25 = .ok (.iload_n 1, 1) := by decide +kernel
theorem dX1_commit_26 : decode cX1_commit 26 = .ok (.invokevirtual 52, 3) := by decide +kernel
theorem dX1_commit_29 : decode cX1_commit 29 = .ok (.aload_n 0, 1) := by decide +kernel
theorem dX1_commit_30 : decode cX1_commit 30 = .ok (.getfield 45, 3) := by decide +kernel
theorem dX1_commit_33 : decode cX1_commit 33 = .ok (.aload_n 0, 1) := by decide +kernel
theorem dX1_commit_34 : decode cX1_commit 34 = .ok (.getfield 21, 3) := by decide +kernel
theorem dX1_commit_37 : decode cX1_commit 37 = .ok (.iload_n 2, 1) := by decide +kernel
theorem dX1_commit_38 : decode cX1_commit 38 = .ok (.invokevirtual 52, 3) := by decide +kernel
theorem dX1_commit_41 : decode cX1_commit 41 = .ok (.aload_n 0, 1) := by decide +kernel
theorem dX1_commit_42 : decode cX1_commit 42 = .ok (.dup, 1) := by decide +kernel
theorem dX1_commit_43 : decode cX1_commit 43 = .ok (.getfield 21, 3) := by decide +kernel
theorem dX1_commit_46 : decode cX1_commit 46 = .ok (.iconst 1, 1) := by decide +kernel
theorem dX1_commit_47 : decode cX1_commit 47 = .ok (.iadd, 1) := by decide +kernel
theorem dX1_commit_48 : decode cX1_commit 48 = .ok (.putfield 21, 3) := by decide +kernel
theorem dX1_commit_51 : decode cX1_commit 51 = .ok (.return_, 1) := by decide +kernel
theorem dX1_takeBackTo_0 : decode cX1_takeBackTo 0 = .ok (.aload_n 0, 1) := by decide +kernel
theorem dX1_takeBackTo_1 : decode cX1_takeBackTo 1 = .ok (.getfield 21, 3) := by decide +kernel
theorem dX1_takeBackTo_4 : decode cX1_takeBackTo 4 = .ok (.iconst 1, 1) := by decide +kernel
theorem dX1_takeBackTo_5 : decode cX1_takeBackTo 5 = .ok (.isub, 1) := by decide +kernel
theorem dX1_takeBackTo_6 : decode cX1_takeBackTo 6 = .ok (.istore_n 2, 1) := by decide +kernel
theorem dX1_takeBackTo_7 : decode cX1_takeBackTo 7 = .ok (.iload_n 2, 1) := by decide +kernel
theorem dX1_takeBackTo_8 : decode cX1_takeBackTo 8 = .ok (.iload_n 1, 1) := by decide +kernel
theorem dX1_takeBackTo_9 : decode cX1_takeBackTo 9 = .ok (.if_icmp .lt 39, 3) := by decide +kernel
theorem dX1_takeBackTo_12 : decode cX1_takeBackTo 12 = .ok (.iload_n 2, 1) := by decide +kernel
theorem dX1_takeBackTo_13 : decode cX1_takeBackTo 13 = .ok (.ifCond .lt 35, 3) := by decide +kernel
theorem dX1_takeBackTo_16 : decode cX1_takeBackTo 16 = .ok (.aload_n 0, 1) := by decide +kernel
theorem dX1_takeBackTo_17 : decode cX1_takeBackTo 17 = .ok (.aload_n 0, 1) := by decide +kernel
theorem dX1_takeBackTo_18 : decode cX1_takeBackTo 18 = .ok (.getfield 42, 3) := by decide +kernel
theorem dX1_takeBackTo_21 : decode cX1_takeBackTo 21 = .ok (.iload_n 2, 1) := by decide +kernel
theorem dX1_takeBackTo_22 : decode cX1_takeBackTo 22 = .ok (.invokevirtual 60, 3) := by decide +kernel
theorem dX1_takeBackTo_25 : decode cX1_takeBackTo 25 = .ok (.aload_n 0, 1) := by decide +kernel
theorem dX1_takeBackTo_26 : decode cX1_takeBackTo 26 = .ok (.getfield 45, 3) := by decide +kernel
theorem dX1_takeBackTo_29 : decode cX1_takeBackTo 29 = .ok (.iload_n 2, 1) := by decide +kernel
theorem dX1_takeBackTo_30 : decode cX1_takeBackTo 30 = .ok (.invokevirtual 60, 3) := by decide +kernel
theorem dX1_takeBackTo_33 : decode cX1_takeBackTo 33 = .ok (.iconst (-1), 1) := by decide +kernel
theorem dX1_takeBackTo_34 : decode cX1_takeBackTo 34 = .ok (.invokevirtual 68, 3) := by decide +kernel
theorem dX1_takeBackTo_37 : decode cX1_takeBackTo 37 = .ok (.aload_n 0, 1) := by decide +kernel
theorem dX1_takeBackTo_38 : decode cX1_takeBackTo 38 = .ok (.iload_n 2, 1) := by decide +kernel
theorem dX1_takeBackTo_39 : decode cX1_takeBackTo 39 = .ok (.putfield 21, 3) := by decide +kernel
theorem dX1_takeBackTo_42 : decode cX1_takeBackTo 42 = .ok (.iinc 2 (-1), 3) := by decide +kernel
theorem dX1_takeBackTo_45 : decode cX1_takeBackTo 45 = .ok (.goto (-38), 3) := by decide +kernel
theorem dX1_takeBackTo_48 : decode cX1_takeBackTo 48 = .ok (.return_, 1) := by decide +kernel
theorem dX1_change_0 : decode cX1_change 0 = .ok (.iload_n 1, 1) := by decide +kernel
theorem dX1_change_1 : decode cX1_change 1 = .ok (.tableswitch 109 0 3 #[31, 52, 73, 94], 31) := by decide +kernel
theorem dX1_change_32 : decode cX1_change 32 = .ok (.aload_n 0, 1) := by decide +kernel
theorem dX1_change_33 : decode cX1_change 33 = .ok (.getfield 36, 3) := by decide +kernel
theorem dX1_change_36 : decode cX1_change 36 = .ok (.iload_n 2, 1) := by decide +kernel
theorem dX1_change_37 : decode cX1_change 37 = .ok (.aload_n 0, 1) := by decide +kernel
theorem dX1_change_38 : decode cX1_change 38 = .ok (.getfield 36, 3) := by decide +kernel
theorem dX1_change_41 : decode cX1_change 41 = .ok (.iload_n 2, 1) := by decide +kernel
theorem dX1_change_42 : decode cX1_change 42 = .ok (.invokevirtual 60, 3) := by decide +kernel
theorem dX1_change_45 : decode cX1_change 45 = .ok (.iload_n 3, 1) := by decide +kernel
theorem dX1_change_46 : decode cX1_change 46 = .ok (.iadd, 1) := by decide +kernel
theorem dX1_change_47 : decode cX1_change 47 = .ok (.invokevirtual 52, 3) := by decide +kernel
theorem dX1_change_50 : decode cX1_change 50 = .ok (.goto 60, 3) := by decide +kernel
theorem dX1_change_53 : decode cX1_change 53 = .ok (.aload_n 0, 1) := by decide +kernel
theorem dX1_change_54 : decode cX1_change 54 = .ok (.getfield 36, 3) := by decide +kernel
theorem dX1_change_57 : decode cX1_change 57 = .ok (.iload_n 2, 1) := by decide +kernel
theorem dX1_change_58 : decode cX1_change 58 = .ok (.aload_n 0, 1) := by decide +kernel
theorem dX1_change_59 : decode cX1_change 59 = .ok (.getfield 36, 3) := by decide +kernel
theorem dX1_change_62 : decode cX1_change 62 = .ok (.iload_n 2, 1) := by decide +kernel
theorem dX1_change_63 : decode cX1_change 63 = .ok (.invokevirtual 60, 3) := by decide +kernel
theorem dX1_change_66 : decode cX1_change 66 = .ok (.iload_n 3, 1) := by decide +kernel
theorem dX1_change_67 : decode cX1_change 67 = .ok (.isub, 1) := by decide +kernel
theorem dX1_change_68 : decode cX1_change 68 = .ok (.invokevirtual 52, 3) := by decide +kernel
theorem dX1_change_71 : decode cX1_change 71 = .ok (.goto 39, 3) := by decide +kernel
theorem dX1_change_74 : decode cX1_change 74 = .ok (.aload_n 0, 1) := by decide +kernel
theorem dX1_change_75 : decode cX1_change 75 = .ok (.getfield 33, 3) := by decide +kernel
theorem dX1_change_78 : decode cX1_change 78 = .ok (.iload_n 2, 1) := by decide +kernel
theorem dX1_change_79 : decode cX1_change 79 = .ok (.aload_n 0, 1) := by decide +kernel
theorem dX1_change_80 : decode cX1_change 80 = .ok (.getfield 33, 3) := by decide +kernel
theorem dX1_change_83 : decode cX1_change 83 = .ok (.iload_n 2, 1) := by decide +kernel
theorem dX1_change_84 : decode cX1_change 84 = .ok (.invokevirtual 60, 3) := by decide +kernel
theorem dX1_change_87 : decode cX1_change 87 = .ok (.iload_n 3, 1) := by decide +kernel
theorem dX1_change_88 : decode cX1_change 88 = .ok (.isub, 1) := by decide +kernel
theorem dX1_change_89 : decode cX1_change 89 = .ok (.invokevirtual 52, 3) := by decide +kernel
theorem dX1_change_92 : decode cX1_change 92 = .ok (.goto 18, 3) := by decide +kernel
theorem dX1_change_95 : decode cX1_change 95 = .ok (.aload_n 0, 1) := by decide +kernel
theorem dX1_change_96 : decode cX1_change 96 = .ok (.dup, 1) := by decide +kernel
theorem dX1_change_97 : decode cX1_change 97 = .ok (.getfield 18, 3) := by decide +kernel
theorem dX1_change_100 : decode cX1_change 100 = .ok (.iconst 1, 1) := by decide +kernel
theorem dX1_change_101 : decode cX1_change 101 = .ok (.iload_n 2, 1) := by decide +kernel
theorem dX1_change_102 : decode cX1_change 102 = .ok (.ishl, 1) := by decide +kernel
theorem dX1_change_103 : decode cX1_change 103 = .ok (.ixor, 1) := by decide +kernel
theorem dX1_change_104 : decode cX1_change 104 = .ok (.putfield 18, 3) := by decide +kernel
theorem dX1_change_107 : decode cX1_change 107 = .ok (.goto 3, 3) := by decide +kernel
theorem dX1_change_110 : decode cX1_change 110 = .ok (.return_, 1) := by decide +kernel
theorem dX1_seenBy_0 : decode cX1_seenBy 0 = .ok (.iload_n 3, 1) := by decide +kernel
theorem dX1_seenBy_1 : decode cX1_seenBy 1 = .ok (.bipush 9, 2) := by decide +kernel
theorem dX1_seenBy_3 : decode cX1_seenBy 3 = .ok (.if_icmp .lt 5, 3) := by decide +kernel
theorem dX1_seenBy_6 : decode cX1_seenBy 6 = .ok (.iconst 0, 1) := by decide +kernel
theorem dX1_seenBy_7 : decode cX1_seenBy 7 = .ok (.ireturn, 1) := by decide +kernel
theorem dX1_seenBy_8 : decode cX1_seenBy 8 = .ok (.iload_n 2, 1) := by decide +kernel
theorem dX1_seenBy_9 : decode cX1_seenBy 9 = .ok (.iconst 5, 1) := by decide +kernel
theorem dX1_seenBy_10 : decode cX1_seenBy 10 = .ok (.if_icmp .ne 10, 3) := by decide +kernel
theorem dX1_seenBy_13 : decode cX1_seenBy 13 = .ok (.iload_n 3, 1) := by decide +kernel
theorem dX1_seenBy_14 : decode cX1_seenBy 14 = .ok (.iconst 3, 1) := by decide +kernel
theorem dX1_seenBy_15 : decode cX1_seenBy 15 = .ok (.if_icmp .lt 5, 3) := by decide +kernel
theorem dX1_seenBy_18 : decode cX1_seenBy 18 = .ok (.iconst 0, 1) := by decide +kernel
theorem dX1_seenBy_19 : decode cX1_seenBy 19 = .ok (.ireturn, 1) := by decide +kernel
theorem dX1_seenBy_20 : decode cX1_seenBy 20 = .ok (.aload_n 0, 1) := by decide +kernel
theorem dX1_seenBy_21 : decode cX1_seenBy 21 = .ok (.getfield 39, 3) := by decide +kernel
theorem dX1_seenBy_24 : decode cX1_seenBy 24 = .ok (.iload_n 1, 1) := by decide +kernel
theorem dX1_seenBy_25 : decode cX1_seenBy 25 = .ok (.invokevirtual 60, 3) := by decide +kernel
theorem dX1_seenBy_28 : decode cX1_seenBy 28 = .ok (.istore 4, 2) := by decide +kernel
theorem dX1_seenBy_30 : decode cX1_seenBy 30 = .ok (.iload_n 2, 1) := by decide +kernel
theorem dX1_seenBy_31 : decode cX1_seenBy 31 = .ok (.iconst 2, 1) := by decide +kernel
theorem dX1_seenBy_32 : decode cX1_seenBy 32 = .ok (.if_icmp .ne 15, 3) := by decide +kernel
theorem dX1_seenBy_35 : decode cX1_seenBy 35 = .ok (.iload 4, 2) := by decide +kernel
theorem dX1_seenBy_37 : decode cX1_seenBy 37 = .ok (.iload 4, 2) := by decide +kernel
theorem dX1_seenBy_39 : decode cX1_seenBy 39 = .ok (.iconst 1, 1) := by decide +kernel
theorem dX1_seenBy_40 : decode cX1_seenBy 40 = .ok (.ishl, 1) := by decide +kernel
theorem dX1_seenBy_41 : decode cX1_seenBy 41 = .ok (.bipush 63, 2) := by decide +kernel
theorem dX1_seenBy_43 : decode cX1_seenBy 43 = .ok (.iand, 1) := by decide +kernel
theorem dX1_seenBy_44 : decode cX1_seenBy 44 = .ok (.ior, 1) := by decide +kernel
theorem dX1_seenBy_45 : decode cX1_seenBy 45 = .ok (.istore 4, 2) := by decide +kernel
theorem dX1_seenBy_47 : decode cX1_seenBy 47 = .ok (.iload_n 2, 1) := by decide +kernel
theorem dX1_seenBy_48 : decode cX1_seenBy 48 = .ok (.iconst 1, 1) := by decide +kernel
theorem dX1_seenBy_49 : decode cX1_seenBy 49 = .ok (.invokestatic 64, 3) := by decide +kernel
theorem dX1_seenBy_52 : decode cX1_seenBy 52 = .ok (.ifCond .ne 15, 3) := by decide +kernel
theorem dX1_seenBy_55 : decode cX1_seenBy 55 = .ok (.aload_n 0, 1) := by decide +kernel
theorem dX1_seenBy_56 : decode cX1_seenBy 56 = .ok (.getfield 33, 3) := by decide +kernel
theorem dX1_seenBy_59 : decode cX1_seenBy 59 = .ok (.iload_n 1, 1) := by decide +kernel
theorem dX1_seenBy_60 : decode cX1_seenBy 60 = .ok (.invokevirtual 60, 3) := by decide +kernel
theorem dX1_seenBy_63 : decode cX1_seenBy 63 = .ok (.iconst 2, 1) := by decide +kernel
theorem dX1_seenBy_64 : decode cX1_seenBy 64 = .ok (.if_icmp .lt 6, 3) := by decide +kernel
theorem dX1_seenBy_67 : decode cX1_seenBy 67 = .ok (.iload 4, 2) := by decide +kernel
theorem dX1_seenBy_69 : decode cX1_seenBy 69 = .ok (.ireturn, 1) := by decide +kernel
theorem dX1_seenBy_70 : decode cX1_seenBy 70 = .ok (.aload_n 0, 1) := by decide +kernel
theorem dX1_seenBy_71 : decode cX1_seenBy 71 = .ok (.getfield 33, 3) := by decide +kernel
theorem dX1_seenBy_74 : decode cX1_seenBy 74 = .ok (.iload_n 1, 1) := by decide +kernel
theorem dX1_seenBy_75 : decode cX1_seenBy 75 = .ok (.invokevirtual 60, 3) := by decide +kernel
theorem dX1_seenBy_78 : decode cX1_seenBy 78 = .ok (.iconst 1, 1) := by decide +kernel
theorem dX1_seenBy_79 : decode cX1_seenBy 79 = .ok (.if_icmp .ne 11, 3) := by decide +kernel
theorem dX1_seenBy_82 : decode cX1_seenBy 82 = .ok (.iload 4, 2) := by decide +kernel
theorem dX1_seenBy_84 : decode cX1_seenBy 84 = .ok (.bipush 21, 2) := by decide +kernel
theorem dX1_seenBy_86 : decode cX1_seenBy 86 = .ok (.iand, 1) := by decide +kernel
theorem dX1_seenBy_87 : decode cX1_seenBy 87 = .ok (.goto 4, 3) := by decide +kernel
theorem dX1_seenBy_90 : decode cX1_seenBy 90 = .ok (.iconst 0, 1) := by decide +kernel
theorem dX1_seenBy_91 : decode cX1_seenBy 91 = .ok (.ireturn, 1) := by decide +kernel
theorem dX1_toldOf_0 : decode cX1_toldOf 0 = .ok (.aload_n 0, 1) := by decide +kernel
theorem dX1_toldOf_1 : decode cX1_toldOf 1 = .ok (.getfield 18, 3) := by decide +kernel
theorem dX1_toldOf_4 : decode cX1_toldOf 4 = .ok (.iload_n 1, 1) := by decide +kernel
theorem dX1_toldOf_5 : decode cX1_toldOf 5 = .ok (.invokestatic 72, 3) := by decide +kernel
theorem dX1_toldOf_8 : decode cX1_toldOf 8 = .ok (.ifCond .eq 7, 3) := by decide +kernel
theorem dX1_toldOf_11 : decode cX1_toldOf 11 = .ok (.iconst 0, 1) := by decide +kernel
theorem dX1_toldOf_12 : decode cX1_toldOf 12 = .ok (.goto 10, 3) := by decide +kernel
theorem dX1_toldOf_15 : decode cX1_toldOf 15 = .ok (.aload_n 0, 1) := by decide +kernel
theorem dX1_toldOf_16 : decode cX1_toldOf 16 = .ok (.iload_n 1, 1) := by decide +kernel
theorem dX1_toldOf_17 : decode cX1_toldOf 17 = .ok (.iload_n 2, 1) := by decide +kernel
theorem dX1_toldOf_18 : decode cX1_toldOf 18 = .ok (.iload_n 3, 1) := by decide +kernel
theorem dX1_toldOf_19 : decode cX1_toldOf 19 = .ok (.invokevirtual 75, 3) := by decide +kernel
theorem dX1_toldOf_22 : decode cX1_toldOf 22 = .ok (.ireturn, 1) := by decide +kernel
theorem dX1_onesOf_0 : decode cX1_onesOf 0 = .ok (.iload_n 1, 1) := by decide +kernel
theorem dX1_onesOf_1 : decode cX1_onesOf 1 = .ok (.iconst 4, 1) := by decide +kernel
theorem dX1_onesOf_2 : decode cX1_onesOf 2 = .ok (.if_icmp .ne 5, 3) := by decide +kernel
theorem dX1_onesOf_5 : decode cX1_onesOf 5 = .ok (.iload_n 0, 1) := by decide +kernel
theorem dX1_onesOf_6 : decode cX1_onesOf 6 = .ok (.ireturn, 1) := by decide +kernel
theorem dX1_onesOf_7 : decode cX1_onesOf 7 = .ok (.iload_n 1, 1) := by decide +kernel
theorem dX1_onesOf_8 : decode cX1_onesOf 8 = .ok (.iconst 3, 1) := by decide +kernel
theorem dX1_onesOf_9 : decode cX1_onesOf 9 = .ok (.invokestatic 64, 3) := by decide +kernel
theorem dX1_onesOf_12 : decode cX1_onesOf 12 = .ok (.ifCond .eq 14, 3) := by decide +kernel
theorem dX1_onesOf_15 : decode cX1_onesOf 15 = .ok (.iload_n 2, 1) := by decide +kernel
theorem dX1_onesOf_16 : decode cX1_onesOf 16 = .ok (.iconst 5, 1) := by decide +kernel
theorem dX1_onesOf_17 : decode cX1_onesOf 17 = .ok (.if_icmp .lt 9, 3) := by decide +kernel
theorem dX1_onesOf_20 : decode cX1_onesOf 20 = .ok (.iload_n 0, 1) := by decide +kernel
theorem dX1_onesOf_21 : decode cX1_onesOf 21 = .ok (.iload_n 3, 1) := by decide +kernel
theorem dX1_onesOf_22 : decode cX1_onesOf 22 = .ok (.iconst (-1), 1) := by decide +kernel
theorem dX1_onesOf_23 : decode cX1_onesOf 23 = .ok (.ixor, 1) := by decide +kernel
theorem dX1_onesOf_24 : decode cX1_onesOf 24 = .ok (.iand, 1) := by decide +kernel
theorem dX1_onesOf_25 : decode cX1_onesOf 25 = .ok (.ireturn, 1) := by decide +kernel
theorem dX1_onesOf_26 : decode cX1_onesOf 26 = .ok (.iload_n 0, 1) := by decide +kernel
theorem dX1_onesOf_27 : decode cX1_onesOf 27 = .ok (.iload_n 3, 1) := by decide +kernel
theorem dX1_onesOf_28 : decode cX1_onesOf 28 = .ok (.iand, 1) := by decide +kernel
theorem dX1_onesOf_29 : decode cX1_onesOf 29 = .ok (.ireturn, 1) := by decide +kernel
theorem dX1_answerIf_0 : decode cX1_answerIf 0 = .ok (.aload_n 0, 1) := by decide +kernel
theorem dX1_answerIf_1 : decode cX1_answerIf 1 = .ok (.getfield 36, 3) := by decide +kernel
theorem dX1_answerIf_4 : decode cX1_answerIf 4 = .ok (.iload_n 1, 1) := by decide +kernel
theorem dX1_answerIf_5 : decode cX1_answerIf 5 = .ok (.invokevirtual 60, 3) := by decide +kernel
theorem dX1_answerIf_8 : decode cX1_answerIf 8 = .ok (.istore 5, 2) := by decide +kernel
theorem dX1_answerIf_10 : decode cX1_answerIf 10 = .ok (.aload_n 0, 1) := by decide +kernel
theorem dX1_answerIf_11 : decode cX1_answerIf 11 = .ok (.iload_n 1, 1) := by decide +kernel
theorem dX1_answerIf_12 : decode cX1_answerIf 12 = .ok (.iload_n 2, 1) := by decide +kernel
theorem dX1_answerIf_13 : decode cX1_answerIf 13 = .ok (.iload 5, 2) := by decide +kernel
theorem dX1_answerIf_15 : decode cX1_answerIf 15 = .ok (.invokevirtual 79, 3) := by decide +kernel
theorem dX1_answerIf_18 : decode cX1_answerIf 18 = .ok (.istore 6, 2) := by decide +kernel
theorem dX1_answerIf_20 : decode cX1_answerIf 20 = .ok (.iload 6, 2) := by decide +kernel
theorem dX1_answerIf_22 : decode cX1_answerIf 22 = .ok (.iload_n 3, 1) := by decide +kernel
theorem dX1_answerIf_23 : decode cX1_answerIf 23 = .ok (.invokestatic 72, 3) := by decide +kernel
theorem dX1_answerIf_26 : decode cX1_answerIf 26 = .ok (.ifCond .ne 6, 3) := by decide +kernel
theorem dX1_answerIf_29 : decode cX1_answerIf 29 = .ok (.bipush (-9), 2) := by decide +kernel
theorem dX1_answerIf_31 : decode cX1_answerIf 31 = .ok (.ireturn, 1) := by decide +kernel
theorem dX1_answerIf_32 : decode cX1_answerIf 32 = .ok (.iload 6, 2) := by decide +kernel
theorem dX1_answerIf_34 : decode cX1_answerIf 34 = .ok (.iload_n 2, 1) := by decide +kernel
theorem dX1_answerIf_35 : decode cX1_answerIf 35 = .ok (.iload 5, 2) := by decide +kernel
theorem dX1_answerIf_37 : decode cX1_answerIf 37 = .ok (.iload 4, 2) := by decide +kernel
theorem dX1_answerIf_39 : decode cX1_answerIf 39 = .ok (.invokestatic 82, 3) := by decide +kernel
theorem dX1_answerIf_42 : decode cX1_answerIf 42 = .ok (.iload_n 3, 1) := by decide +kernel
theorem dX1_answerIf_43 : decode cX1_answerIf 43 = .ok (.invokestatic 72, 3) := by decide +kernel
theorem dX1_answerIf_46 : decode cX1_answerIf 46 = .ok (.ifCond .eq 7, 3) := by decide +kernel
theorem dX1_answerIf_49 : decode cX1_answerIf 49 = .ok (.iconst 1, 1) := by decide +kernel
theorem dX1_answerIf_50 : decode cX1_answerIf 50 = .ok (.goto 4, 3) := by decide +kernel
theorem dX1_answerIf_53 : decode cX1_answerIf 53 = .ok (.iconst 0, 1) := by decide +kernel
theorem dX1_answerIf_54 : decode cX1_answerIf 54 = .ok (.ireturn, 1) := by decide +kernel
theorem dX1_answerOf_0 : decode cX1_answerOf 0 = .ok (.aload_n 0, 1) := by decide +kernel
theorem dX1_answerOf_1 : decode cX1_answerOf 1 = .ok (.iload_n 1, 1) := by decide +kernel
theorem dX1_answerOf_2 : decode cX1_answerOf 2 = .ok (.aload_n 0, 1) := by decide +kernel
theorem dX1_answerOf_3 : decode cX1_answerOf 3 = .ok (.getfield 29, 3) := by decide +kernel
theorem dX1_answerOf_6 : decode cX1_answerOf 6 = .ok (.iload_n 1, 1) := by decide +kernel
theorem dX1_answerOf_7 : decode cX1_answerOf 7 = .ok (.invokevirtual 60, 3) := by decide +kernel
theorem dX1_answerOf_10 : decode cX1_answerOf 10 = .ok (.iload_n 2, 1) := by decide +kernel
theorem dX1_answerOf_11 : decode cX1_answerOf 11 = .ok (.aload_n 0, 1) := by decide +kernel
theorem dX1_answerOf_12 : decode cX1_answerOf 12 = .ok (.getfield 15, 3) := by decide +kernel
theorem dX1_answerOf_15 : decode cX1_answerOf 15 = .ok (.invokevirtual 86, 3) := by decide +kernel
theorem dX1_answerOf_18 : decode cX1_answerOf 18 = .ok (.ireturn, 1) := by decide +kernel
theorem dX2_init_0 : decode cX2_init 0 = .ok (.aload_n 0, 1) := by decide +kernel
theorem dX2_init_1 : decode cX2_init 1 = .ok (.invokespecial 3, 3) := by decide +kernel
theorem dX2_init_4 : decode cX2_init 4 = .ok (.aload_n 0, 1) := by decide +kernel
theorem dX2_init_5 : decode cX2_init 5 = .ok (.iconst 0, 1) := by decide +kernel
theorem dX2_init_6 : decode cX2_init 6 = .ok (.putfield 9, 3) := by decide +kernel
theorem dX2_init_9 : decode cX2_init 9 = .ok (.aload_n 0, 1) := by decide +kernel
theorem dX2_init_10 : decode cX2_init 10 = .ok (.new 15, 3) := by decide +kernel
theorem dX2_init_13 : decode cX2_init 13 = .ok (.dup, 1) := by decide +kernel
theorem dX2_init_14 : decode cX2_init 14 = .ok (.bipush 8, 2) := by decide +kernel
theorem dX2_init_16 : decode cX2_init 16 = .ok (.invokespecial 17, 3) := by decide +kernel
theorem dX2_init_19 : decode cX2_init 19 = .ok (.putfield 20, 3) := by decide +kernel
theorem dX2_init_22 : decode cX2_init 22 = .ok (.aload_n 0, 1) := by decide +kernel
theorem dX2_init_23 : decode cX2_init 23 = .ok (.new 15, 3) := by decide +kernel
theorem dX2_init_26 : decode cX2_init 26 = .ok (.dup, 1) := by decide +kernel
theorem dX2_init_27 : decode cX2_init 27 = .ok (.bipush 8, 2) := by decide +kernel
theorem dX2_init_29 : decode cX2_init 29 = .ok (.invokespecial 17, 3) := by decide +kernel
theorem dX2_init_32 : decode cX2_init 32 = .ok (.putfield 24, 3) := by decide +kernel
theorem dX2_init_35 : decode cX2_init 35 = .ok (.aload_n 0, 1) := by decide +kernel
theorem dX2_init_36 : decode cX2_init 36 = .ok (.new 15, 3) := by decide +kernel
theorem dX2_init_39 : decode cX2_init 39 = .ok (.dup, 1) := by decide +kernel
theorem dX2_init_40 : decode cX2_init 40 = .ok (.bipush 8, 2) := by decide +kernel
theorem dX2_init_42 : decode cX2_init 42 = .ok (.invokespecial 17, 3) := by decide +kernel
theorem dX2_init_45 : decode cX2_init 45 = .ok (.putfield 27, 3) := by decide +kernel
theorem dX2_init_48 : decode cX2_init 48 = .ok (.return_, 1) := by decide +kernel
theorem dX2_setsWith_0 : decode cX2_setsWith 0 = .ok (.iload_n 0, 1) := by decide +kernel
theorem dX2_setsWith_1 : decode cX2_setsWith 1 = .ok (.ifCond .lt 19, 3) := by decide +kernel
theorem dX2_setsWith_4 : decode cX2_setsWith 4 = .ok (.iload_n 0, 1) := by decide +kernel
theorem dX2_setsWith_5 : decode cX2_setsWith 5 = .ok (.getstatic 30, 3) := by decide +kernel
theorem dX2_setsWith_8 : decode cX2_setsWith 8 = .ok (.arraylength, 1) := by decide +kernel
theorem dX2_setsWith_9 : decode cX2_setsWith 9 = .ok (.if_icmp .ge 11, 3) := by decide +kernel
theorem dX2_setsWith_12 : decode cX2_setsWith 12 = .ok (.getstatic 30, 3) := by decide +kernel
theorem dX2_setsWith_15 : decode cX2_setsWith 15 = .ok (.iload_n 0, 1) := by decide +kernel
theorem dX2_setsWith_16 : decode cX2_setsWith 16 = .ok (.laload, 1) := by decide +kernel
theorem dX2_setsWith_17 : decode cX2_setsWith 17 = .ok (.goto 4, 3) := by decide +kernel
theorem dX2_setsWith_20 : decode cX2_setsWith 20 = .ok (.lconst 0, 1) := by decide +kernel
theorem dX2_setsWith_21 : decode cX2_setsWith 21 = .ok (.lreturn, 1) := by decide +kernel
theorem dX2_readFrom_0 : decode cX2_readFrom 0 = .ok (.aload_n 1, 1) := by decide +kernel
theorem dX2_readFrom_1 : decode cX2_readFrom 1 = .ok (.iload_n 2, 1) := by decide +kernel
theorem dX2_readFrom_2 : decode cX2_readFrom 2 = .ok (.invokevirtual 34, 3) := by decide +kernel
theorem dX2_readFrom_5 : decode cX2_readFrom 5 = .ok (.ifCond .ne 5, 3) := by decide +kernel
theorem dX2_readFrom_8 : decode cX2_readFrom 8 = .ok (.iconst 1, 1) := by decide +kernel
theorem dX2_readFrom_9 : decode cX2_readFrom 9 = .ok (.ireturn, 1) := by decide +kernel
theorem dX2_readFrom_10 : decode cX2_readFrom 10 = .ok (.aload_n 1, 1) := by decide +kernel
theorem dX2_readFrom_11 : decode cX2_readFrom 11 = .ok (.iload_n 2, 1) := by decide +kernel
theorem dX2_readFrom_12 : decode cX2_readFrom 12 = .ok (.invokevirtual 40, 3) := by decide +kernel
theorem dX2_readFrom_15 : decode cX2_readFrom 15 = .ok (.istore 4, 2) := by decide +kernel
theorem dX2_readFrom_17 : decode cX2_readFrom 17 = .ok (.iload 4, 2) := by decide +kernel
theorem dX2_readFrom_19 : decode cX2_readFrom 19 = .ok (.iconst 2, 1) := by decide +kernel
theorem dX2_readFrom_20 : decode cX2_readFrom 20 = .ok (.irem, 1) := by decide +kernel
theorem dX2_readFrom_21 : decode cX2_readFrom 21 = .ok (.ifCond .ne 10, 3) := by decide +kernel
theorem dX2_readFrom_24 : decode cX2_readFrom 24 = .ok (.iload 4, 2) := by decide +kernel
theorem dX2_readFrom_26 : decode cX2_readFrom 26 = .ok (.bipush 16, 2) := by decide +kernel
theorem dX2_readFrom_28 : decode cX2_readFrom 28 = .ok (.if_icmp .le 5, 3) := by decide +kernel
theorem dX2_readFrom_31 : decode cX2_readFrom 31 = .ok (.iconst 5, 1) := by decide +kernel
theorem dX2_readFrom_32 : decode cX2_readFrom 32 = .ok (.ireturn, 1) := by decide +kernel
theorem dX2_readFrom_33 : decode cX2_readFrom 33 = .ok (.aload_n 0, 1) := by decide +kernel
theorem dX2_readFrom_34 : decode cX2_readFrom 34 = .ok (.iload 4, 2) := by decide +kernel
theorem dX2_readFrom_36 : decode cX2_readFrom 36 = .ok (.iconst 2, 1) := by decide +kernel
theorem dX2_readFrom_37 : decode cX2_readFrom 37 = .ok (.idiv, 1) := by decide +kernel
theorem dX2_readFrom_38 : decode cX2_readFrom 38 = .ok (.putfield 9, 3) := by decide +kernel
theorem dX2_readFrom_41 : decode cX2_readFrom 41 = .ok (.iconst 0, 1) := by decide +kernel
theorem dX2_readFrom_42 : decode cX2_readFrom 42 = .ok (.istore 5, 2) := by decide +kernel
theorem dX2_readFrom_44 : decode cX2_readFrom 44 = .ok (.iload 5, 2) := by decide +kernel
theorem dX2_readFrom_46 : decode cX2_readFrom 46 = .ok (.aload_n 0, 1) := by decide +kernel
theorem dX2_readFrom_47 : decode cX2_readFrom 47 = .ok (.getfield 9, 3) := by decide +kernel
theorem dX2_readFrom_50 : decode cX2_readFrom 50 = .ok (.if_icmp .ge 122, 3) := by decide +kernel
theorem dX2_readFrom_53 : decode cX2_readFrom 53 = .ok (.aload_n 1, 1) := by decide +kernel
theorem dX2_readFrom_54 : decode cX2_readFrom 54 = .ok (.iload_n 2, 1) := by decide +kernel
theorem dX2_readFrom_55 : decode cX2_readFrom 55 = .ok (.iconst 2, 1) := by decide +kernel
theorem dX2_readFrom_56 : decode cX2_readFrom 56 = .ok (.iload 5, 2) := by decide +kernel
theorem dX2_readFrom_58 : decode cX2_readFrom 58 = .ok (.imul, 1) := by decide +kernel
theorem dX2_readFrom_59 : decode cX2_readFrom 59 = .ok (.invokevirtual 44, 3) := by decide +kernel
theorem dX2_readFrom_62 : decode cX2_readFrom 62 = .ok (.istore 6, 2) := by decide +kernel
theorem dX2_readFrom_64 : decode cX2_readFrom 64 = .ok (.aload_n 1, 1) := by decide +kernel
theorem dX2_readFrom_65 : decode cX2_readFrom 65 = .ok (.iload_n 2, 1) := by decide +kernel
theorem dX2_readFrom_66 : decode cX2_readFrom 66 = .ok (.iconst 2, 1) := by decide +kernel
theorem dX2_readFrom_67 : decode cX2_readFrom 67 = .ok (.iload 5, 2) := by decide +kernel
theorem dX2_readFrom_69 : decode cX2_readFrom 69 = .ok (.imul, 1) := by decide +kernel
theorem dX2_readFrom_70 : decode cX2_readFrom 70 = .ok (.iconst 1, 1) := by decide +kernel
theorem dX2_readFrom_71 : decode cX2_readFrom 71 = .ok (.iadd, 1) := by decide +kernel
theorem dX2_readFrom_72 : decode cX2_readFrom 72 = .ok (.invokevirtual 44, 3) := by decide +kernel
theorem dX2_readFrom_75 : decode cX2_readFrom 75 = .ok (.istore 7, 2) := by decide +kernel
theorem dX2_readFrom_77 : decode cX2_readFrom 77 = .ok (.iload 6, 2) := by decide +kernel
theorem dX2_readFrom_79 : decode cX2_readFrom 79 = .ok (.ifCond .lt 22, 3) := by decide +kernel
theorem dX2_readFrom_82 : decode cX2_readFrom 82 = .ok (.iload 6, 2) := by decide +kernel
theorem dX2_readFrom_84 : decode cX2_readFrom 84 = .ok (.bipush 8, 2) := by decide +kernel
theorem dX2_readFrom_86 : decode cX2_readFrom 86 = .ok (.idiv, 1) := by decide +kernel
theorem dX2_readFrom_87 : decode cX2_readFrom 87 = .ok (.iload_n 3, 1) := by decide +kernel
theorem dX2_readFrom_88 : decode cX2_readFrom 88 = .ok (.if_icmp .ge 13, 3) := by decide +kernel
theorem dX2_readFrom_91 : decode cX2_readFrom 91 = .ok (.iload 6, 2) := by decide +kernel
theorem dX2_readFrom_93 : decode cX2_readFrom 93 = .ok (.bipush 8, 2) := by decide +kernel
theorem dX2_readFrom_95 : decode cX2_readFrom 95 = .ok (.irem, 1) := by decide +kernel
theorem dX2_readFrom_96 : decode cX2_readFrom 96 = .ok (.bipush 6, 2) := by decide +kernel
theorem dX2_readFrom_98 : decode cX2_readFrom 98 = .ok (.if_icmp .lt 5, 3) := by decide +kernel
theorem dX2_readFrom_101 : decode cX2_readFrom 101 = .ok (.iconst 3, 1) := by decide +kernel
theorem dX2_readFrom_102 : decode cX2_readFrom 102 = .ok (.ireturn, 1) := by decide +kernel
theorem dX2_readFrom_103 : decode cX2_readFrom 103 = .ok (.iload 7, 2) := by decide +kernel
theorem dX2_readFrom_105 : decode cX2_readFrom 105 = .ok (.ifCond .lt 9, 3) := by decide +kernel
theorem dX2_readFrom_108 : decode cX2_readFrom 108 = .ok (.iload 7, 2) := by decide +kernel
theorem dX2_readFrom_110 : decode cX2_readFrom 110 = .ok (.iconst 2, 1) := by decide +kernel
theorem dX2_readFrom_111 : decode cX2_readFrom 111 = .ok (.if_icmp .le 5, 3) := by decide +kernel
theorem dX2_readFrom_114 : decode cX2_readFrom 114 = .ok (.iconst 3, 1) := by decide +kernel
theorem dX2_readFrom_115 : decode cX2_readFrom 115 = .ok (.ireturn, 1) := by decide +kernel
theorem dX2_readFrom_116 : decode cX2_readFrom 116 = .ok (.aload_n 0, 1) := by decide +kernel
theorem dX2_readFrom_117 : decode cX2_readFrom 117 = .ok (.getfield 20, 3) := by decide +kernel
theorem dX2_readFrom_120 : decode cX2_readFrom 120 = .ok (.iload 5, 2) := by decide +kernel
theorem dX2_readFrom_122 : decode cX2_readFrom 122 = .ok (.iload 6, 2) := by decide +kernel
theorem dX2_readFrom_124 : decode cX2_readFrom 124 = .ok (.bipush 8, 2) := by decide +kernel
theorem dX2_readFrom_126 : decode cX2_readFrom 126 = .ok (.idiv, 1) := by decide +kernel
theorem dX2_readFrom_127 : decode cX2_readFrom 127 = .ok (.invokevirtual 48, 3) := by decide +kernel
theorem dX2_readFrom_130 : decode cX2_readFrom 130 = .ok (.aload_n 0, 1) := by decide +kernel
theorem dX2_readFrom_131 : decode cX2_readFrom 131 = .ok (.getfield 24, 3) := by decide +kernel
theorem dX2_readFrom_134 : decode cX2_readFrom 134 = .ok (.iload 5, 2) := by decide +kernel
theorem dX2_readFrom_136 : decode cX2_readFrom 136 = .ok (.iload 6, 2) := by decide +kernel
theorem dX2_readFrom_138 : decode cX2_readFrom 138 = .ok (.bipush 8, 2) := by decide +kernel
theorem dX2_readFrom_140 : decode cX2_readFrom 140 = .ok (.irem, 1) := by decide +kernel
theorem dX2_readFrom_141 : decode cX2_readFrom 141 = .ok (.invokevirtual 48, 3) := by decide +kernel
theorem dX2_readFrom_144 : decode cX2_readFrom 144 = .ok (.aload_n 0, 1) := by decide +kernel
theorem dX2_readFrom_145 : decode cX2_readFrom 145 = .ok (.getfield 27, 3) := by decide +kernel
theorem dX2_readFrom_148 : decode cX2_readFrom 148 = .ok (.iload 5, 2) := by decide +kernel
theorem dX2_readFrom_150 : decode cX2_readFrom 150 = .ok (.iload 7, 2) := by decide +kernel
theorem dX2_readFrom_152 : decode cX2_readFrom 152 = .ok (.iconst 2, 1) := by decide +kernel
theorem dX2_readFrom_153 : decode cX2_readFrom 153 = .ok (.if_icmp .ne 8, 3) := by decide +kernel
theorem dX2_readFrom_156 : decode cX2_readFrom 156 = .ok (.bipush (-9), 2) := by decide +kernel
theorem dX2_readFrom_158 : decode cX2_readFrom 158 = .ok (.goto 5, 3) := by decide +kernel
theorem dX2_readFrom_161 : decode cX2_readFrom 161 = .ok (.iload 7, 2) := by decide +kernel
theorem dX2_readFrom_163 : decode cX2_readFrom 163 = .ok (.invokevirtual 48, 3) := by decide +kernel
theorem dX2_readFrom_166 : decode cX2_readFrom 166 = .ok (.iinc 5 1, 3) := by decide +kernel
theorem dX2_readFrom_169 : decode cX2_readFrom 169 = .ok (.goto (-125), 3) := by decide +kernel
theorem dX2_readFrom_172 : decode cX2_readFrom 172 = .ok (.iconst 0, 1) := by decide +kernel
theorem dX2_readFrom_173 : decode cX2_readFrom 173 = .ok (.ireturn, 1) := by decide +kernel
theorem dX2_fits_0 : decode cX2_fits 0 = .ok (.aload_n 1, 1) := by decide +kernel
theorem dX2_fits_1 : decode cX2_fits 1 = .ok (.aload_n 0, 1) := by decide +kernel
theorem dX2_fits_2 : decode cX2_fits 2 = .ok (.getfield 20, 3) := by decide +kernel
theorem dX2_fits_5 : decode cX2_fits 5 = .ok (.iload_n 2, 1) := by decide +kernel
theorem dX2_fits_6 : decode cX2_fits 6 = .ok (.invokevirtual 52, 3) := by decide +kernel
theorem dX2_fits_9 : decode cX2_fits 9 = .ok (.iload_n 3, 1) := by decide +kernel
theorem dX2_fits_10 : decode cX2_fits 10 = .ok (.aload_n 0, 1) := by decide +kernel
theorem dX2_fits_11 : decode cX2_fits 11 = .ok (.getfield 24, 3) := by decide +kernel
theorem dX2_fits_14 : decode cX2_fits 14 = .ok (.iload_n 2, 1) := by decide +kernel
theorem dX2_fits_15 : decode cX2_fits 15 = .ok (.invokevirtual 52, 3) := by decide +kernel
theorem dX2_fits_18 : decode cX2_fits 18 = .ok (.iload 4, 2) := by decide +kernel
theorem dX2_fits_20 : decode cX2_fits 20 = .ok (.invokevirtual 54, 3) := by decide +kernel
theorem dX2_fits_23 : decode cX2_fits 23 = .ok (.aload_n 0, 1) := by decide +kernel
theorem dX2_fits_24 : decode cX2_fits 24 = .ok (.getfield 27, 3) := by decide +kernel
theorem dX2_fits_27 : decode cX2_fits 27 = .ok (.iload_n 2, 1) := by decide +kernel
theorem dX2_fits_28 : decode cX2_fits 28 = .ok (.invokevirtual 52, 3) := by decide +kernel
theorem dX2_fits_31 : decode cX2_fits 31 = .ok (.if_icmp .ne 7, 3) := by decide +kernel
theorem dX2_fits_34 : decode cX2_fits 34 = .ok (.iconst 1, 1) := by decide +kernel
theorem dX2_fits_35 : decode cX2_fits 35 = .ok (.goto 4, 3) := by decide +kernel
theorem dX2_fits_38 : decode cX2_fits 38 = .ok (.iconst 0, 1) := by decide +kernel
theorem dX2_fits_39 : decode cX2_fits 39 = .ok (.ireturn, 1) := by decide +kernel
theorem dX2_fittingSets_0 : decode cX2_fittingSets 0 = .ok (.ldc2_w 60, 3) := by decide +kernel
theorem dX2_fittingSets_3 : decode cX2_fittingSets 3 = .ok (.lstore_n 2, 1) := by decide +kernel
theorem dX2_fittingSets_4 : decode cX2_fittingSets 4 = .ok (.iconst 0, 1) := by decide +kernel
theorem dX2_fittingSets_5 : decode cX2_fittingSets 5 = .ok (.istore 4, 2) := by decide +kernel
theorem dX2_fittingSets_7 : decode cX2_fittingSets 7 = .ok (.iload 4, 2) := by decide +kernel
theorem dX2_fittingSets_9 : decode cX2_fittingSets 9 = .ok (.aload_n 0, 1) := by decide +kernel
theorem dX2_fittingSets_10 : decode cX2_fittingSets 10 = .ok (.getfield 9, 3) := by decide +kernel
theorem dX2_fittingSets_13 : decode cX2_fittingSets 13 = .ok (.if_icmp .ge 82, 3) := by decide +kernel
theorem dX2_fittingSets_16 : decode cX2_fittingSets 16 = .ok (.aload_n 1, 1) := by decide +kernel
theorem dX2_fittingSets_17 : decode cX2_fittingSets 17 = .ok (.getfield 62, 3) := by decide +kernel
theorem dX2_fittingSets_20 : decode cX2_fittingSets 20 = .ok (.aload_n 0, 1) := by decide +kernel
theorem dX2_fittingSets_21 : decode cX2_fittingSets 21 = .ok (.getfield 20, 3) := by decide +kernel
theorem dX2_fittingSets_24 : decode cX2_fittingSets 24 = .ok (.iload 4, 2) := by decide +kernel
theorem dX2_fittingSets_26 : decode cX2_fittingSets 26 = .ok (.invokevirtual 52, 3) := by decide +kernel
theorem dX2_fittingSets_29 : decode cX2_fittingSets 29 = .ok (.invokevirtual 52, 3) := by decide +kernel
theorem dX2_fittingSets_32 : decode cX2_fittingSets 32 = .ok (.istore 5, 2) := by decide +kernel
theorem dX2_fittingSets_34 : decode cX2_fittingSets 34 = .ok (.aload_n 0, 1) := by decide +kernel
theorem dX2_fittingSets_35 : decode cX2_fittingSets 35 = .ok (.getfield 24, 3) := by decide +kernel
theorem dX2_fittingSets_38 : decode cX2_fittingSets 38 = .ok (.iload 4, 2) := by decide +kernel
theorem dX2_fittingSets_40 : decode cX2_fittingSets 40 = .ok (.invokevirtual 52, 3) := by decide +kernel
theorem dX2_fittingSets_43 : decode cX2_fittingSets 43 = .ok (.invokestatic 65, 3) := by decide +kernel
theorem dX2_fittingSets_46 : decode cX2_fittingSets 46 = .ok (.lstore 6, 2) := by decide +kernel
theorem dX2_fittingSets_48 : decode cX2_fittingSets 48 = .ok (.aload_n 0, 1) := by decide +kernel
theorem dX2_fittingSets_49 : decode cX2_fittingSets 49 = .ok (.aload_n 1, 1) := by decide +kernel
theorem dX2_fittingSets_50 : decode cX2_fittingSets 50 = .ok (.iload 4, 2) := by decide +kernel
theorem dX2_fittingSets_52 : decode cX2_fittingSets 52 = .ok (.iload 5, 2) := by decide +kernel
theorem dX2_fittingSets_54 : decode cX2_fittingSets 54 = .ok (.bipush 63, 2) := by decide +kernel
theorem dX2_fittingSets_56 : decode cX2_fittingSets 56 = .ok (.invokevirtual 69, 3) := by decide +kernel
theorem dX2_fittingSets_59 : decode cX2_fittingSets 59 = .ok (.ifCond .ne 12, 3) := by decide +kernel
theorem dX2_fittingSets_62 : decode cX2_fittingSets 62 = .ok (.lload_n 2, 1) := by decide +kernel
theorem dX2_fittingSets_63 : decode cX2_fittingSets 63 = .ok (.lload 6, 2) := by decide +kernel
theorem dX2_fittingSets_65 : decode cX2_fittingSets 65 = .ok (.ldc2_w 60, 3) := by decide +kernel
theorem dX2_fittingSets_68 : decode cX2_fittingSets 68 = .ok (.lxor, 1) := by decide +kernel
theorem dX2_fittingSets_69 : decode cX2_fittingSets 69 = .ok (.land, 1) := by decide +kernel
theorem dX2_fittingSets_70 : decode cX2_fittingSets 70 = .ok (.lstore_n 2, 1) := by decide +kernel
theorem dX2_fittingSets_71 : decode cX2_fittingSets 71 = .ok (.aload_n 0, 1) := by decide +kernel
theorem dX2_fittingSets_72 : decode cX2_fittingSets 72 = .ok (.aload_n 1, 1) := by decide +kernel
theorem dX2_fittingSets_73 : decode cX2_fittingSets 73 = .ok (.iload 4, 2) := by decide +kernel
theorem dX2_fittingSets_75 : decode cX2_fittingSets 75 = .ok (.iload 5, 2) := by decide +kernel
theorem dX2_fittingSets_77 : decode cX2_fittingSets 77 = .ok (.iconst 0, 1) := by decide +kernel
theorem dX2_fittingSets_78 : decode cX2_fittingSets 78 = .ok (.invokevirtual 69, 3) := by decide +kernel
theorem dX2_fittingSets_81 : decode cX2_fittingSets 81 = .ok (.ifCond .ne 8, 3) := by decide +kernel
theorem dX2_fittingSets_84 : decode cX2_fittingSets 84 = .ok (.lload_n 2, 1) := by decide +kernel
theorem dX2_fittingSets_85 : decode cX2_fittingSets 85 = .ok (.lload 6, 2) := by decide +kernel
theorem dX2_fittingSets_87 : decode cX2_fittingSets 87 = .ok (.land, 1) := by decide +kernel
theorem dX2_fittingSets_88 : decode cX2_fittingSets 88 = .ok (.lstore_n 2, 1) := by decide +kernel
theorem dX2_fittingSets_89 : decode cX2_fittingSets 89 = .ok (.iinc 4 1, 3) := by decide +kernel
theorem dX2_fittingSets_92 : decode cX2_fittingSets 92 = .ok (.goto (-85), 3) := by decide +kernel
theorem dX2_fittingSets_95 : decode cX2_fittingSets 95 = .ok (.lload_n 2, 1) := by decide +kernel
theorem dX2_fittingSets_96 : decode cX2_fittingSets 96 = .ok (.lreturn, 1) := by decide +kernel
theorem dX2_fitKind_0 : decode cX2_fitKind 0 = .ok (.iconst 0, 1) := by decide +kernel
theorem dX2_fitKind_1 : decode cX2_fitKind 1 = .ok (.istore 4, 2) := by decide +kernel
theorem dX2_fitKind_3 : decode cX2_fitKind 3 = .ok (.iload 4, 2) := by decide +kernel
theorem dX2_fitKind_5 : decode cX2_fitKind 5 = .ok (.aload_n 0, 1) := by decide +kernel
theorem dX2_fitKind_6 : decode cX2_fitKind 6 = .ok (.getfield 9, 3) := by decide +kernel
theorem dX2_fitKind_9 : decode cX2_fitKind 9 = .ok (.if_icmp .ge 39, 3) := by decide +kernel
theorem dX2_fitKind_12 : decode cX2_fitKind 12 = .ok (.aload_n 0, 1) := by decide +kernel
theorem dX2_fitKind_13 : decode cX2_fitKind 13 = .ok (.getfield 20, 3) := by decide +kernel
theorem dX2_fitKind_16 : decode cX2_fitKind 16 = .ok (.iload 4, 2) := by decide +kernel
theorem dX2_fitKind_18 : decode cX2_fitKind 18 = .ok (.invokevirtual 52, 3) := by decide +kernel
theorem dX2_fitKind_21 : decode cX2_fitKind 21 = .ok (.iload_n 2, 1) := by decide +kernel
theorem dX2_fitKind_22 : decode cX2_fitKind 22 = .ok (.if_icmp .ne 20, 3) := by decide +kernel
theorem dX2_fitKind_25 : decode cX2_fitKind 25 = .ok (.aload_n 0, 1) := by decide +kernel
theorem dX2_fitKind_26 : decode cX2_fitKind 26 = .ok (.aload_n 1, 1) := by decide +kernel
theorem dX2_fitKind_27 : decode cX2_fitKind 27 = .ok (.iload 4, 2) := by decide +kernel
theorem dX2_fitKind_29 : decode cX2_fitKind 29 = .ok (.iload_n 3, 1) := by decide +kernel
theorem dX2_fitKind_30 : decode cX2_fitKind 30 = .ok (.aload_n 1, 1) := by decide +kernel
theorem dX2_fitKind_31 : decode cX2_fitKind 31 = .ok (.getfield 73, 3) := by decide +kernel
theorem dX2_fitKind_34 : decode cX2_fitKind 34 = .ok (.invokevirtual 69, 3) := by decide +kernel
theorem dX2_fitKind_37 : decode cX2_fitKind 37 = .ok (.ifCond .ne 5, 3) := by decide +kernel
theorem dX2_fitKind_40 : decode cX2_fitKind 40 = .ok (.iconst 0, 1) := by decide +kernel
theorem dX2_fitKind_41 : decode cX2_fitKind 41 = .ok (.ireturn, 1) := by decide +kernel
theorem dX2_fitKind_42 : decode cX2_fitKind 42 = .ok (.iinc 4 1, 3) := by decide +kernel
theorem dX2_fitKind_45 : decode cX2_fitKind 45 = .ok (.goto (-42), 3) := by decide +kernel
theorem dX2_fitKind_48 : decode cX2_fitKind 48 = .ok (.iconst 1, 1) := by decide +kernel
theorem dX2_fitKind_49 : decode cX2_fitKind 49 = .ok (.ireturn, 1) := by decide +kernel
theorem dX2_whoSpoke_0 : decode cX2_whoSpoke 0 = .ok (.iconst 0, 1) := by decide +kernel
theorem dX2_whoSpoke_1 : decode cX2_whoSpoke 1 = .ok (.istore_n 1, 1) := by decide +kernel
theorem dX2_whoSpoke_2 : decode cX2_whoSpoke 2 = .ok (.iconst 0, 1) := by decide +kernel
theorem dX2_whoSpoke_3 : decode cX2_whoSpoke 3 = .ok (.istore_n 2, 1) := by decide +kernel
theorem dX2_whoSpoke_4 : decode cX2_whoSpoke 4 = .ok (.iload_n 2, 1) := by decide +kernel
theorem dX2_whoSpoke_5 : decode cX2_whoSpoke 5 = .ok (.aload_n 0, 1) := by decide +kernel
theorem dX2_whoSpoke_6 : decode cX2_whoSpoke 6 = .ok (.getfield 9, 3) := by decide +kernel
theorem dX2_whoSpoke_9 : decode cX2_whoSpoke 9 = .ok (.if_icmp .ge 35, 3) := by decide +kernel
theorem dX2_whoSpoke_12 : decode cX2_whoSpoke 12 = .ok (.aload_n 0, 1) := by decide +kernel
theorem dX2_whoSpoke_13 : decode cX2_whoSpoke 13 = .ok (.getfield 27, 3) := by decide +kernel
theorem dX2_whoSpoke_16 : decode cX2_whoSpoke 16 = .ok (.iload_n 2, 1) := by decide +kernel
theorem dX2_whoSpoke_17 : decode cX2_whoSpoke 17 = .ok (.invokevirtual 52, 3) := by decide +kernel
theorem dX2_whoSpoke_20 : decode cX2_whoSpoke 20 = .ok (.bipush (-9), 2) := by decide +kernel
theorem dX2_whoSpoke_22 : decode cX2_whoSpoke 22 = .ok (.if_icmp .eq 16, 3) := by decide +kernel
theorem dX2_whoSpoke_25 : decode cX2_whoSpoke 25 = .ok (.iload_n 1, 1) := by decide +kernel
theorem dX2_whoSpoke_26 : decode cX2_whoSpoke 26 = .ok (.iconst 1, 1) := by decide +kernel
theorem dX2_whoSpoke_27 : decode cX2_whoSpoke 27 = .ok (.aload_n 0, 1) := by decide +kernel
theorem dX2_whoSpoke_28 : decode cX2_whoSpoke 28 = .ok (.getfield 20, 3) := by decide +kernel
theorem dX2_whoSpoke_31 : decode cX2_whoSpoke 31 = .ok (.iload_n 2, 1) := by decide +kernel
theorem dX2_whoSpoke_32 : decode cX2_whoSpoke 32 = .ok (.invokevirtual 52, 3) := by decide +kernel
theorem dX2_whoSpoke_35 : decode cX2_whoSpoke 35 = .ok (.ishl, 1) := by decide +kernel
theorem dX2_whoSpoke_36 : decode cX2_whoSpoke 36 = .ok (.ior, 1) := by decide +kernel
theorem dX2_whoSpoke_37 : decode cX2_whoSpoke 37 = .ok (.istore_n 1, 1) := by decide +kernel
theorem dX2_whoSpoke_38 : decode cX2_whoSpoke 38 = .ok (.iinc 2 1, 3) := by decide +kernel
theorem dX2_whoSpoke_41 : decode cX2_whoSpoke 41 = .ok (.goto (-37), 3) := by decide +kernel
theorem dX2_whoSpoke_44 : decode cX2_whoSpoke 44 = .ok (.iload_n 1, 1) := by decide +kernel
theorem dX2_whoSpoke_45 : decode cX2_whoSpoke 45 = .ok (.ireturn, 1) := by decide +kernel
theorem dX2_whoKeptBack_0 : decode cX2_whoKeptBack 0 = .ok (.iconst 0, 1) := by decide +kernel
theorem dX2_whoKeptBack_1 : decode cX2_whoKeptBack 1 = .ok (.istore_n 2, 1) := by decide +kernel
theorem dX2_whoKeptBack_2 : decode cX2_whoKeptBack 2 = .ok (.iconst 0, 1) := by decide +kernel
theorem dX2_whoKeptBack_3 : decode cX2_whoKeptBack 3 = .ok (.istore_n 3, 1) := by decide +kernel
theorem dX2_whoKeptBack_4 : decode cX2_whoKeptBack 4 = .ok (.iload_n 3, 1) := by decide +kernel
theorem dX2_whoKeptBack_5 : decode cX2_whoKeptBack 5 = .ok (.aload_n 0, 1) := by decide +kernel
theorem dX2_whoKeptBack_6 : decode cX2_whoKeptBack 6 = .ok (.getfield 9, 3) := by decide +kernel
theorem dX2_whoKeptBack_9 : decode cX2_whoKeptBack 9 = .ok (.if_icmp .ge 81, 3) := by decide +kernel
theorem dX2_whoKeptBack_12 : decode cX2_whoKeptBack 12 = .ok (.aload_n 0, 1) := by decide +kernel
theorem dX2_whoKeptBack_13 : decode cX2_whoKeptBack 13 = .ok (.getfield 20, 3) := by decide +kernel
theorem dX2_whoKeptBack_16 : decode cX2_whoKeptBack 16 = .ok (.iload_n 3, 1) := by decide +kernel
theorem dX2_whoKeptBack_17 : decode cX2_whoKeptBack 17 = .ok (.invokevirtual 52, 3) := by decide +kernel
theorem dX2_whoKeptBack_20 : decode cX2_whoKeptBack 20 = .ok (.istore 4, 2) := by decide +kernel
theorem dX2_whoKeptBack_22 : decode cX2_whoKeptBack 22 = .ok (.aload_n 1, 1) := by decide +kernel
theorem dX2_whoKeptBack_23 : decode cX2_whoKeptBack 23 = .ok (.iload 4, 2) := by decide +kernel
theorem dX2_whoKeptBack_25 : decode cX2_whoKeptBack 25 = .ok (.aload_n 1, 1) := by decide +kernel
theorem dX2_whoKeptBack_26 : decode cX2_whoKeptBack 26 = .ok (.getfield 62, 3) := by decide +kernel
theorem dX2_whoKeptBack_29 : decode cX2_whoKeptBack 29 = .ok (.iload 4, 2) := by decide +kernel
theorem dX2_whoKeptBack_31 : decode cX2_whoKeptBack 31 = .ok (.invokevirtual 52, 3) := by decide +kernel
theorem dX2_whoKeptBack_34 : decode cX2_whoKeptBack 34 = .ok (.aload_n 1, 1) := by decide +kernel
theorem dX2_whoKeptBack_35 : decode cX2_whoKeptBack 35 = .ok (.getfield 76, 3) := by decide +kernel
theorem dX2_whoKeptBack_38 : decode cX2_whoKeptBack 38 = .ok (.iload 4, 2) := by decide +kernel
theorem dX2_whoKeptBack_40 : decode cX2_whoKeptBack 40 = .ok (.invokevirtual 52, 3) := by decide +kernel
theorem dX2_whoKeptBack_43 : decode cX2_whoKeptBack 43 = .ok (.invokevirtual 79, 3) := by decide +kernel
theorem dX2_whoKeptBack_46 : decode cX2_whoKeptBack 46 = .ok (.istore 5, 2) := by decide +kernel
theorem dX2_whoKeptBack_48 : decode cX2_whoKeptBack 48 = .ok (.aload_n 0, 1) := by decide +kernel
theorem dX2_whoKeptBack_49 : decode cX2_whoKeptBack 49 = .ok (.getfield 27, 3) := by decide +kernel
theorem dX2_whoKeptBack_52 : decode cX2_whoKeptBack 52 = .ok (.iload_n 3, 1) := by decide +kernel
theorem dX2_whoKeptBack_53 : decode cX2_whoKeptBack 53 = .ok (.invokevirtual 52, 3) := by decide +kernel
theorem dX2_whoKeptBack_56 : decode cX2_whoKeptBack 56 = .ok (.bipush (-9), 2) := by decide +kernel
theorem dX2_whoKeptBack_58 : decode cX2_whoKeptBack 58 = .ok (.if_icmp .ne 26, 3) := by decide +kernel
theorem dX2_whoKeptBack_61 : decode cX2_whoKeptBack 61 = .ok (.iload 5, 2) := by decide +kernel
theorem dX2_whoKeptBack_63 : decode cX2_whoKeptBack 63 = .ok (.aload_n 0, 1) := by decide +kernel
theorem dX2_whoKeptBack_64 : decode cX2_whoKeptBack 64 = .ok (.getfield 24, 3) := by decide +kernel
theorem dX2_whoKeptBack_67 : decode cX2_whoKeptBack 67 = .ok (.iload_n 3, 1) := by decide +kernel
theorem dX2_whoKeptBack_68 : decode cX2_whoKeptBack 68 = .ok (.invokevirtual 52, 3) := by decide +kernel
theorem dX2_whoKeptBack_71 : decode cX2_whoKeptBack 71 = .ok (.invokestatic 83, 3) := by decide +kernel
theorem dX2_whoKeptBack_74 : decode cX2_whoKeptBack 74 = .ok (.ifCond .eq 10, 3) := by decide +kernel
theorem dX2_whoKeptBack_77 : decode cX2_whoKeptBack 77 = .ok (.iload_n 2, 1) := by decide +kernel
theorem dX2_whoKeptBack_78 : decode cX2_whoKeptBack 78 = .ok (.iconst 1, 1) := by decide +kernel
theorem dX2_whoKeptBack_79 : decode cX2_whoKeptBack 79 = .ok (.iload 4, 2) := by decide +kernel
theorem dX2_whoKeptBack_81 : decode cX2_whoKeptBack 81 = .ok (.ishl, 1) := by decide +kernel
theorem dX2_whoKeptBack_82 : decode cX2_whoKeptBack 82 = .ok (.ior, 1) := by decide +kernel
theorem dX2_whoKeptBack_83 : decode cX2_whoKeptBack 83 = .ok (.istore_n 2, 1) := by decide +kernel
theorem dX2_whoKeptBack_84 : decode cX2_whoKeptBack 84 = .ok (.iinc 3 1, 3) := by decide +kernel
theorem dX2_whoKeptBack_87 : decode cX2_whoKeptBack 87 = .ok (.goto (-83), 3) := by decide +kernel
theorem dX2_whoKeptBack_90 : decode cX2_whoKeptBack 90 = .ok (.iload_n 2, 1) := by decide +kernel
theorem dX2_whoKeptBack_91 : decode cX2_whoKeptBack 91 = .ok (.ireturn, 1) := by decide +kernel
theorem dX3_init_0 : decode cX3_init 0 = .ok (.aload_n 0, 1) := by decide +kernel
theorem dX3_init_1 : decode cX3_init 1 = .ok (.invokespecial 3, 3) := by decide +kernel
theorem dX3_init_4 : decode cX3_init 4 = .ok (.aload_n 0, 1) := by decide +kernel
theorem dX3_init_5 : decode cX3_init 5 = .ok (.new 9, 3) := by decide +kernel
theorem dX3_init_8 : decode cX3_init 8 = .ok (.dup, 1) := by decide +kernel
theorem dX3_init_9 : decode cX3_init 9 = .ok (.bipush 60, 2) := by decide +kernel
theorem dX3_init_11 : decode cX3_init 11 = .ok (.invokespecial 11, 3) := by decide +kernel
theorem dX3_init_14 : decode cX3_init 14 = .ok (.putfield 14, 3) := by decide +kernel
theorem dX3_init_17 : decode cX3_init 17 = .ok (.aload_n 0, 1) := by decide +kernel
theorem dX3_init_18 : decode cX3_init 18 = .ok (.iconst 0, 1) := by decide +kernel
theorem dX3_init_19 : decode cX3_init 19 = .ok (.putfield 20, 3) := by decide +kernel
theorem dX3_init_22 : decode cX3_init 22 = .ok (.aload_n 0, 1) := by decide +kernel
theorem dX3_init_23 : decode cX3_init 23 = .ok (.iconst 0, 1) := by decide +kernel
theorem dX3_init_24 : decode cX3_init 24 = .ok (.putfield 24, 3) := by decide +kernel
theorem dX3_init_27 : decode cX3_init 27 = .ok (.aload_n 0, 1) := by decide +kernel
theorem dX3_init_28 : decode cX3_init 28 = .ok (.bipush (-9), 2) := by decide +kernel
theorem dX3_init_30 : decode cX3_init 30 = .ok (.putfield 27, 3) := by decide +kernel
theorem dX3_init_33 : decode cX3_init 33 = .ok (.return_, 1) := by decide +kernel
theorem dX3_readInto_0 : decode cX3_readInto 0 = .ok (.aload_n 0, 1) := by decide +kernel
theorem dX3_readInto_1 : decode cX3_readInto 1 = .ok (.aload_n 2, 1) := by decide +kernel
theorem dX3_readInto_2 : decode cX3_readInto 2 = .ok (.iload_n 3, 1) := by decide +kernel
theorem dX3_readInto_3 : decode cX3_readInto 3 = .ok (.invokevirtual 30, 3) := by decide +kernel
theorem dX3_readInto_6 : decode cX3_readInto 6 = .ok (.aload_n 1, 1) := by decide +kernel
theorem dX3_readInto_7 : decode cX3_readInto 7 = .ok (.invokevirtual 34, 3) := by decide +kernel
theorem dX3_readInto_10 : decode cX3_readInto 10 = .ok (.aload_n 0, 1) := by decide +kernel
theorem dX3_readInto_11 : decode cX3_readInto 11 = .ok (.invokevirtual 39, 3) := by decide +kernel
theorem dX3_readInto_14 : decode cX3_readInto 14 = .ok (.aload_n 0, 1) := by decide +kernel
theorem dX3_readInto_15 : decode cX3_readInto 15 = .ok (.invokevirtual 42, 3) := by decide +kernel
theorem dX3_readInto_18 : decode cX3_readInto 18 = .ok (.bipush 107, 2) := by decide +kernel
theorem dX3_readInto_20 : decode cX3_readInto 20 = .ok (.if_icmp .eq 8, 3) := by decide +kernel
theorem dX3_readInto_23 : decode cX3_readInto 23 = .ok (.aload_n 0, 1) := by decide +kernel
theorem dX3_readInto_24 : decode cX3_readInto 24 = .ok (.getfield 24, 3) := by decide +kernel
theorem dX3_readInto_27 : decode cX3_readInto 27 = .ok (.ireturn, 1) := by decide +kernel
theorem dX3_readInto_28 : decode cX3_readInto 28 = .ok (.aload_n 0, 1) := by decide +kernel
theorem dX3_readInto_29 : decode cX3_readInto 29 = .ok (.dup, 1) := by decide +kernel
theorem dX3_readInto_30 : decode cX3_readInto 30 = .ok (.getfield 24, 3) := by decide +kernel
theorem dX3_readInto_33 : decode cX3_readInto 33 = .ok (.iconst 1, 1) := by decide +kernel
theorem dX3_readInto_34 : decode cX3_readInto 34 = .ok (.iadd, 1) := by decide +kernel
theorem dX3_readInto_35 : decode cX3_readInto 35 = .ok (.putfield 24, 3) := by decide +kernel
theorem dX3_readInto_38 : decode cX3_readInto 38 = .ok (.aload_n 1, 1) := by decide +kernel
theorem dX3_readInto_39 : decode cX3_readInto 39 = .ok (.aload_n 0, 1) := by decide +kernel
theorem dX3_readInto_40 : decode cX3_readInto 40 = .ok (.invokevirtual 46, 3) := by decide +kernel
theorem dX3_readInto_43 : decode cX3_readInto 43 = .ok (.putfield 49, 3) := by decide +kernel
theorem dX3_readInto_46 : decode cX3_readInto 46 = .ok (.aload_n 0, 1) := by decide +kernel
theorem dX3_readInto_47 : decode cX3_readInto 47 = .ok (.invokevirtual 39, 3) := by decide +kernel
theorem dX3_readInto_50 : decode cX3_readInto 50 = .ok (.iconst 0, 1) := by decide +kernel
theorem dX3_readInto_51 : decode cX3_readInto 51 = .ok (.istore 4, 2) := by decide +kernel
theorem dX3_readInto_53 : decode cX3_readInto 53 = .ok (.iload 4, 2) := by decide +kernel
theorem dX3_readInto_55 : decode cX3_readInto 55 = .ok (.bipush 6, 2) := by decide +kernel
theorem dX3_readInto_57 : decode cX3_readInto 57 = .ok (.if_icmp .gt 43, 3) := by decide +kernel
theorem dX3_readInto_60 : decode cX3_readInto 60 = .ok (.aload_n 0, 1) := by decide +kernel
theorem dX3_readInto_61 : decode cX3_readInto 61 = .ok (.getfield 27, 3) := by decide +kernel
theorem dX3_readInto_64 : decode cX3_readInto 64 = .ok (.bipush (-9), 2) := by decide +kernel
theorem dX3_readInto_66 : decode cX3_readInto 66 = .ok (.if_icmp .ne 34, 3) := by decide +kernel
theorem dX3_readInto_69 : decode cX3_readInto 69 = .ok (.iload 4, 2) := by decide +kernel
theorem dX3_readInto_71 : decode cX3_readInto 71 = .ok (.ifCond .eq 14, 3) := by decide +kernel
theorem dX3_readInto_74 : decode cX3_readInto 74 = .ok (.aload_n 0, 1) := by decide +kernel
theorem dX3_readInto_75 : decode cX3_readInto 75 = .ok (.getfield 24, 3) := by decide +kernel
theorem dX3_readInto_78 : decode cX3_readInto 78 = .ok (.aload_n 0, 1) := by decide +kernel
theorem dX3_readInto_79 : decode cX3_readInto 79 = .ok (.getfield 20, 3) := by decide +kernel
theorem dX3_readInto_82 : decode cX3_readInto 82 = .ok (.if_icmp .ge 18, 3) := by decide +kernel
theorem dX3_readInto_85 : decode cX3_readInto 85 = .ok (.aload_n 0, 1) := by decide +kernel
theorem dX3_readInto_86 : decode cX3_readInto 86 = .ok (.aload_n 1, 1) := by decide +kernel
theorem dX3_readInto_87 : decode cX3_readInto 87 = .ok (.invokevirtual 52, 3) := by decide +kernel
theorem dX3_readInto_90 : decode cX3_readInto 90 = .ok (.aload_n 0, 1) := by decide +kernel
theorem dX3_readInto_91 : decode cX3_readInto 91 = .ok (.invokevirtual 39, 3) := by decide +kernel
theorem dX3_readInto_94 : decode cX3_readInto 94 = .ok (.iinc 4 1, 3) := by decide +kernel
theorem dX3_readInto_97 : decode cX3_readInto 97 = .ok (.goto (-44), 3) := by decide +kernel
theorem dX3_readInto_100 : decode cX3_readInto 100 = .ok (.aload_n 0, 1) := by decide +kernel
theorem dX3_readInto_101 : decode cX3_readInto 101 = .ok (.getfield 27, 3) := by decide +kernel
theorem dX3_readInto_104 : decode cX3_readInto 104 = .ok (.ireturn, 1) := by decide +kernel
theorem dX3_open_0 : decode cX3_open 0 = .ok (.aload_n 0, 1) := by decide +kernel
theorem dX3_open_1 : decode cX3_open 1 = .ok (.aload_n 1, 1) := by decide +kernel
theorem dX3_open_2 : decode cX3_open 2 = .ok (.iload_n 2, 1) := by decide +kernel
theorem dX3_open_3 : decode cX3_open 3 = .ok (.invokevirtual 56, 3) := by decide +kernel
theorem dX3_open_6 : decode cX3_open 6 = .ok (.putfield 20, 3) := by decide +kernel
theorem dX3_open_9 : decode cX3_open 9 = .ok (.iconst 0, 1) := by decide +kernel
theorem dX3_open_10 : decode cX3_open 10 = .ok (.istore_n 3, 1) := by decide +kernel
theorem dX3_open_11 : decode cX3_open 11 = .ok (.iload_n 3, 1) := by decide +kernel
theorem dX3_open_12 : decode cX3_open 12 = .ok (.aload_n 0, 1) := by decide +kernel
theorem dX3_open_13 : decode cX3_open 13 = .ok (.getfield 20, 3) := by decide +kernel
theorem dX3_open_16 : decode cX3_open 16 = .ok (.if_icmp .ge 23, 3) := by decide +kernel
theorem dX3_open_19 : decode cX3_open 19 = .ok (.aload_n 0, 1) := by decide +kernel
theorem dX3_open_20 : decode cX3_open 20 = .ok (.getfield 14, 3) := by decide +kernel
theorem dX3_open_23 : decode cX3_open 23 = .ok (.iload_n 3, 1) := by decide +kernel
theorem dX3_open_24 : decode cX3_open 24 = .ok (.aload_n 1, 1) := by decide +kernel
theorem dX3_open_25 : decode cX3_open 25 = .ok (.iload_n 2, 1) := by decide +kernel
theorem dX3_open_26 : decode cX3_open 26 = .ok (.iload_n 3, 1) := by decide +kernel
theorem dX3_open_27 : decode cX3_open 27 = .ok (.invokevirtual 62, 3) := by decide +kernel
theorem dX3_open_30 : decode cX3_open 30 = .ok (.invokevirtual 66, 3) := by decide +kernel
theorem dX3_open_33 : decode cX3_open 33 = .ok (.iinc 3 1, 3) := by decide +kernel
theorem dX3_open_36 : decode cX3_open 36 = .ok (.goto (-25), 3) := by decide +kernel
theorem dX3_open_39 : decode cX3_open 39 = .ok (.aload_n 0, 1) := by decide +kernel
theorem dX3_open_40 : decode cX3_open 40 = .ok (.iconst 0, 1) := by decide +kernel
theorem dX3_open_41 : decode cX3_open 41 = .ok (.putfield 24, 3) := by decide +kernel
theorem dX3_open_44 : decode cX3_open 44 = .ok (.aload_n 0, 1) := by decide +kernel
theorem dX3_open_45 : decode cX3_open 45 = .ok (.bipush (-9), 2) := by decide +kernel
theorem dX3_open_47 : decode cX3_open 47 = .ok (.putfield 27, 3) := by decide +kernel
theorem dX3_open_50 : decode cX3_open 50 = .ok (.return_, 1) := by decide +kernel
theorem dX3_readBear_0 : decode cX3_readBear 0 = .ok (.aload_n 1, 1) := by decide +kernel
theorem dX3_readBear_1 : decode cX3_readBear 1 = .ok (.getfield 70, 3) := by decide +kernel
theorem dX3_readBear_4 : decode cX3_readBear 4 = .ok (.bipush 6, 2) := by decide +kernel
theorem dX3_readBear_6 : decode cX3_readBear 6 = .ok (.if_icmp .ge 13, 3) := by decide +kernel
theorem dX3_readBear_9 : decode cX3_readBear 9 = .ok (.aload_n 0, 1) := by decide +kernel
theorem dX3_readBear_10 : decode cX3_readBear 10 = .ok (.invokevirtual 42, 3) := by decide +kernel
theorem dX3_readBear_13 : decode cX3_readBear 13 = .ok (.invokestatic 73, 3) := by decide +kernel
theorem dX3_readBear_16 : decode cX3_readBear 16 = .ok (.goto 5, 3) := by decide +kernel
theorem dX3_readBear_19 : decode cX3_readBear 19 = .ok (.bipush (-9), 2) := by decide +kernel
theorem dX3_readBear_21 : decode cX3_readBear 21 = .ok (.istore_n 2, 1) := by decide +kernel
theorem dX3_readBear_22 : decode cX3_readBear 22 = .ok (.iload_n 2, 1) := by decide +kernel
theorem dX3_readBear_23 : decode cX3_readBear 23 = .ok (.bipush (-9), 2) := by decide +kernel
theorem dX3_readBear_25 : decode cX3_readBear 25 = .ok (.if_icmp .ne 12, 3) := by decide +kernel
theorem dX3_readBear_28 : decode cX3_readBear 28 = .ok (.aload_n 0, 1) := by decide +kernel
theorem dX3_readBear_29 : decode cX3_readBear 29 = .ok (.aload_n 0, 1) := by decide +kernel
theorem dX3_readBear_30 : decode cX3_readBear 30 = .ok (.getfield 24, 3) := by decide +kernel
theorem dX3_readBear_33 : decode cX3_readBear 33 = .ok (.invokevirtual 76, 3) := by decide +kernel
theorem dX3_readBear_36 : decode cX3_readBear 36 = .ok (.return_, 1) := by decide +kernel
theorem dX3_readBear_37 : decode cX3_readBear 37 = .ok (.aload_n 0, 1) := by decide +kernel
theorem dX3_readBear_38 : decode cX3_readBear 38 = .ok (.dup, 1) := by decide +kernel
theorem dX3_readBear_39 : decode cX3_readBear 39 = .ok (.getfield 24, 3) := by decide +kernel
theorem dX3_readBear_42 : decode cX3_readBear 42 = .ok (.iconst 1, 1) := by decide +kernel
theorem dX3_readBear_43 : decode cX3_readBear 43 = .ok (.iadd, 1) := by decide +kernel
theorem dX3_readBear_44 : decode cX3_readBear 44 = .ok (.putfield 24, 3) := by decide +kernel
theorem dX3_readBear_47 : decode cX3_readBear 47 = .ok (.aload_n 0, 1) := by decide +kernel
theorem dX3_readBear_48 : decode cX3_readBear 48 = .ok (.iconst 2, 1) := by decide +kernel
theorem dX3_readBear_49 : decode cX3_readBear 49 = .ok (.invokevirtual 79, 3) := by decide +kernel
theorem dX3_readBear_52 : decode cX3_readBear 52 = .ok (.istore_n 3, 1) := by decide +kernel
theorem dX3_readBear_53 : decode cX3_readBear 53 = .ok (.aload_n 0, 1) := by decide +kernel
theorem dX3_readBear_54 : decode cX3_readBear 54 = .ok (.bipush 9, 2) := by decide +kernel
theorem dX3_readBear_56 : decode cX3_readBear 56 = .ok (.invokevirtual 79, 3) := by decide +kernel
theorem dX3_readBear_59 : decode cX3_readBear 59 = .ok (.istore 4, 2) := by decide +kernel
theorem dX3_readBear_61 : decode cX3_readBear 61 = .ok (.aload_n 0, 1) := by decide +kernel
theorem dX3_readBear_62 : decode cX3_readBear 62 = .ok (.invokevirtual 46, 3) := by decide +kernel
theorem dX3_readBear_65 : decode cX3_readBear 65 = .ok (.istore 5, 2) := by decide +kernel
theorem dX3_readBear_67 : decode cX3_readBear 67 = .ok (.aload_n 0, 1) := by decide +kernel
theorem dX3_readBear_68 : decode cX3_readBear 68 = .ok (.getfield 27, 3) := by decide +kernel
theorem dX3_readBear_71 : decode cX3_readBear 71 = .ok (.bipush (-9), 2) := by decide +kernel
theorem dX3_readBear_73 : decode cX3_readBear 73 = .ok (.if_icmp .ne 13, 3) := by decide +kernel
theorem dX3_readBear_76 : decode cX3_readBear 76 = .ok (.aload_n 1, 1) := by decide +kernel
theorem dX3_readBear_77 : decode cX3_readBear 77 = .ok (.iload_n 2, 1) := by decide +kernel
theorem dX3_readBear_78 : decode cX3_readBear 78 = .ok (.iload_n 3, 1) := by decide +kernel
theorem dX3_readBear_79 : decode cX3_readBear 79 = .ok (.iload 4, 2) := by decide +kernel
theorem dX3_readBear_81 : decode cX3_readBear 81 = .ok (.iload 5, 2) := by decide +kernel
theorem dX3_readBear_83 : decode cX3_readBear 83 = .ok (.invokevirtual 82, 3) := by decide +kernel
theorem dX3_readBear_86 : decode cX3_readBear 86 = .ok (.return_, 1) := by decide +kernel
theorem dX3_skipBlanks_0 : decode cX3_skipBlanks 0 = .ok (.aload_n 0, 1) := by decide +kernel
theorem dX3_skipBlanks_1 : decode cX3_skipBlanks 1 = .ok (.getfield 24, 3) := by decide +kernel
theorem dX3_skipBlanks_4 : decode cX3_skipBlanks 4 = .ok (.aload_n 0, 1) := by decide +kernel
theorem dX3_skipBlanks_5 : decode cX3_skipBlanks 5 = .ok (.getfield 20, 3) := by decide +kernel
theorem dX3_skipBlanks_8 : decode cX3_skipBlanks 8 = .ok (.if_icmp .ge 32, 3) := by decide +kernel
theorem dX3_skipBlanks_11 : decode cX3_skipBlanks 11 = .ok (.aload_n 0, 1) := by decide +kernel
theorem dX3_skipBlanks_12 : decode cX3_skipBlanks 12 = .ok (.getfield 14, 3) := by decide +kernel
theorem dX3_skipBlanks_15 : decode cX3_skipBlanks 15 = .ok (.aload_n 0, 1) := by decide +kernel
theorem dX3_skipBlanks_16 : decode cX3_skipBlanks 16 = .ok (.getfield 24, 3) := by decide +kernel
theorem dX3_skipBlanks_19 : decode cX3_skipBlanks 19 = .ok (.invokevirtual 86, 3) := by decide +kernel
theorem dX3_skipBlanks_22 : decode cX3_skipBlanks 22 = .ok (.bipush 32, 2) := by decide +kernel
theorem dX3_skipBlanks_24 : decode cX3_skipBlanks 24 = .ok (.if_icmp .ne 16, 3) := by decide +kernel
theorem dX3_skipBlanks_27 : decode cX3_skipBlanks 27 = .ok (.aload_n 0, 1) := by decide +kernel
theorem dX3_skipBlanks_28 : decode cX3_skipBlanks 28 = .ok (.dup, 1) := by decide +kernel
theorem dX3_skipBlanks_29 : decode cX3_skipBlanks 29 = .ok (.getfield 24, 3) := by decide +kernel
theorem dX3_skipBlanks_32 : decode cX3_skipBlanks 32 = .ok (.iconst 1, 1) := by decide +kernel
theorem dX3_skipBlanks_33 : decode cX3_skipBlanks 33 = .ok (.iadd, 1) := by decide +kernel
theorem dX3_skipBlanks_34 : decode cX3_skipBlanks 34 = .ok (.putfield 24, 3) := by decide +kernel
theorem dX3_skipBlanks_37 : decode cX3_skipBlanks 37 = .ok (.goto (-37), 3) := by decide +kernel
theorem dX3_skipBlanks_40 : decode cX3_skipBlanks 40 = .ok (.return_, 1) := by decide +kernel
theorem dX3_byteHere_0 : decode cX3_byteHere 0 = .ok (.aload_n 0, 1) := by decide +kernel
theorem dX3_byteHere_1 : decode cX3_byteHere 1 = .ok (.getfield 24, 3) := by decide +kernel
theorem dX3_byteHere_4 : decode cX3_byteHere 4 = .ok (.aload_n 0, 1) := by decide +kernel
theorem dX3_byteHere_5 : decode cX3_byteHere 5 = .ok (.getfield 20, 3) := by decide +kernel
theorem dX3_byteHere_8 : decode cX3_byteHere 8 = .ok (.if_icmp .ge 17, 3) := by decide +kernel
theorem dX3_byteHere_11 : decode cX3_byteHere 11 = .ok (.aload_n 0, 1) := by decide +kernel
theorem dX3_byteHere_12 : decode cX3_byteHere 12 = .ok (.getfield 14, 3) := by decide +kernel
theorem dX3_byteHere_15 : decode cX3_byteHere 15 = .ok (.aload_n 0, 1) := by decide +kernel
theorem dX3_byteHere_16 : decode cX3_byteHere 16 = .ok (.getfield 24, 3) := by decide +kernel
theorem dX3_byteHere_19 : decode cX3_byteHere 19 = .ok (.invokevirtual 86, 3) := by decide +kernel
theorem dX3_byteHere_22 : decode cX3_byteHere 22 = .ok (.goto 6, 3) := by decide +kernel
theorem dX3_byteHere_25 : decode cX3_byteHere 25 = .ok (.sipush 256, 3) := by decide +kernel
theorem dX3_byteHere_28 : decode cX3_byteHere 28 = .ok (.ireturn, 1) := by decide +kernel
theorem dX3_fail_0 : decode cX3_fail 0 = .ok (.aload_n 0, 1) := by decide +kernel
theorem dX3_fail_1 : decode cX3_fail 1 = .ok (.getfield 27, 3) := by decide +kernel
theorem dX3_fail_4 : decode cX3_fail 4 = .ok (.bipush (-9), 2) := by decide +kernel
theorem dX3_fail_6 : decode cX3_fail 6 = .ok (.if_icmp .ne 8, 3) := by decide +kernel
theorem dX3_fail_9 : decode cX3_fail 9 = .ok (.aload_n 0, 1) := by decide +kernel
theorem dX3_fail_10 : decode cX3_fail 10 = .ok (.iload_n 1, 1) := by decide +kernel
theorem dX3_fail_11 : decode cX3_fail 11 = .ok (.putfield 27, 3) := by decide +kernel
theorem dX3_fail_14 : decode cX3_fail 14 = .ok (.return_, 1) := by decide +kernel
theorem dX3_oneFigure_0 : decode cX3_oneFigure 0 = .ok (.aload_n 0, 1) := by decide +kernel
theorem dX3_oneFigure_1 : decode cX3_oneFigure 1 = .ok (.invokevirtual 42, 3) := by decide +kernel
theorem dX3_oneFigure_4 : decode cX3_oneFigure 4 = .ok (.bipush 48, 2) := by decide +kernel
theorem dX3_oneFigure_6 : decode cX3_oneFigure 6 = .ok (.isub, 1) := by decide +kernel
theorem dX3_oneFigure_7 : decode cX3_oneFigure 7 = .ok (.istore_n 2, 1) := by decide +kernel
theorem dX3_oneFigure_8 : decode cX3_oneFigure 8 = .ok (.iload_n 2, 1) := by decide +kernel
theorem dX3_oneFigure_9 : decode cX3_oneFigure 9 = .ok (.ifCond .lt 8, 3) := by decide +kernel
theorem dX3_oneFigure_12 : decode cX3_oneFigure 12 = .ok (.iload_n 2, 1) := by decide +kernel
theorem dX3_oneFigure_13 : decode cX3_oneFigure 13 = .ok (.iload_n 1, 1) := by decide +kernel
theorem dX3_oneFigure_14 : decode cX3_oneFigure 14 = .ok (.if_icmp .le 13, 3) := by decide +kernel
theorem dX3_oneFigure_17 : decode cX3_oneFigure 17 = .ok (.aload_n 0, 1) := by decide +kernel
theorem dX3_oneFigure_18 : decode cX3_oneFigure 18 = .ok (.aload_n 0, 1) := by decide +kernel
theorem dX3_oneFigure_19 : decode cX3_oneFigure 19 = .ok (.getfield 24, 3) := by decide +kernel
theorem dX3_oneFigure_22 : decode cX3_oneFigure 22 = .ok (.invokevirtual 76, 3) := by decide +kernel
theorem dX3_oneFigure_25 : decode cX3_oneFigure 25 = .ok (.iconst 0, 1) := by decide +kernel
theorem dX3_oneFigure_26 : decode cX3_oneFigure 26 = .ok (.ireturn, 1) := by decide +kernel
theorem dX3_oneFigure_27 : decode cX3_oneFigure 27 = .ok (.aload_n 0, 1) := by decide +kernel
theorem dX3_oneFigure_28 : decode cX3_oneFigure 28 = .ok (.dup, 1) := by decide +kernel
theorem dX3_oneFigure_29 : decode cX3_oneFigure 29 = .ok (.getfield 24, 3) := by decide +kernel
theorem dX3_oneFigure_32 : decode cX3_oneFigure 32 = .ok (.iconst 1, 1) := by decide +kernel
theorem dX3_oneFigure_33 : decode cX3_oneFigure 33 = .ok (.iadd, 1) := by decide +kernel
theorem dX3_oneFigure_34 : decode cX3_oneFigure 34 = .ok (.putfield 24, 3) := by decide +kernel
theorem dX3_oneFigure_37 : decode cX3_oneFigure 37 = .ok (.iload_n 2, 1) := by decide +kernel
theorem dX3_oneFigure_38 : decode cX3_oneFigure 38 = .ok (.ireturn, 1) := by decide +kernel
theorem dX3_twoFigures_0 : decode cX3_twoFigures 0 = .ok (.aload_n 0, 1) := by decide +kernel
theorem dX3_twoFigures_1 : decode cX3_twoFigures 1 = .ok (.getfield 24, 3) := by decide +kernel
theorem dX3_twoFigures_4 : decode cX3_twoFigures 4 = .ok (.istore_n 1, 1) := by decide +kernel
theorem dX3_twoFigures_5 : decode cX3_twoFigures 5 = .ok (.aload_n 0, 1) := by decide +kernel
theorem dX3_twoFigures_6 : decode cX3_twoFigures 6 = .ok (.bipush 9, 2) := by decide +kernel
theorem dX3_twoFigures_8 : decode cX3_twoFigures 8 = .ok (.invokevirtual 79, 3) := by decide +kernel
theorem dX3_twoFigures_11 : decode cX3_twoFigures 11 = .ok (.istore_n 2, 1) := by decide +kernel
theorem dX3_twoFigures_12 : decode cX3_twoFigures 12 = .ok (.aload_n 0, 1) := by decide +kernel
theorem dX3_twoFigures_13 : decode cX3_twoFigures 13 = .ok (.getfield 27, 3) := by decide +kernel
theorem dX3_twoFigures_16 : decode cX3_twoFigures 16 = .ok (.bipush (-9), 2) := by decide +kernel
theorem dX3_twoFigures_18 : decode cX3_twoFigures 18 = .ok (.if_icmp .eq 5, 3) := by decide +kernel
theorem dX3_twoFigures_21 : decode cX3_twoFigures 21 = .ok (.iconst 0, 1) := by decide +kernel
theorem dX3_twoFigures_22 : decode cX3_twoFigures 22 = .ok (.ireturn, 1) := by decide +kernel
theorem dX3_twoFigures_23 : decode cX3_twoFigures 23 = .ok (.bipush 10, 2) := by decide +kernel
theorem dX3_twoFigures_25 : decode cX3_twoFigures 25 = .ok (.iload_n 2, 1) := by decide +kernel
theorem dX3_twoFigures_26 : decode cX3_twoFigures 26 = .ok (.imul, 1) := by decide +kernel
theorem dX3_twoFigures_27 : decode cX3_twoFigures 27 = .ok (.aload_n 0, 1) := by decide +kernel
theorem dX3_twoFigures_28 : decode cX3_twoFigures 28 = .ok (.bipush 9, 2) := by decide +kernel
theorem dX3_twoFigures_30 : decode cX3_twoFigures 30 = .ok (.invokevirtual 79, 3) := by decide +kernel
theorem dX3_twoFigures_33 : decode cX3_twoFigures 33 = .ok (.iadd, 1) := by decide +kernel
theorem dX3_twoFigures_34 : decode cX3_twoFigures 34 = .ok (.istore_n 3, 1) := by decide +kernel
theorem dX3_twoFigures_35 : decode cX3_twoFigures 35 = .ok (.iload_n 3, 1) := by decide +kernel
theorem dX3_twoFigures_36 : decode cX3_twoFigures 36 = .ok (.bipush 63, 2) := by decide +kernel
theorem dX3_twoFigures_38 : decode cX3_twoFigures 38 = .ok (.if_icmp .le 8, 3) := by decide +kernel
theorem dX3_twoFigures_41 : decode cX3_twoFigures 41 = .ok (.aload_n 0, 1) := by decide +kernel
theorem dX3_twoFigures_42 : decode cX3_twoFigures 42 = .ok (.iload_n 1, 1) := by decide +kernel
theorem dX3_twoFigures_43 : decode cX3_twoFigures 43 = .ok (.invokevirtual 76, 3) := by decide +kernel
theorem dX3_twoFigures_46 : decode cX3_twoFigures 46 = .ok (.iload_n 3, 1) := by decide +kernel
theorem dX3_twoFigures_47 : decode cX3_twoFigures 47 = .ok (.ireturn, 1) := by decide +kernel
theorem dX3_kindOfLetter_0 : decode cX3_kindOfLetter 0 = .ok (.iload_n 0, 1) := by decide +kernel
theorem dX3_kindOfLetter_1 : decode cX3_kindOfLetter 1 = .ok (.tableswitch 95 98 114 #[83, 95, 95, 95, 95, 91, 95, 95, 95, 95, 85, 89, 95, 95, 87, 95, 93], 83) := by decide +kernel
theorem dX3_kindOfLetter_84 : decode cX3_kindOfLetter 84 = .ok (.iconst 0, 1) := by decide +kernel
theorem dX3_kindOfLetter_85 : decode cX3_kindOfLetter 85 = .ok (.ireturn, 1) := by decide +kernel
theorem dX3_kindOfLetter_86 : decode cX3_kindOfLetter 86 = .ok (.iconst 1, 1) := by decide +kernel
theorem dX3_kindOfLetter_87 : decode cX3_kindOfLetter 87 = .ok (.ireturn, 1) := by decide +kernel
theorem dX3_kindOfLetter_88 : decode cX3_kindOfLetter 88 = .ok (.iconst 2, 1) := by decide +kernel
theorem dX3_kindOfLetter_89 : decode cX3_kindOfLetter 89 = .ok (.ireturn, 1) := by decide +kernel
theorem dX3_kindOfLetter_90 : decode cX3_kindOfLetter 90 = .ok (.iconst 3, 1) := by decide +kernel
theorem dX3_kindOfLetter_91 : decode cX3_kindOfLetter 91 = .ok (.ireturn, 1) := by decide +kernel
theorem dX3_kindOfLetter_92 : decode cX3_kindOfLetter 92 = .ok (.iconst 4, 1) := by decide +kernel
theorem dX3_kindOfLetter_93 : decode cX3_kindOfLetter 93 = .ok (.ireturn, 1) := by decide +kernel
theorem dX3_kindOfLetter_94 : decode cX3_kindOfLetter 94 = .ok (.iconst 5, 1) := by decide +kernel
theorem dX3_kindOfLetter_95 : decode cX3_kindOfLetter 95 = .ok (.ireturn, 1) := by decide +kernel
theorem dX3_kindOfLetter_96 : decode cX3_kindOfLetter 96 = .ok (.bipush (-9), 2) := by decide +kernel
theorem dX3_kindOfLetter_98 : decode cX3_kindOfLetter 98 = .ok (.ireturn, 1) := by decide +kernel
theorem dX4_init_0 : decode cX4_init 0 = .ok (.aload_n 0, 1) := by decide +kernel
theorem dX4_init_1 : decode cX4_init 1 = .ok (.invokespecial 1, 3) := by decide +kernel
theorem dX4_init_4 : decode cX4_init 4 = .ok (.aload_n 0, 1) := by decide +kernel
theorem dX4_init_5 : decode cX4_init 5 = .ok (.iload_n 1, 1) := by decide +kernel
theorem dX4_init_6 : decode cX4_init 6 = .ok (.putfield 7, 3) := by decide +kernel
theorem dX4_init_9 : decode cX4_init 9 = .ok (.aload_n 0, 1) := by decide +kernel
theorem dX4_init_10 : decode cX4_init 10 = .ok (.iload_n 2, 1) := by decide +kernel
theorem dX4_init_11 : decode cX4_init 11 = .ok (.putfield 13, 3) := by decide +kernel
theorem dX4_init_14 : decode cX4_init 14 = .ok (.aload_n 0, 1) := by decide +kernel
theorem dX4_init_15 : decode cX4_init 15 = .ok (.new 16, 3) := by decide +kernel
theorem dX4_init_18 : decode cX4_init 18 = .ok (.dup, 1) := by decide +kernel
theorem dX4_init_19 : decode cX4_init 19 = .ok (.iload_n 1, 1) := by decide +kernel
theorem dX4_init_20 : decode cX4_init 20 = .ok (.invokespecial 18, 3) := by decide +kernel
theorem dX4_init_23 : decode cX4_init 23 = .ok (.putfield 21, 3) := by decide +kernel
theorem dX4_init_26 : decode cX4_init 26 = .ok (.aload_n 0, 1) := by decide +kernel
theorem dX4_init_27 : decode cX4_init 27 = .ok (.new 16, 3) := by decide +kernel
theorem dX4_init_30 : decode cX4_init 30 = .ok (.dup, 1) := by decide +kernel
theorem dX4_init_31 : decode cX4_init 31 = .ok (.iload_n 1, 1) := by decide +kernel
theorem dX4_init_32 : decode cX4_init 32 = .ok (.iload_n 2, 1) := by decide +kernel
theorem dX4_init_33 : decode cX4_init 33 = .ok (.imul, 1) := by decide +kernel
theorem dX4_init_34 : decode cX4_init 34 = .ok (.invokespecial 18, 3) := by decide +kernel
theorem dX4_init_37 : decode cX4_init 37 = .ok (.putfield 25, 3) := by decide +kernel
theorem dX4_init_40 : decode cX4_init 40 = .ok (.iconst 0, 1) := by decide +kernel
theorem dX4_init_41 : decode cX4_init 41 = .ok (.istore_n 3, 1) := by decide +kernel
theorem dX4_init_42 : decode cX4_init 42 = .ok (.iload_n 3, 1) := by decide +kernel
theorem dX4_init_43 : decode cX4_init 43 = .ok (.iload_n 1, 1) := by decide +kernel
theorem dX4_init_44 : decode cX4_init 44 = .ok (.if_icmp .ge 18, 3) := by decide +kernel
theorem dX4_init_47 : decode cX4_init 47 = .ok (.aload_n 0, 1) := by decide +kernel
theorem dX4_init_48 : decode cX4_init 48 = .ok (.getfield 21, 3) := by decide +kernel
theorem dX4_init_51 : decode cX4_init 51 = .ok (.iload_n 3, 1) := by decide +kernel
theorem dX4_init_52 : decode cX4_init 52 = .ok (.iconst (-1), 1) := by decide +kernel
theorem dX4_init_53 : decode cX4_init 53 = .ok (.invokevirtual 28, 3) := by decide +kernel
theorem dX4_init_56 : decode cX4_init 56 = .ok (.iinc 3 1, 3) := by decide +kernel
theorem dX4_init_59 : decode cX4_init 59 = .ok (.goto (-17), 3) := by decide +kernel
theorem dX4_init_62 : decode cX4_init 62 = .ok (.return_, 1) := by decide +kernel
theorem dX4_isNumber_0 : decode cX4_isNumber 0 = .ok (.iload_n 1, 1) := by decide +kernel
theorem dX4_isNumber_1 : decode cX4_isNumber 1 = .ok (.ifCond .lt 15, 3) := by decide +kernel
theorem dX4_isNumber_4 : decode cX4_isNumber 4 = .ok (.iload_n 1, 1) := by decide +kernel
theorem dX4_isNumber_5 : decode cX4_isNumber 5 = .ok (.aload_n 0, 1) := by decide +kernel
theorem dX4_isNumber_6 : decode cX4_isNumber 6 = .ok (.getfield 7, 3) := by decide +kernel
theorem dX4_isNumber_9 : decode cX4_isNumber 9 = .ok (.if_icmp .ge 7, 3) := by decide +kernel
theorem dX4_isNumber_12 : decode cX4_isNumber 12 = .ok (.iconst 1, 1) := by decide +kernel
theorem dX4_isNumber_13 : decode cX4_isNumber 13 = .ok (.goto 4, 3) := by decide +kernel
theorem dX4_isNumber_16 : decode cX4_isNumber 16 = .ok (.iconst 0, 1) := by decide +kernel
theorem dX4_isNumber_17 : decode cX4_isNumber 17 = .ok (.ireturn, 1) := by decide +kernel
theorem dX4_sizeOf_0 : decode cX4_sizeOf 0 = .ok (.aload_n 0, 1) := by decide +kernel
theorem dX4_sizeOf_1 : decode cX4_sizeOf 1 = .ok (.iload_n 1, 1) := by decide +kernel
theorem dX4_sizeOf_2 : decode cX4_sizeOf 2 = .ok (.invokevirtual 32, 3) := by decide +kernel
theorem dX4_sizeOf_5 : decode cX4_sizeOf 5 = .ok (.ifCond .eq 14, 3) := by decide +kernel
theorem dX4_sizeOf_8 : decode cX4_sizeOf 8 = .ok (.aload_n 0, 1) := by decide +kernel
theorem dX4_sizeOf_9 : decode cX4_sizeOf 9 = .ok (.getfield 21, 3) := by decide +kernel
theorem dX4_sizeOf_12 : decode cX4_sizeOf 12 = .ok (.iload_n 1, 1) := by decide +kernel
theorem dX4_sizeOf_13 : decode cX4_sizeOf 13 = .ok (.invokevirtual 36, 3) := by decide +kernel
theorem dX4_sizeOf_16 : decode cX4_sizeOf 16 = .ok (.goto 4, 3) := by decide +kernel
theorem dX4_sizeOf_19 : decode cX4_sizeOf 19 = .ok (.iconst (-1), 1) := by decide +kernel
theorem dX4_sizeOf_20 : decode cX4_sizeOf 20 = .ok (.ireturn, 1) := by decide +kernel
theorem dX4_has_0 : decode cX4_has 0 = .ok (.aload_n 0, 1) := by decide +kernel
theorem dX4_has_1 : decode cX4_has 1 = .ok (.iload_n 1, 1) := by decide +kernel
theorem dX4_has_2 : decode cX4_has 2 = .ok (.invokevirtual 40, 3) := by decide +kernel
theorem dX4_has_5 : decode cX4_has 5 = .ok (.iconst (-1), 1) := by decide +kernel
theorem dX4_has_6 : decode cX4_has 6 = .ok (.if_icmp .eq 7, 3) := by decide +kernel
theorem dX4_has_9 : decode cX4_has 9 = .ok (.iconst 1, 1) := by decide +kernel
theorem dX4_has_10 : decode cX4_has 10 = .ok (.goto 4, 3) := by decide +kernel
theorem dX4_has_13 : decode cX4_has 13 = .ok (.iconst 0, 1) := by decide +kernel
theorem dX4_has_14 : decode cX4_has 14 = .ok (.ireturn, 1) := by decide +kernel
theorem dX4_hasPlace_0 : decode cX4_hasPlace 0 = .ok (.iload_n 2, 1) := by decide +kernel
theorem dX4_hasPlace_1 : decode cX4_hasPlace 1 = .ok (.ifCond .lt 16, 3) := by decide +kernel
theorem dX4_hasPlace_4 : decode cX4_hasPlace 4 = .ok (.iload_n 2, 1) := by decide +kernel
theorem dX4_hasPlace_5 : decode cX4_hasPlace 5 = .ok (.aload_n 0, 1) := by decide +kernel
theorem dX4_hasPlace_6 : decode cX4_hasPlace 6 = .ok (.iload_n 1, 1) := by decide +kernel
theorem dX4_hasPlace_7 : decode cX4_hasPlace 7 = .ok (.invokevirtual 40, 3) := by decide +kernel
theorem dX4_hasPlace_10 : decode cX4_hasPlace 10 = .ok (.if_icmp .ge 7, 3) := by decide +kernel
theorem dX4_hasPlace_13 : decode cX4_hasPlace 13 = .ok (.iconst 1, 1) := by decide +kernel
theorem dX4_hasPlace_14 : decode cX4_hasPlace 14 = .ok (.goto 4, 3) := by decide +kernel
theorem dX4_hasPlace_17 : decode cX4_hasPlace 17 = .ok (.iconst 0, 1) := by decide +kernel
theorem dX4_hasPlace_18 : decode cX4_hasPlace 18 = .ok (.ireturn, 1) := by decide +kernel
theorem dX4_get_0 : decode cX4_get 0 = .ok (.aload_n 0, 1) := by decide +kernel
theorem dX4_get_1 : decode cX4_get 1 = .ok (.iload_n 1, 1) := by decide +kernel
theorem dX4_get_2 : decode cX4_get 2 = .ok (.iload_n 2, 1) := by decide +kernel
theorem dX4_get_3 : decode cX4_get 3 = .ok (.invokevirtual 43, 3) := by decide +kernel
theorem dX4_get_6 : decode cX4_get 6 = .ok (.ifCond .eq 21, 3) := by decide +kernel
theorem dX4_get_9 : decode cX4_get 9 = .ok (.aload_n 0, 1) := by decide +kernel
theorem dX4_get_10 : decode cX4_get 10 = .ok (.getfield 25, 3) := by decide +kernel
theorem dX4_get_13 : decode cX4_get 13 = .ok (.iload_n 1, 1) := by decide +kernel
theorem dX4_get_14 : decode cX4_get 14 = .ok (.aload_n 0, 1) := by decide +kernel
theorem dX4_get_15 : decode cX4_get 15 = .ok (.getfield 13, 3) := by decide +kernel
theorem dX4_get_18 : decode cX4_get 18 = .ok (.imul, 1) := by decide +kernel
theorem dX4_get_19 : decode cX4_get 19 = .ok (.iload_n 2, 1) := by decide +kernel
theorem dX4_get_20 : decode cX4_get 20 = .ok (.iadd, 1) := by decide +kernel
theorem dX4_get_21 : decode cX4_get 21 = .ok (.invokevirtual 36, 3) := by decide +kernel
theorem dX4_get_24 : decode cX4_get 24 = .ok (.goto 4, 3) := by decide +kernel
theorem dX4_get_27 : decode cX4_get 27 = .ok (.iconst 0, 1) := by decide +kernel
theorem dX4_get_28 : decode cX4_get 28 = .ok (.ireturn, 1) := by decide +kernel
theorem dX4_set_0 : decode cX4_set 0 = .ok (.aload_n 0, 1) := by decide +kernel
theorem dX4_set_1 : decode cX4_set 1 = .ok (.iload_n 1, 1) := by decide +kernel
theorem dX4_set_2 : decode cX4_set 2 = .ok (.iload_n 2, 1) := by decide +kernel
theorem dX4_set_3 : decode cX4_set 3 = .ok (.invokevirtual 43, 3) := by decide +kernel
theorem dX4_set_6 : decode cX4_set 6 = .ok (.ifCond .eq 19, 3) := by decide +kernel
theorem dX4_set_9 : decode cX4_set 9 = .ok (.aload_n 0, 1) := by decide +kernel
theorem dX4_set_10 : decode cX4_set 10 = .ok (.getfield 25, 3) := by decide +kernel
theorem dX4_set_13 : decode cX4_set 13 = .ok (.iload_n 1, 1) := by decide +kernel
theorem dX4_set_14 : decode cX4_set 14 = .ok (.aload_n 0, 1) := by decide +kernel
theorem dX4_set_15 : decode cX4_set 15 = .ok (.getfield 13, 3) := by decide +kernel
theorem dX4_set_18 : decode cX4_set 18 = .ok (.imul, 1) := by decide +kernel
theorem dX4_set_19 : decode cX4_set 19 = .ok (.iload_n 2, 1) := by decide +kernel
theorem dX4_set_20 : decode cX4_set 20 = .ok (.iadd, 1) := by decide +kernel
theorem dX4_set_21 : decode cX4_set 21 = .ok (.iload_n 3, 1) := by decide +kernel
theorem dX4_set_22 : decode cX4_set 22 = .ok (.invokevirtual 28, 3) := by decide +kernel
theorem dX4_set_25 : decode cX4_set 25 = .ok (.return_, 1) := by decide +kernel
theorem dX4_make_0 : decode cX4_make 0 = .ok (.aload_n 0, 1) := by decide +kernel
theorem dX4_make_1 : decode cX4_make 1 = .ok (.iload_n 1, 1) := by decide +kernel
theorem dX4_make_2 : decode cX4_make 2 = .ok (.invokevirtual 32, 3) := by decide +kernel
theorem dX4_make_5 : decode cX4_make 5 = .ok (.ifCond .eq 15, 3) := by decide +kernel
theorem dX4_make_8 : decode cX4_make 8 = .ok (.iload_n 2, 1) := by decide +kernel
theorem dX4_make_9 : decode cX4_make 9 = .ok (.ifCond .lt 11, 3) := by decide +kernel
theorem dX4_make_12 : decode cX4_make 12 = .ok (.iload_n 2, 1) := by decide +kernel
theorem dX4_make_13 : decode cX4_make 13 = .ok (.aload_n 0, 1) := by decide +kernel
theorem dX4_make_14 : decode cX4_make 14 = .ok (.getfield 13, 3) := by decide +kernel
theorem dX4_make_17 : decode cX4_make 17 = .ok (.if_icmp .le 4, 3) := by decide +kernel
theorem dX4_make_20 : decode cX4_make 20 = .ok (.return_, 1) := by decide +kernel
theorem dX4_make_21 : decode cX4_make 21 = .ok (.aload_n 0, 1) := by decide +kernel
theorem dX4_make_22 : decode cX4_make 22 = .ok (.getfield 21, 3) := by decide +kernel
theorem dX4_make_25 : decode cX4_make 25 = .ok (.iload_n 1, 1) := by decide +kernel
theorem dX4_make_26 : decode cX4_make 26 = .ok (.iload_n 2, 1) := by decide +kernel
theorem dX4_make_27 : decode cX4_make 27 = .ok (.invokevirtual 28, 3) := by decide +kernel
theorem dX4_make_30 : decode cX4_make 30 = .ok (.iconst 0, 1) := by decide +kernel
theorem dX4_make_31 : decode cX4_make 31 = .ok (.istore 4, 2) := by decide +kernel
theorem dX4_make_33 : decode cX4_make 33 = .ok (.iload 4, 2) := by decide +kernel
theorem dX4_make_35 : decode cX4_make 35 = .ok (.iload_n 2, 1) := by decide +kernel
theorem dX4_make_36 : decode cX4_make 36 = .ok (.if_icmp .ge 26, 3) := by decide +kernel
theorem dX4_make_39 : decode cX4_make 39 = .ok (.aload_n 0, 1) := by decide +kernel
theorem dX4_make_40 : decode cX4_make 40 = .ok (.getfield 25, 3) := by decide +kernel
theorem dX4_make_43 : decode cX4_make 43 = .ok (.iload_n 1, 1) := by decide +kernel
theorem dX4_make_44 : decode cX4_make 44 = .ok (.aload_n 0, 1) := by decide +kernel
theorem dX4_make_45 : decode cX4_make 45 = .ok (.getfield 13, 3) := by decide +kernel
theorem dX4_make_48 : decode cX4_make 48 = .ok (.imul, 1) := by decide +kernel
theorem dX4_make_49 : decode cX4_make 49 = .ok (.iload 4, 2) := by decide +kernel
theorem dX4_make_51 : decode cX4_make 51 = .ok (.iadd, 1) := by decide +kernel
theorem dX4_make_52 : decode cX4_make 52 = .ok (.iload_n 3, 1) := by decide +kernel
theorem dX4_make_53 : decode cX4_make 53 = .ok (.invokevirtual 28, 3) := by decide +kernel
theorem dX4_make_56 : decode cX4_make 56 = .ok (.iinc 4 1, 3) := by decide +kernel
theorem dX4_make_59 : decode cX4_make 59 = .ok (.goto (-26), 3) := by decide +kernel
theorem dX4_make_62 : decode cX4_make 62 = .ok (.return_, 1) := by decide +kernel
theorem dX4_thoseThere_0 : decode cX4_thoseThere 0 = .ok (.iconst 0, 1) := by decide +kernel
theorem dX4_thoseThere_1 : decode cX4_thoseThere 1 = .ok (.istore_n 1, 1) := by decide +kernel
theorem dX4_thoseThere_2 : decode cX4_thoseThere 2 = .ok (.iconst 0, 1) := by decide +kernel
theorem dX4_thoseThere_3 : decode cX4_thoseThere 3 = .ok (.istore_n 2, 1) := by decide +kernel
theorem dX4_thoseThere_4 : decode cX4_thoseThere 4 = .ok (.iload_n 2, 1) := by decide +kernel
theorem dX4_thoseThere_5 : decode cX4_thoseThere 5 = .ok (.aload_n 0, 1) := by decide +kernel
theorem dX4_thoseThere_6 : decode cX4_thoseThere 6 = .ok (.getfield 7, 3) := by decide +kernel
theorem dX4_thoseThere_9 : decode cX4_thoseThere 9 = .ok (.if_icmp .ge 20, 3) := by decide +kernel
theorem dX4_thoseThere_12 : decode cX4_thoseThere 12 = .ok (.aload_n 0, 1) := by decide +kernel
theorem dX4_thoseThere_13 : decode cX4_thoseThere 13 = .ok (.iload_n 2, 1) := by decide +kernel
theorem dX4_thoseThere_14 : decode cX4_thoseThere 14 = .ok (.invokevirtual 58, 3) := by decide +kernel
theorem dX4_thoseThere_17 : decode cX4_thoseThere 17 = .ok (.ifCond .eq 6, 3) := by decide +kernel
theorem dX4_thoseThere_20 : decode cX4_thoseThere 20 = .ok (.iinc 1 1, 3) := by decide +kernel
theorem dX4_thoseThere_23 : decode cX4_thoseThere 23 = .ok (.iinc 2 1, 3) := by decide +kernel
theorem dX4_thoseThere_26 : decode cX4_thoseThere 26 = .ok (.goto (-22), 3) := by decide +kernel
theorem dX4_thoseThere_29 : decode cX4_thoseThere 29 = .ok (.iload_n 1, 1) := by decide +kernel
theorem dX4_thoseThere_30 : decode cX4_thoseThere 30 = .ok (.ireturn, 1) := by decide +kernel
theorem dX4_digestFrom_0 : decode cX4_digestFrom 0 = .ok (.iconst 0, 1) := by decide +kernel
theorem dX4_digestFrom_1 : decode cX4_digestFrom 1 = .ok (.istore_n 3, 1) := by decide +kernel
theorem dX4_digestFrom_2 : decode cX4_digestFrom 2 = .ok (.iload_n 3, 1) := by decide +kernel
theorem dX4_digestFrom_3 : decode cX4_digestFrom 3 = .ok (.aload_n 0, 1) := by decide +kernel
theorem dX4_digestFrom_4 : decode cX4_digestFrom 4 = .ok (.getfield 7, 3) := by decide +kernel
theorem dX4_digestFrom_7 : decode cX4_digestFrom 7 = .ok (.if_icmp .ge 56, 3) := by decide +kernel
theorem dX4_digestFrom_10 : decode cX4_digestFrom 10 = .ok (.ldc2_w 61, 3) := by decide +kernel
theorem dX4_digestFrom_13 : decode cX4_digestFrom 13 = .ok (.lload_n 1, 1) := by decide +kernel
theorem dX4_digestFrom_14 : decode cX4_digestFrom 14 = .ok (.lmul, 1) := by decide +kernel
theorem dX4_digestFrom_15 : decode cX4_digestFrom 15 = .ok (.aload_n 0, 1) := by decide +kernel
theorem dX4_digestFrom_16 : decode cX4_digestFrom 16 = .ok (.iload_n 3, 1) := by decide +kernel
theorem dX4_digestFrom_17 : decode cX4_digestFrom 17 = .ok (.invokevirtual 40, 3) := by decide +kernel
theorem dX4_digestFrom_20 : decode cX4_digestFrom 20 = .ok (.i2l, 1) := by decide +kernel
theorem dX4_digestFrom_21 : decode cX4_digestFrom 21 = .ok (.ladd, 1) := by decide +kernel
theorem dX4_digestFrom_22 : decode cX4_digestFrom 22 = .ok (.lstore_n 1, 1) := by decide +kernel
theorem dX4_digestFrom_23 : decode cX4_digestFrom 23 = .ok (.iconst 0, 1) := by decide +kernel
theorem dX4_digestFrom_24 : decode cX4_digestFrom 24 = .ok (.istore 4, 2) := by decide +kernel
theorem dX4_digestFrom_26 : decode cX4_digestFrom 26 = .ok (.iload 4, 2) := by decide +kernel
theorem dX4_digestFrom_28 : decode cX4_digestFrom 28 = .ok (.aload_n 0, 1) := by decide +kernel
theorem dX4_digestFrom_29 : decode cX4_digestFrom 29 = .ok (.iload_n 3, 1) := by decide +kernel
theorem dX4_digestFrom_30 : decode cX4_digestFrom 30 = .ok (.invokevirtual 40, 3) := by decide +kernel
theorem dX4_digestFrom_33 : decode cX4_digestFrom 33 = .ok (.if_icmp .ge 24, 3) := by decide +kernel
theorem dX4_digestFrom_36 : decode cX4_digestFrom 36 = .ok (.ldc2_w 61, 3) := by decide +kernel
theorem dX4_digestFrom_39 : decode cX4_digestFrom 39 = .ok (.lload_n 1, 1) := by decide +kernel
theorem dX4_digestFrom_40 : decode cX4_digestFrom 40 = .ok (.lmul, 1) := by decide +kernel
theorem dX4_digestFrom_41 : decode cX4_digestFrom 41 = .ok (.aload_n 0, 1) := by decide +kernel
theorem dX4_digestFrom_42 : decode cX4_digestFrom 42 = .ok (.iload_n 3, 1) := by decide +kernel
theorem dX4_digestFrom_43 : decode cX4_digestFrom 43 = .ok (.iload 4, 2) := by decide +kernel
theorem dX4_digestFrom_45 : decode cX4_digestFrom 45 = .ok (.invokevirtual 55, 3) := by decide +kernel
theorem dX4_digestFrom_48 : decode cX4_digestFrom 48 = .ok (.i2l, 1) := by decide +kernel
theorem dX4_digestFrom_49 : decode cX4_digestFrom 49 = .ok (.ladd, 1) := by decide +kernel
theorem dX4_digestFrom_50 : decode cX4_digestFrom 50 = .ok (.lstore_n 1, 1) := by decide +kernel
theorem dX4_digestFrom_51 : decode cX4_digestFrom 51 = .ok (.iinc 4 1, 3) := by decide +kernel
theorem dX4_digestFrom_54 : decode cX4_digestFrom 54 = .ok (.goto (-28), 3) := by decide +kernel
theorem dX4_digestFrom_57 : decode cX4_digestFrom 57 = .ok (.iinc 3 1, 3) := by decide +kernel
theorem dX4_digestFrom_60 : decode cX4_digestFrom 60 = .ok (.goto (-58), 3) := by decide +kernel
theorem dX4_digestFrom_63 : decode cX4_digestFrom 63 = .ok (.lload_n 1, 1) := by decide +kernel
theorem dX4_digestFrom_64 : decode cX4_digestFrom 64 = .ok (.lreturn, 1) := by decide +kernel
theorem dX5_init_0 : decode cX5_init 0 = .ok (.aload_n 0, 1) := by decide +kernel
theorem dX5_init_1 : decode cX5_init 1 = .ok (.invokespecial 3, 3) := by decide +kernel
theorem dX5_init_4 : decode cX5_init 4 = .ok (.aload_n 0, 1) := by decide +kernel
theorem dX5_init_5 : decode cX5_init 5 = .ok (.iconst 0, 1) := by decide +kernel
theorem dX5_init_6 : decode cX5_init 6 = .ok (.putfield 9, 3) := by decide +kernel
theorem dX5_init_9 : decode cX5_init 9 = .ok (.aload_n 0, 1) := by decide +kernel
theorem dX5_init_10 : decode cX5_init 10 = .ok (.new 15, 3) := by decide +kernel
theorem dX5_init_13 : decode cX5_init 13 = .ok (.dup, 1) := by decide +kernel
theorem dX5_init_14 : decode cX5_init 14 = .ok (.bipush 6, 2) := by decide +kernel
theorem dX5_init_16 : decode cX5_init 16 = .ok (.invokespecial 17, 3) := by decide +kernel
theorem dX5_init_19 : decode cX5_init 19 = .ok (.putfield 20, 3) := by decide +kernel
theorem dX5_init_22 : decode cX5_init 22 = .ok (.aload_n 0, 1) := by decide +kernel
theorem dX5_init_23 : decode cX5_init 23 = .ok (.new 15, 3) := by decide +kernel
theorem dX5_init_26 : decode cX5_init 26 = .ok (.dup, 1) := by decide +kernel
theorem dX5_init_27 : decode cX5_init 27 = .ok (.bipush 6, 2) := by decide +kernel
theorem dX5_init_29 : decode cX5_init 29 = .ok (.invokespecial 17, 3) := by decide +kernel
theorem dX5_init_32 : decode cX5_init 32 = .ok (.putfield 24, 3) := by decide +kernel
theorem dX5_init_35 : decode cX5_init 35 = .ok (.return_, 1) := by decide +kernel
theorem dX5_hear_0 : decode cX5_hear 0 = .ok (.aload_n 0, 1) := by decide +kernel
theorem dX5_hear_1 : decode cX5_hear 1 = .ok (.aload_n 1, 1) := by decide +kernel
theorem dX5_hear_2 : decode cX5_hear 2 = .ok (.getfield 27, 3) := by decide +kernel
theorem dX5_hear_5 : decode cX5_hear 5 = .ok (.putfield 9, 3) := by decide +kernel
theorem dX5_hear_8 : decode cX5_hear 8 = .ok (.iconst 0, 1) := by decide +kernel
theorem dX5_hear_9 : decode cX5_hear 9 = .ok (.istore_n 2, 1) := by decide +kernel
theorem dX5_hear_10 : decode cX5_hear 10 = .ok (.iload_n 2, 1) := by decide +kernel
theorem dX5_hear_11 : decode cX5_hear 11 = .ok (.aload_n 0, 1) := by decide +kernel
theorem dX5_hear_12 : decode cX5_hear 12 = .ok (.getfield 9, 3) := by decide +kernel
theorem dX5_hear_15 : decode cX5_hear 15 = .ok (.if_icmp .ge 77, 3) := by decide +kernel
theorem dX5_hear_18 : decode cX5_hear 18 = .ok (.aload_n 1, 1) := by decide +kernel
theorem dX5_hear_19 : decode cX5_hear 19 = .ok (.getfield 30, 3) := by decide +kernel
theorem dX5_hear_22 : decode cX5_hear 22 = .ok (.iload_n 2, 1) := by decide +kernel
theorem dX5_hear_23 : decode cX5_hear 23 = .ok (.invokevirtual 33, 3) := by decide +kernel
theorem dX5_hear_26 : decode cX5_hear 26 = .ok (.istore_n 3, 1) := by decide +kernel
theorem dX5_hear_27 : decode cX5_hear 27 = .ok (.aload_n 1, 1) := by decide +kernel
theorem dX5_hear_28 : decode cX5_hear 28 = .ok (.getfield 37, 3) := by decide +kernel
theorem dX5_hear_31 : decode cX5_hear 31 = .ok (.iload_n 2, 1) := by decide +kernel
theorem dX5_hear_32 : decode cX5_hear 32 = .ok (.invokevirtual 33, 3) := by decide +kernel
theorem dX5_hear_35 : decode cX5_hear 35 = .ok (.istore 4, 2) := by decide +kernel
theorem dX5_hear_37 : decode cX5_hear 37 = .ok (.aload_n 1, 1) := by decide +kernel
theorem dX5_hear_38 : decode cX5_hear 38 = .ok (.iload_n 2, 1) := by decide +kernel
theorem dX5_hear_39 : decode cX5_hear 39 = .ok (.iload_n 3, 1) := by decide +kernel
theorem dX5_hear_40 : decode cX5_hear 40 = .ok (.iload 4, 2) := by decide +kernel
theorem dX5_hear_42 : decode cX5_hear 42 = .ok (.invokevirtual 40, 3) := by decide +kernel
theorem dX5_hear_45 : decode cX5_hear 45 = .ok (.istore 5, 2) := by decide +kernel
theorem dX5_hear_47 : decode cX5_hear 47 = .ok (.iload 5, 2) := by decide +kernel
theorem dX5_hear_49 : decode cX5_hear 49 = .ok (.iload_n 3, 1) := by decide +kernel
theorem dX5_hear_50 : decode cX5_hear 50 = .ok (.iload 4, 2) := by decide +kernel
theorem dX5_hear_52 : decode cX5_hear 52 = .ok (.aload_n 1, 1) := by decide +kernel
theorem dX5_hear_53 : decode cX5_hear 53 = .ok (.getfield 44, 3) := by decide +kernel
theorem dX5_hear_56 : decode cX5_hear 56 = .ok (.invokestatic 47, 3) := by decide +kernel
theorem dX5_hear_59 : decode cX5_hear 59 = .ok (.istore 6, 2) := by decide +kernel
theorem dX5_hear_61 : decode cX5_hear 61 = .ok (.aload_n 0, 1) := by decide +kernel
theorem dX5_hear_62 : decode cX5_hear 62 = .ok (.getfield 20, 3) := by decide +kernel
theorem dX5_hear_65 : decode cX5_hear 65 = .ok (.iload_n 2, 1) := by decide +kernel
theorem dX5_hear_66 : decode cX5_hear 66 = .ok (.iload 6, 2) := by decide +kernel
theorem dX5_hear_68 : decode cX5_hear 68 = .ok (.invokevirtual 51, 3) := by decide +kernel
theorem dX5_hear_71 : decode cX5_hear 71 = .ok (.aload_n 0, 1) := by decide +kernel
theorem dX5_hear_72 : decode cX5_hear 72 = .ok (.getfield 24, 3) := by decide +kernel
theorem dX5_hear_75 : decode cX5_hear 75 = .ok (.iload_n 2, 1) := by decide +kernel
theorem dX5_hear_76 : decode cX5_hear 76 = .ok (.iload 5, 2) := by decide +kernel
theorem dX5_hear_78 : decode cX5_hear 78 = .ok (.iload 6, 2) := by decide +kernel
theorem dX5_hear_80 : decode cX5_hear 80 = .ok (.iconst (-1), 1) := by decide +kernel
theorem dX5_hear_81 : decode cX5_hear 81 = .ok (.ixor, 1) := by decide +kernel
theorem dX5_hear_82 : decode cX5_hear 82 = .ok (.iand, 1) := by decide +kernel
theorem dX5_hear_83 : decode cX5_hear 83 = .ok (.invokevirtual 51, 3) := by decide +kernel
theorem dX5_hear_86 : decode cX5_hear 86 = .ok (.iinc 2 1, 3) := by decide +kernel
theorem dX5_hear_89 : decode cX5_hear 89 = .ok (.goto (-79), 3) := by decide +kernel
theorem dX5_hear_92 : decode cX5_hear 92 = .ok (.return_, 1) := by decide +kernel
theorem dX5_toldBy_0 : decode cX5_toldBy 0 = .ok (.iconst 0, 1) := by decide +kernel
theorem dX5_toldBy_1 : decode cX5_toldBy 1 = .ok (.istore_n 2, 1) := by decide +kernel
theorem dX5_toldBy_2 : decode cX5_toldBy 2 = .ok (.iconst 0, 1) := by decide +kernel
theorem dX5_toldBy_3 : decode cX5_toldBy 3 = .ok (.istore_n 3, 1) := by decide +kernel
theorem dX5_toldBy_4 : decode cX5_toldBy 4 = .ok (.iload_n 3, 1) := by decide +kernel
theorem dX5_toldBy_5 : decode cX5_toldBy 5 = .ok (.aload_n 0, 1) := by decide +kernel
theorem dX5_toldBy_6 : decode cX5_toldBy 6 = .ok (.getfield 9, 3) := by decide +kernel
theorem dX5_toldBy_9 : decode cX5_toldBy 9 = .ok (.if_icmp .ge 37, 3) := by decide +kernel
theorem dX5_toldBy_12 : decode cX5_toldBy 12 = .ok (.iload_n 1, 1) := by decide +kernel
theorem dX5_toldBy_13 : decode cX5_toldBy 13 = .ok (.iload_n 3, 1) := by decide +kernel
theorem dX5_toldBy_14 : decode cX5_toldBy 14 = .ok (.invokestatic 55, 3) := by decide +kernel
theorem dX5_toldBy_17 : decode cX5_toldBy 17 = .ok (.ifCond .eq 23, 3) := by decide +kernel
theorem dX5_toldBy_20 : decode cX5_toldBy 20 = .ok (.iload_n 2, 1) := by decide +kernel
theorem dX5_toldBy_21 : decode cX5_toldBy 21 = .ok (.aload_n 0, 1) := by decide +kernel
theorem dX5_toldBy_22 : decode cX5_toldBy 22 = .ok (.getfield 20, 3) := by decide +kernel
theorem dX5_toldBy_25 : decode cX5_toldBy 25 = .ok (.iload_n 3, 1) := by decide +kernel
theorem dX5_toldBy_26 : decode cX5_toldBy 26 = .ok (.invokevirtual 33, 3) := by decide +kernel
theorem dX5_toldBy_29 : decode cX5_toldBy 29 = .ok (.aload_n 0, 1) := by decide +kernel
theorem dX5_toldBy_30 : decode cX5_toldBy 30 = .ok (.getfield 24, 3) := by decide +kernel
theorem dX5_toldBy_33 : decode cX5_toldBy 33 = .ok (.iload_n 3, 1) := by decide +kernel
theorem dX5_toldBy_34 : decode cX5_toldBy 34 = .ok (.invokevirtual 33, 3) := by decide +kernel
theorem dX5_toldBy_37 : decode cX5_toldBy 37 = .ok (.ior, 1) := by decide +kernel
theorem dX5_toldBy_38 : decode cX5_toldBy 38 = .ok (.ior, 1) := by decide +kernel
theorem dX5_toldBy_39 : decode cX5_toldBy 39 = .ok (.istore_n 2, 1) := by decide +kernel
theorem dX5_toldBy_40 : decode cX5_toldBy 40 = .ok (.iinc 3 1, 3) := by decide +kernel
theorem dX5_toldBy_43 : decode cX5_toldBy 43 = .ok (.goto (-39), 3) := by decide +kernel
theorem dX5_toldBy_46 : decode cX5_toldBy 46 = .ok (.iload_n 2, 1) := by decide +kernel
theorem dX5_toldBy_47 : decode cX5_toldBy 47 = .ok (.ireturn, 1) := by decide +kernel
theorem dX5_balance_0 : decode cX5_balance 0 = .ok (.iconst 0, 1) := by decide +kernel
theorem dX5_balance_1 : decode cX5_balance 1 = .ok (.istore_n 3, 1) := by decide +kernel
theorem dX5_balance_2 : decode cX5_balance 2 = .ok (.iconst 0, 1) := by decide +kernel
theorem dX5_balance_3 : decode cX5_balance 3 = .ok (.istore 4, 2) := by decide +kernel
theorem dX5_balance_5 : decode cX5_balance 5 = .ok (.iload 4, 2) := by decide +kernel
theorem dX5_balance_7 : decode cX5_balance 7 = .ok (.aload_n 0, 1) := by decide +kernel
theorem dX5_balance_8 : decode cX5_balance 8 = .ok (.getfield 9, 3) := by decide +kernel
theorem dX5_balance_11 : decode cX5_balance 11 = .ok (.if_icmp .ge 59, 3) := by decide +kernel
theorem dX5_balance_14 : decode cX5_balance 14 = .ok (.iload_n 1, 1) := by decide +kernel
theorem dX5_balance_15 : decode cX5_balance 15 = .ok (.iload 4, 2) := by decide +kernel
theorem dX5_balance_17 : decode cX5_balance 17 = .ok (.invokestatic 55, 3) := by decide +kernel
theorem dX5_balance_20 : decode cX5_balance 20 = .ok (.ifCond .ne 6, 3) := by decide +kernel
theorem dX5_balance_23 : decode cX5_balance 23 = .ok (.goto 41, 3) := by decide +kernel
theorem dX5_balance_26 : decode cX5_balance 26 = .ok (.aload_n 0, 1) := by decide +kernel
theorem dX5_balance_27 : decode cX5_balance 27 = .ok (.getfield 20, 3) := by decide +kernel
theorem dX5_balance_30 : decode cX5_balance 30 = .ok (.iload 4, 2) := by decide +kernel
theorem dX5_balance_32 : decode cX5_balance 32 = .ok (.invokevirtual 33, 3) := by decide +kernel
theorem dX5_balance_35 : decode cX5_balance 35 = .ok (.iload_n 2, 1) := by decide +kernel
theorem dX5_balance_36 : decode cX5_balance 36 = .ok (.invokestatic 55, 3) := by decide +kernel
theorem dX5_balance_39 : decode cX5_balance 39 = .ok (.ifCond .eq 6, 3) := by decide +kernel
theorem dX5_balance_42 : decode cX5_balance 42 = .ok (.iinc 3 1, 3) := by decide +kernel
theorem dX5_balance_45 : decode cX5_balance 45 = .ok (.aload_n 0, 1) := by decide +kernel
theorem dX5_balance_46 : decode cX5_balance 46 = .ok (.getfield 24, 3) := by decide +kernel
theorem dX5_balance_49 : decode cX5_balance 49 = .ok (.iload 4, 2) := by decide +kernel
theorem dX5_balance_51 : decode cX5_balance 51 = .ok (.invokevirtual 33, 3) := by decide +kernel
theorem dX5_balance_54 : decode cX5_balance 54 = .ok (.iload_n 2, 1) := by decide +kernel
theorem dX5_balance_55 : decode cX5_balance 55 = .ok (.invokestatic 55, 3) := by decide +kernel
theorem dX5_balance_58 : decode cX5_balance 58 = .ok (.ifCond .eq 6, 3) := by decide +kernel
theorem dX5_balance_61 : decode cX5_balance 61 = .ok (.iinc 3 (-1), 3) := by decide +kernel
theorem dX5_balance_64 : decode cX5_balance 64 = .ok (.iinc 4 1, 3) := by decide +kernel
theorem dX5_balance_67 : decode cX5_balance 67 = .ok (.goto (-62), 3) := by decide +kernel
theorem dX5_balance_70 : decode cX5_balance 70 = .ok (.iload_n 3, 1) := by decide +kernel
theorem dX5_balance_71 : decode cX5_balance 71 = .ok (.ireturn, 1) := by decide +kernel
theorem dX5_shownBy_0 : decode cX5_shownBy 0 = .ok (.iconst 0, 1) := by decide +kernel
theorem dX5_shownBy_1 : decode cX5_shownBy 1 = .ok (.istore_n 2, 1) := by decide +kernel
theorem dX5_shownBy_2 : decode cX5_shownBy 2 = .ok (.iconst 0, 1) := by decide +kernel
theorem dX5_shownBy_3 : decode cX5_shownBy 3 = .ok (.istore_n 3, 1) := by decide +kernel
theorem dX5_shownBy_4 : decode cX5_shownBy 4 = .ok (.iload_n 3, 1) := by decide +kernel
theorem dX5_shownBy_5 : decode cX5_shownBy 5 = .ok (.bipush 6, 2) := by decide +kernel
theorem dX5_shownBy_7 : decode cX5_shownBy 7 = .ok (.if_icmp .ge 24, 3) := by decide +kernel
theorem dX5_shownBy_10 : decode cX5_shownBy 10 = .ok (.aload_n 0, 1) := by decide +kernel
theorem dX5_shownBy_11 : decode cX5_shownBy 11 = .ok (.iload_n 1, 1) := by decide +kernel
theorem dX5_shownBy_12 : decode cX5_shownBy 12 = .ok (.iload_n 3, 1) := by decide +kernel
theorem dX5_shownBy_13 : decode cX5_shownBy 13 = .ok (.invokevirtual 59, 3) := by decide +kernel
theorem dX5_shownBy_16 : decode cX5_shownBy 16 = .ok (.ifCond .le 9, 3) := by decide +kernel
theorem dX5_shownBy_19 : decode cX5_shownBy 19 = .ok (.iload_n 2, 1) := by decide +kernel
theorem dX5_shownBy_20 : decode cX5_shownBy 20 = .ok (.iconst 1, 1) := by decide +kernel
theorem dX5_shownBy_21 : decode cX5_shownBy 21 = .ok (.iload_n 3, 1) := by decide +kernel
theorem dX5_shownBy_22 : decode cX5_shownBy 22 = .ok (.ishl, 1) := by decide +kernel
theorem dX5_shownBy_23 : decode cX5_shownBy 23 = .ok (.ior, 1) := by decide +kernel
theorem dX5_shownBy_24 : decode cX5_shownBy 24 = .ok (.istore_n 2, 1) := by decide +kernel
theorem dX5_shownBy_25 : decode cX5_shownBy 25 = .ok (.iinc 3 1, 3) := by decide +kernel
theorem dX5_shownBy_28 : decode cX5_shownBy 28 = .ok (.goto (-24), 3) := by decide +kernel
theorem dX5_shownBy_31 : decode cX5_shownBy 31 = .ok (.iload_n 2, 1) := by decide +kernel
theorem dX5_shownBy_32 : decode cX5_shownBy 32 = .ok (.ireturn, 1) := by decide +kernel
theorem dX5_tiedBy_0 : decode cX5_tiedBy 0 = .ok (.iconst 0, 1) := by decide +kernel
theorem dX5_tiedBy_1 : decode cX5_tiedBy 1 = .ok (.istore_n 2, 1) := by decide +kernel
theorem dX5_tiedBy_2 : decode cX5_tiedBy 2 = .ok (.iconst 0, 1) := by decide +kernel
theorem dX5_tiedBy_3 : decode cX5_tiedBy 3 = .ok (.istore_n 3, 1) := by decide +kernel
theorem dX5_tiedBy_4 : decode cX5_tiedBy 4 = .ok (.iload_n 3, 1) := by decide +kernel
theorem dX5_tiedBy_5 : decode cX5_tiedBy 5 = .ok (.bipush 6, 2) := by decide +kernel
theorem dX5_tiedBy_7 : decode cX5_tiedBy 7 = .ok (.if_icmp .ge 24, 3) := by decide +kernel
theorem dX5_tiedBy_10 : decode cX5_tiedBy 10 = .ok (.aload_n 0, 1) := by decide +kernel
theorem dX5_tiedBy_11 : decode cX5_tiedBy 11 = .ok (.iload_n 1, 1) := by decide +kernel
theorem dX5_tiedBy_12 : decode cX5_tiedBy 12 = .ok (.iload_n 3, 1) := by decide +kernel
theorem dX5_tiedBy_13 : decode cX5_tiedBy 13 = .ok (.invokevirtual 59, 3) := by decide +kernel
theorem dX5_tiedBy_16 : decode cX5_tiedBy 16 = .ok (.ifCond .ne 9, 3) := by decide +kernel
theorem dX5_tiedBy_19 : decode cX5_tiedBy 19 = .ok (.iload_n 2, 1) := by decide +kernel
theorem dX5_tiedBy_20 : decode cX5_tiedBy 20 = .ok (.iconst 1, 1) := by decide +kernel
theorem dX5_tiedBy_21 : decode cX5_tiedBy 21 = .ok (.iload_n 3, 1) := by decide +kernel
theorem dX5_tiedBy_22 : decode cX5_tiedBy 22 = .ok (.ishl, 1) := by decide +kernel
theorem dX5_tiedBy_23 : decode cX5_tiedBy 23 = .ok (.ior, 1) := by decide +kernel
theorem dX5_tiedBy_24 : decode cX5_tiedBy 24 = .ok (.istore_n 2, 1) := by decide +kernel
theorem dX5_tiedBy_25 : decode cX5_tiedBy 25 = .ok (.iinc 3 1, 3) := by decide +kernel
theorem dX5_tiedBy_28 : decode cX5_tiedBy 28 = .ok (.goto (-24), 3) := by decide +kernel
theorem dX5_tiedBy_31 : decode cX5_tiedBy 31 = .ok (.iload_n 2, 1) := by decide +kernel
theorem dX5_tiedBy_32 : decode cX5_tiedBy 32 = .ok (.aload_n 0, 1) := by decide +kernel
theorem dX5_tiedBy_33 : decode cX5_tiedBy 33 = .ok (.iload_n 1, 1) := by decide +kernel
theorem dX5_tiedBy_34 : decode cX5_tiedBy 34 = .ok (.invokevirtual 63, 3) := by decide +kernel
theorem dX5_tiedBy_37 : decode cX5_tiedBy 37 = .ok (.iand, 1) := by decide +kernel
theorem dX5_tiedBy_38 : decode cX5_tiedBy 38 = .ok (.ireturn, 1) := by decide +kernel
theorem dX5_clash_0 : decode cX5_clash 0 = .ok (.aload_n 0, 1) := by decide +kernel
theorem dX5_clash_1 : decode cX5_clash 1 = .ok (.getfield 20, 3) := by decide +kernel
theorem dX5_clash_4 : decode cX5_clash 4 = .ok (.iload_n 1, 1) := by decide +kernel
theorem dX5_clash_5 : decode cX5_clash 5 = .ok (.invokevirtual 33, 3) := by decide +kernel
theorem dX5_clash_8 : decode cX5_clash 8 = .ok (.aload_n 0, 1) := by decide +kernel
theorem dX5_clash_9 : decode cX5_clash 9 = .ok (.getfield 24, 3) := by decide +kernel
theorem dX5_clash_12 : decode cX5_clash 12 = .ok (.iload_n 2, 1) := by decide +kernel
theorem dX5_clash_13 : decode cX5_clash 13 = .ok (.invokevirtual 33, 3) := by decide +kernel
theorem dX5_clash_16 : decode cX5_clash 16 = .ok (.iand, 1) := by decide +kernel
theorem dX5_clash_17 : decode cX5_clash 17 = .ok (.aload_n 0, 1) := by decide +kernel
theorem dX5_clash_18 : decode cX5_clash 18 = .ok (.getfield 24, 3) := by decide +kernel
theorem dX5_clash_21 : decode cX5_clash 21 = .ok (.iload_n 1, 1) := by decide +kernel
theorem dX5_clash_22 : decode cX5_clash 22 = .ok (.invokevirtual 33, 3) := by decide +kernel
theorem dX5_clash_25 : decode cX5_clash 25 = .ok (.aload_n 0, 1) := by decide +kernel
theorem dX5_clash_26 : decode cX5_clash 26 = .ok (.getfield 20, 3) := by decide +kernel
theorem dX5_clash_29 : decode cX5_clash 29 = .ok (.iload_n 2, 1) := by decide +kernel
theorem dX5_clash_30 : decode cX5_clash 30 = .ok (.invokevirtual 33, 3) := by decide +kernel
theorem dX5_clash_33 : decode cX5_clash 33 = .ok (.iand, 1) := by decide +kernel
theorem dX5_clash_34 : decode cX5_clash 34 = .ok (.ior, 1) := by decide +kernel
theorem dX5_clash_35 : decode cX5_clash 35 = .ok (.ireturn, 1) := by decide +kernel
theorem dX5_hasRivals_0 : decode cX5_hasRivals 0 = .ok (.iconst 0, 1) := by decide +kernel
theorem dX5_hasRivals_1 : decode cX5_hasRivals 1 = .ok (.istore_n 2, 1) := by decide +kernel
theorem dX5_hasRivals_2 : decode cX5_hasRivals 2 = .ok (.iconst 0, 1) := by decide +kernel
theorem dX5_hasRivals_3 : decode cX5_hasRivals 3 = .ok (.istore_n 3, 1) := by decide +kernel
theorem dX5_hasRivals_4 : decode cX5_hasRivals 4 = .ok (.iconst 0, 1) := by decide +kernel
theorem dX5_hasRivals_5 : decode cX5_hasRivals 5 = .ok (.istore 4, 2) := by decide +kernel
theorem dX5_hasRivals_7 : decode cX5_hasRivals 7 = .ok (.iload 4, 2) := by decide +kernel
theorem dX5_hasRivals_9 : decode cX5_hasRivals 9 = .ok (.aload_n 0, 1) := by decide +kernel
theorem dX5_hasRivals_10 : decode cX5_hasRivals 10 = .ok (.getfield 9, 3) := by decide +kernel
theorem dX5_hasRivals_13 : decode cX5_hasRivals 13 = .ok (.if_icmp .ge 45, 3) := by decide +kernel
theorem dX5_hasRivals_16 : decode cX5_hasRivals 16 = .ok (.iload_n 1, 1) := by decide +kernel
theorem dX5_hasRivals_17 : decode cX5_hasRivals 17 = .ok (.iload 4, 2) := by decide +kernel
theorem dX5_hasRivals_19 : decode cX5_hasRivals 19 = .ok (.invokestatic 55, 3) := by decide +kernel
theorem dX5_hasRivals_22 : decode cX5_hasRivals 22 = .ok (.ifCond .ne 6, 3) := by decide +kernel
theorem dX5_hasRivals_25 : decode cX5_hasRivals 25 = .ok (.goto 27, 3) := by decide +kernel
theorem dX5_hasRivals_28 : decode cX5_hasRivals 28 = .ok (.iload_n 2, 1) := by decide +kernel
theorem dX5_hasRivals_29 : decode cX5_hasRivals 29 = .ok (.aload_n 0, 1) := by decide +kernel
theorem dX5_hasRivals_30 : decode cX5_hasRivals 30 = .ok (.getfield 20, 3) := by decide +kernel
theorem dX5_hasRivals_33 : decode cX5_hasRivals 33 = .ok (.iload 4, 2) := by decide +kernel
theorem dX5_hasRivals_35 : decode cX5_hasRivals 35 = .ok (.invokevirtual 33, 3) := by decide +kernel
theorem dX5_hasRivals_38 : decode cX5_hasRivals 38 = .ok (.ior, 1) := by decide +kernel
theorem dX5_hasRivals_39 : decode cX5_hasRivals 39 = .ok (.istore_n 2, 1) := by decide +kernel
theorem dX5_hasRivals_40 : decode cX5_hasRivals 40 = .ok (.iload_n 3, 1) := by decide +kernel
theorem dX5_hasRivals_41 : decode cX5_hasRivals 41 = .ok (.aload_n 0, 1) := by decide +kernel
theorem dX5_hasRivals_42 : decode cX5_hasRivals 42 = .ok (.getfield 24, 3) := by decide +kernel
theorem dX5_hasRivals_45 : decode cX5_hasRivals 45 = .ok (.iload 4, 2) := by decide +kernel
theorem dX5_hasRivals_47 : decode cX5_hasRivals 47 = .ok (.invokevirtual 33, 3) := by decide +kernel
theorem dX5_hasRivals_50 : decode cX5_hasRivals 50 = .ok (.ior, 1) := by decide +kernel
theorem dX5_hasRivals_51 : decode cX5_hasRivals 51 = .ok (.istore_n 3, 1) := by decide +kernel
theorem dX5_hasRivals_52 : decode cX5_hasRivals 52 = .ok (.iinc 4 1, 3) := by decide +kernel
theorem dX5_hasRivals_55 : decode cX5_hasRivals 55 = .ok (.goto (-48), 3) := by decide +kernel
theorem dX5_hasRivals_58 : decode cX5_hasRivals 58 = .ok (.iload_n 2, 1) := by decide +kernel
theorem dX5_hasRivals_59 : decode cX5_hasRivals 59 = .ok (.iload_n 3, 1) := by decide +kernel
theorem dX5_hasRivals_60 : decode cX5_hasRivals 60 = .ok (.iand, 1) := by decide +kernel
theorem dX5_hasRivals_61 : decode cX5_hasRivals 61 = .ok (.ifCond .eq 7, 3) := by decide +kernel
theorem dX5_hasRivals_64 : decode cX5_hasRivals 64 = .ok (.iconst 1, 1) := by decide +kernel
theorem dX5_hasRivals_65 : decode cX5_hasRivals 65 = .ok (.goto 4, 3) := by decide +kernel
theorem dX5_hasRivals_68 : decode cX5_hasRivals 68 = .ok (.iconst 0, 1) := by decide +kernel
theorem dX5_hasRivals_69 : decode cX5_hasRivals 69 = .ok (.ireturn, 1) := by decide +kernel
theorem dX6_init_0 : decode cX6_init 0 = .ok (.aload_n 0, 1) := by decide +kernel
theorem dX6_init_1 : decode cX6_init 1 = .ok (.invokespecial 3, 3) := by decide +kernel
theorem dX6_init_4 : decode cX6_init 4 = .ok (.aload_n 0, 1) := by decide +kernel
theorem dX6_init_5 : decode cX6_init 5 = .ok (.iconst 0, 1) := by decide +kernel
theorem dX6_init_6 : decode cX6_init 6 = .ok (.putfield 9, 3) := by decide +kernel
theorem dX6_init_9 : decode cX6_init 9 = .ok (.aload_n 0, 1) := by decide +kernel
theorem dX6_init_10 : decode cX6_init 10 = .ok (.iconst 0, 1) := by decide +kernel
theorem dX6_init_11 : decode cX6_init 11 = .ok (.putfield 15, 3) := by decide +kernel
theorem dX6_init_14 : decode cX6_init 14 = .ok (.aload_n 0, 1) := by decide +kernel
theorem dX6_init_15 : decode cX6_init 15 = .ok (.iconst 0, 1) := by decide +kernel
theorem dX6_init_16 : decode cX6_init 16 = .ok (.putfield 18, 3) := by decide +kernel
theorem dX6_init_19 : decode cX6_init 19 = .ok (.aload_n 0, 1) := by decide +kernel
theorem dX6_init_20 : decode cX6_init 20 = .ok (.new 21, 3) := by decide +kernel
theorem dX6_init_23 : decode cX6_init 23 = .ok (.dup, 1) := by decide +kernel
theorem dX6_init_24 : decode cX6_init 24 = .ok (.bipush 6, 2) := by decide +kernel
theorem dX6_init_26 : decode cX6_init 26 = .ok (.invokespecial 23, 3) := by decide +kernel
theorem dX6_init_29 : decode cX6_init 29 = .ok (.putfield 26, 3) := by decide +kernel
theorem dX6_init_32 : decode cX6_init 32 = .ok (.aload_n 0, 1) := by decide +kernel
theorem dX6_init_33 : decode cX6_init 33 = .ok (.new 21, 3) := by decide +kernel
theorem dX6_init_36 : decode cX6_init 36 = .ok (.dup, 1) := by decide +kernel
theorem dX6_init_37 : decode cX6_init 37 = .ok (.bipush 60, 2) := by decide +kernel
theorem dX6_init_39 : decode cX6_init 39 = .ok (.invokespecial 23, 3) := by decide +kernel
theorem dX6_init_42 : decode cX6_init 42 = .ok (.putfield 30, 3) := by decide +kernel
theorem dX6_init_45 : decode cX6_init 45 = .ok (.aload_n 0, 1) := by decide +kernel
theorem dX6_init_46 : decode cX6_init 46 = .ok (.new 21, 3) := by decide +kernel
theorem dX6_init_49 : decode cX6_init 49 = .ok (.dup, 1) := by decide +kernel
theorem dX6_init_50 : decode cX6_init 50 = .ok (.iconst 4, 1) := by decide +kernel
theorem dX6_init_51 : decode cX6_init 51 = .ok (.invokespecial 23, 3) := by decide +kernel
theorem dX6_init_54 : decode cX6_init 54 = .ok (.putfield 33, 3) := by decide +kernel
theorem dX6_init_57 : decode cX6_init 57 = .ok (.return_, 1) := by decide +kernel
theorem dX6_open_0 : decode cX6_open 0 = .ok (.aload_n 0, 1) := by decide +kernel
theorem dX6_open_1 : decode cX6_open 1 = .ok (.aload_n 1, 1) := by decide +kernel
theorem dX6_open_2 : decode cX6_open 2 = .ok (.getfield 36, 3) := by decide +kernel
theorem dX6_open_5 : decode cX6_open 5 = .ok (.putfield 9, 3) := by decide +kernel
theorem dX6_open_8 : decode cX6_open 8 = .ok (.aload_n 0, 1) := by decide +kernel
theorem dX6_open_9 : decode cX6_open 9 = .ok (.iload_n 3, 1) := by decide +kernel
theorem dX6_open_10 : decode cX6_open 10 = .ok (.putfield 15, 3) := by decide +kernel
theorem dX6_open_13 : decode cX6_open 13 = .ok (.aload_n 0, 1) := by decide +kernel
theorem dX6_open_14 : decode cX6_open 14 = .ok (.iconst 0, 1) := by decide +kernel
theorem dX6_open_15 : decode cX6_open 15 = .ok (.putfield 18, 3) := by decide +kernel
theorem dX6_open_18 : decode cX6_open 18 = .ok (.iconst 0, 1) := by decide +kernel
theorem dX6_open_19 : decode cX6_open 19 = .ok (.istore 4, 2) := by decide +kernel
theorem dX6_open_21 : decode cX6_open 21 = .ok (.iload 4, 2) := by decide +kernel
theorem dX6_open_23 : decode cX6_open 23 = .ok (.aload_n 0, 1) := by decide +kernel
theorem dX6_open_24 : decode cX6_open 24 = .ok (.getfield 9, 3) := by decide +kernel
theorem dX6_open_27 : decode cX6_open 27 = .ok (.if_icmp .ge 95, 3) := by decide +kernel
theorem dX6_open_30 : decode cX6_open 30 = .ok (.aload_n 0, 1) := by decide +kernel
theorem dX6_open_31 : decode cX6_open 31 = .ok (.getfield 26, 3) := by decide +kernel
theorem dX6_open_34 : decode cX6_open 34 = .ok (.iload 4, 2) := by decide +kernel
theorem dX6_open_36 : decode cX6_open 36 = .ok (.aload_n 1, 1) := by decide +kernel
theorem dX6_open_37 : decode cX6_open 37 = .ok (.getfield 39, 3) := by decide +kernel
theorem dX6_open_40 : decode cX6_open 40 = .ok (.iload 4, 2) := by decide +kernel
theorem dX6_open_42 : decode cX6_open 42 = .ok (.invokevirtual 40, 3) := by decide +kernel
theorem dX6_open_45 : decode cX6_open 45 = .ok (.invokevirtual 44, 3) := by decide +kernel
theorem dX6_open_48 : decode cX6_open 48 = .ok (.iconst 0, 1) := by decide +kernel
theorem dX6_open_49 : decode cX6_open 49 = .ok (.istore 5, 2) := by decide +kernel
theorem dX6_open_51 : decode cX6_open 51 = .ok (.iload 5, 2) := by decide +kernel
theorem dX6_open_53 : decode cX6_open 53 = .ok (.bipush 10, 2) := by decide +kernel
theorem dX6_open_55 : decode cX6_open 55 = .ok (.if_icmp .ge 46, 3) := by decide +kernel
theorem dX6_open_58 : decode cX6_open 58 = .ok (.aload_n 0, 1) := by decide +kernel
theorem dX6_open_59 : decode cX6_open 59 = .ok (.getfield 30, 3) := by decide +kernel
theorem dX6_open_62 : decode cX6_open 62 = .ok (.iload 4, 2) := by decide +kernel
theorem dX6_open_64 : decode cX6_open 64 = .ok (.bipush 10, 2) := by decide +kernel
theorem dX6_open_66 : decode cX6_open 66 = .ok (.imul, 1) := by decide +kernel
theorem dX6_open_67 : decode cX6_open 67 = .ok (.iload 5, 2) := by decide +kernel
theorem dX6_open_69 : decode cX6_open 69 = .ok (.iadd, 1) := by decide +kernel
theorem dX6_open_70 : decode cX6_open 70 = .ok (.iload_n 3, 1) := by decide +kernel
theorem dX6_open_71 : decode cX6_open 71 = .ok (.iload 4, 2) := by decide +kernel
theorem dX6_open_73 : decode cX6_open 73 = .ok (.invokestatic 48, 3) := by decide +kernel
theorem dX6_open_76 : decode cX6_open 76 = .ok (.ifCond .eq 15, 3) := by decide +kernel
theorem dX6_open_79 : decode cX6_open 79 = .ok (.aload_n 1, 1) := by decide +kernel
theorem dX6_open_80 : decode cX6_open 80 = .ok (.iload 4, 2) := by decide +kernel
theorem dX6_open_82 : decode cX6_open 82 = .ok (.iload 5, 2) := by decide +kernel
theorem dX6_open_84 : decode cX6_open 84 = .ok (.iload_n 2, 1) := by decide +kernel
theorem dX6_open_85 : decode cX6_open 85 = .ok (.invokestatic 52, 3) := by decide +kernel
theorem dX6_open_88 : decode cX6_open 88 = .ok (.goto 4, 3) := by decide +kernel
theorem dX6_open_91 : decode cX6_open 91 = .ok (.iconst 0, 1) := by decide +kernel
theorem dX6_open_92 : decode cX6_open 92 = .ok (.invokevirtual 44, 3) := by decide +kernel
theorem dX6_open_95 : decode cX6_open 95 = .ok (.iinc 5 1, 3) := by decide +kernel
theorem dX6_open_98 : decode cX6_open 98 = .ok (.goto (-47), 3) := by decide +kernel
theorem dX6_open_101 : decode cX6_open 101 = .ok (.aload_n 0, 1) := by decide +kernel
theorem dX6_open_102 : decode cX6_open 102 = .ok (.dup, 1) := by decide +kernel
theorem dX6_open_103 : decode cX6_open 103 = .ok (.getfield 18, 3) := by decide +kernel
theorem dX6_open_106 : decode cX6_open 106 = .ok (.aload_n 0, 1) := by decide +kernel
theorem dX6_open_107 : decode cX6_open 107 = .ok (.iload 4, 2) := by decide +kernel
theorem dX6_open_109 : decode cX6_open 109 = .ok (.invokevirtual 56, 3) := by decide +kernel
theorem dX6_open_112 : decode cX6_open 112 = .ok (.iadd, 1) := by decide +kernel
theorem dX6_open_113 : decode cX6_open 113 = .ok (.putfield 18, 3) := by decide +kernel
theorem dX6_open_116 : decode cX6_open 116 = .ok (.iinc 4 1, 3) := by decide +kernel
theorem dX6_open_119 : decode cX6_open 119 = .ok (.goto (-98), 3) := by decide +kernel
theorem dX6_open_122 : decode cX6_open 122 = .ok (.return_, 1) := by decide +kernel
theorem dX6_worthIf_0 : decode cX6_worthIf 0 = .ok (.aload_n 0, 1) := by decide +kernel
theorem dX6_worthIf_1 : decode cX6_worthIf 1 = .ok (.getfield 59, 3) := by decide +kernel
theorem dX6_worthIf_4 : decode cX6_worthIf 4 = .ok (.iload_n 1, 1) := by decide +kernel
theorem dX6_worthIf_5 : decode cX6_worthIf 5 = .ok (.invokevirtual 40, 3) := by decide +kernel
theorem dX6_worthIf_8 : decode cX6_worthIf 8 = .ok (.istore 4, 2) := by decide +kernel
theorem dX6_worthIf_10 : decode cX6_worthIf 10 = .ok (.aload_n 0, 1) := by decide +kernel
theorem dX6_worthIf_11 : decode cX6_worthIf 11 = .ok (.iload_n 1, 1) := by decide +kernel
theorem dX6_worthIf_12 : decode cX6_worthIf 12 = .ok (.iload 4, 2) := by decide +kernel
theorem dX6_worthIf_14 : decode cX6_worthIf 14 = .ok (.iload_n 2, 1) := by decide +kernel
theorem dX6_worthIf_15 : decode cX6_worthIf 15 = .ok (.invokevirtual 62, 3) := by decide +kernel
theorem dX6_worthIf_18 : decode cX6_worthIf 18 = .ok (.istore 5, 2) := by decide +kernel
theorem dX6_worthIf_20 : decode cX6_worthIf 20 = .ok (.iload 5, 2) := by decide +kernel
theorem dX6_worthIf_22 : decode cX6_worthIf 22 = .ok (.iload_n 3, 1) := by decide +kernel
theorem dX6_worthIf_23 : decode cX6_worthIf 23 = .ok (.invokestatic 48, 3) := by decide +kernel
theorem dX6_worthIf_26 : decode cX6_worthIf 26 = .ok (.ifCond .ne 5, 3) := by decide +kernel
theorem dX6_worthIf_29 : decode cX6_worthIf 29 = .ok (.iconst 0, 1) := by decide +kernel
theorem dX6_worthIf_30 : decode cX6_worthIf 30 = .ok (.ireturn, 1) := by decide +kernel
theorem dX6_worthIf_31 : decode cX6_worthIf 31 = .ok (.iload 5, 2) := by decide +kernel
theorem dX6_worthIf_33 : decode cX6_worthIf 33 = .ok (.iload 4, 2) := by decide +kernel
theorem dX6_worthIf_35 : decode cX6_worthIf 35 = .ok (.iload_n 2, 1) := by decide +kernel
theorem dX6_worthIf_36 : decode cX6_worthIf 36 = .ok (.aload_n 0, 1) := by decide +kernel
theorem dX6_worthIf_37 : decode cX6_worthIf 37 = .ok (.getfield 66, 3) := by decide +kernel
theorem dX6_worthIf_40 : decode cX6_worthIf 40 = .ok (.invokestatic 69, 3) := by decide +kernel
theorem dX6_worthIf_43 : decode cX6_worthIf 43 = .ok (.iload_n 3, 1) := by decide +kernel
theorem dX6_worthIf_44 : decode cX6_worthIf 44 = .ok (.invokestatic 48, 3) := by decide +kernel
theorem dX6_worthIf_47 : decode cX6_worthIf 47 = .ok (.ifCond .eq 7, 3) := by decide +kernel
theorem dX6_worthIf_50 : decode cX6_worthIf 50 = .ok (.iconst 1, 1) := by decide +kernel
theorem dX6_worthIf_51 : decode cX6_worthIf 51 = .ok (.goto 4, 3) := by decide +kernel
theorem dX6_worthIf_54 : decode cX6_worthIf 54 = .ok (.iconst (-1), 1) := by decide +kernel
theorem dX6_worthIf_55 : decode cX6_worthIf 55 = .ok (.ireturn, 1) := by decide +kernel
theorem dX6_worthNow_0 : decode cX6_worthNow 0 = .ok (.aload_n 0, 1) := by decide +kernel
theorem dX6_worthNow_1 : decode cX6_worthNow 1 = .ok (.getfield 30, 3) := by decide +kernel
theorem dX6_worthNow_4 : decode cX6_worthNow 4 = .ok (.iload_n 1, 1) := by decide +kernel
theorem dX6_worthNow_5 : decode cX6_worthNow 5 = .ok (.bipush 10, 2) := by decide +kernel
theorem dX6_worthNow_7 : decode cX6_worthNow 7 = .ok (.imul, 1) := by decide +kernel
theorem dX6_worthNow_8 : decode cX6_worthNow 8 = .ok (.aload_n 0, 1) := by decide +kernel
theorem dX6_worthNow_9 : decode cX6_worthNow 9 = .ok (.getfield 26, 3) := by decide +kernel
theorem dX6_worthNow_12 : decode cX6_worthNow 12 = .ok (.iload_n 1, 1) := by decide +kernel
theorem dX6_worthNow_13 : decode cX6_worthNow 13 = .ok (.invokevirtual 40, 3) := by decide +kernel
theorem dX6_worthNow_16 : decode cX6_worthNow 16 = .ok (.iadd, 1) := by decide +kernel
theorem dX6_worthNow_17 : decode cX6_worthNow 17 = .ok (.invokevirtual 40, 3) := by decide +kernel
theorem dX6_worthNow_20 : decode cX6_worthNow 20 = .ok (.ireturn, 1) := by decide +kernel
theorem dX6_canWear_0 : decode cX6_canWear 0 = .ok (.aload_n 0, 1) := by decide +kernel
theorem dX6_canWear_1 : decode cX6_canWear 1 = .ok (.getfield 26, 3) := by decide +kernel
theorem dX6_canWear_4 : decode cX6_canWear 4 = .ok (.iload_n 1, 1) := by decide +kernel
theorem dX6_canWear_5 : decode cX6_canWear 5 = .ok (.invokevirtual 40, 3) := by decide +kernel
theorem dX6_canWear_8 : decode cX6_canWear 8 = .ok (.iload_n 2, 1) := by decide +kernel
theorem dX6_canWear_9 : decode cX6_canWear 9 = .ok (.iadd, 1) := by decide +kernel
theorem dX6_canWear_10 : decode cX6_canWear 10 = .ok (.istore_n 3, 1) := by decide +kernel
theorem dX6_canWear_11 : decode cX6_canWear 11 = .ok (.aload_n 0, 1) := by decide +kernel
theorem dX6_canWear_12 : decode cX6_canWear 12 = .ok (.getfield 15, 3) := by decide +kernel
theorem dX6_canWear_15 : decode cX6_canWear 15 = .ok (.iload_n 1, 1) := by decide +kernel
theorem dX6_canWear_16 : decode cX6_canWear 16 = .ok (.invokestatic 48, 3) := by decide +kernel
theorem dX6_canWear_19 : decode cX6_canWear 19 = .ok (.ifCond .eq 17, 3) := by decide +kernel
theorem dX6_canWear_22 : decode cX6_canWear 22 = .ok (.iload_n 3, 1) := by decide +kernel
theorem dX6_canWear_23 : decode cX6_canWear 23 = .ok (.ifCond .lt 13, 3) := by decide +kernel
theorem dX6_canWear_26 : decode cX6_canWear 26 = .ok (.iload_n 3, 1) := by decide +kernel
theorem dX6_canWear_27 : decode cX6_canWear 27 = .ok (.bipush 9, 2) := by decide +kernel
theorem dX6_canWear_29 : decode cX6_canWear 29 = .ok (.if_icmp .gt 7, 3) := by decide +kernel
theorem dX6_canWear_32 : decode cX6_canWear 32 = .ok (.iconst 1, 1) := by decide +kernel
theorem dX6_canWear_33 : decode cX6_canWear 33 = .ok (.goto 4, 3) := by decide +kernel
theorem dX6_canWear_36 : decode cX6_canWear 36 = .ok (.iconst 0, 1) := by decide +kernel
theorem dX6_canWear_37 : decode cX6_canWear 37 = .ok (.ireturn, 1) := by decide +kernel
theorem dX6_wearBy_0 : decode cX6_wearBy 0 = .ok (.aload_n 0, 1) := by decide +kernel
theorem dX6_wearBy_1 : decode cX6_wearBy 1 = .ok (.dup, 1) := by decide +kernel
theorem dX6_wearBy_2 : decode cX6_wearBy 2 = .ok (.getfield 18, 3) := by decide +kernel
theorem dX6_wearBy_5 : decode cX6_wearBy 5 = .ok (.aload_n 0, 1) := by decide +kernel
theorem dX6_wearBy_6 : decode cX6_wearBy 6 = .ok (.iload_n 1, 1) := by decide +kernel
theorem dX6_wearBy_7 : decode cX6_wearBy 7 = .ok (.invokevirtual 56, 3) := by decide +kernel
theorem dX6_wearBy_10 : decode cX6_wearBy 10 = .ok (.isub, 1) := by decide +kernel
theorem dX6_wearBy_11 : decode cX6_wearBy 11 = .ok (.putfield 18, 3) := by decide +kernel
theorem dX6_wearBy_14 : decode cX6_wearBy 14 = .ok (.aload_n 0, 1) := by decide +kernel
theorem dX6_wearBy_15 : decode cX6_wearBy 15 = .ok (.getfield 26, 3) := by decide +kernel
theorem dX6_wearBy_18 : decode cX6_wearBy 18 = .ok (.iload_n 1, 1) := by decide +kernel
theorem dX6_wearBy_19 : decode cX6_wearBy 19 = .ok (.aload_n 0, 1) := by decide +kernel
theorem dX6_wearBy_20 : decode cX6_wearBy 20 = .ok (.getfield 26, 3) := by decide +kernel
theorem dX6_wearBy_23 : decode cX6_wearBy 23 = .ok (.iload_n 1, 1) := by decide +kernel
theorem dX6_wearBy_24 : decode cX6_wearBy 24 = .ok (.invokevirtual 40, 3) := by decide +kernel
theorem dX6_wearBy_27 : decode cX6_wearBy 27 = .ok (.iload_n 2, 1) := by decide +kernel
theorem dX6_wearBy_28 : decode cX6_wearBy 28 = .ok (.iadd, 1) := by decide +kernel
theorem dX6_wearBy_29 : decode cX6_wearBy 29 = .ok (.invokevirtual 44, 3) := by decide +kernel
theorem dX6_wearBy_32 : decode cX6_wearBy 32 = .ok (.aload_n 0, 1) := by decide +kernel
theorem dX6_wearBy_33 : decode cX6_wearBy 33 = .ok (.dup, 1) := by decide +kernel
theorem dX6_wearBy_34 : decode cX6_wearBy 34 = .ok (.getfield 18, 3) := by decide +kernel
theorem dX6_wearBy_37 : decode cX6_wearBy 37 = .ok (.aload_n 0, 1) := by decide +kernel
theorem dX6_wearBy_38 : decode cX6_wearBy 38 = .ok (.iload_n 1, 1) := by decide +kernel
theorem dX6_wearBy_39 : decode cX6_wearBy 39 = .ok (.invokevirtual 56, 3) := by decide +kernel
theorem dX6_wearBy_42 : decode cX6_wearBy 42 = .ok (.iadd, 1) := by decide +kernel
theorem dX6_wearBy_43 : decode cX6_wearBy 43 = .ok (.putfield 18, 3) := by decide +kernel
theorem dX6_wearBy_46 : decode cX6_wearBy 46 = .ok (.return_, 1) := by decide +kernel
theorem dX6_fewestPresses_0 : decode cX6_fewestPresses 0 = .ok (.iconst 0, 1) := by decide +kernel
theorem dX6_fewestPresses_1 : decode cX6_fewestPresses 1 = .ok (.istore_n 1, 1) := by decide +kernel
theorem dX6_fewestPresses_2 : decode cX6_fewestPresses 2 = .ok (.iload_n 1, 1) := by decide +kernel
theorem dX6_fewestPresses_3 : decode cX6_fewestPresses 3 = .ok (.iconst 4, 1) := by decide +kernel
theorem dX6_fewestPresses_4 : decode cX6_fewestPresses 4 = .ok (.if_icmp .gt 21, 3) := by decide +kernel
theorem dX6_fewestPresses_7 : decode cX6_fewestPresses 7 = .ok (.aload_n 0, 1) := by decide +kernel
theorem dX6_fewestPresses_8 : decode cX6_fewestPresses 8 = .ok (.iconst 0, 1) := by decide +kernel
theorem dX6_fewestPresses_9 : decode cX6_fewestPresses 9 = .ok (.iload_n 1, 1) := by decide +kernel
theorem dX6_fewestPresses_10 : decode cX6_fewestPresses 10 = .ok (.iconst 0, 1) := by decide +kernel
theorem dX6_fewestPresses_11 : decode cX6_fewestPresses 11 = .ok (.invokevirtual 73, 3) := by decide +kernel
theorem dX6_fewestPresses_14 : decode cX6_fewestPresses 14 = .ok (.ifCond .eq 5, 3) := by decide +kernel
theorem dX6_fewestPresses_17 : decode cX6_fewestPresses 17 = .ok (.iload_n 1, 1) := by decide +kernel
theorem dX6_fewestPresses_18 : decode cX6_fewestPresses 18 = .ok (.ireturn, 1) := by decide +kernel
theorem dX6_fewestPresses_19 : decode cX6_fewestPresses 19 = .ok (.iinc 1 1, 3) := by decide +kernel
theorem dX6_fewestPresses_22 : decode cX6_fewestPresses 22 = .ok (.goto (-20), 3) := by decide +kernel
theorem dX6_fewestPresses_25 : decode cX6_fewestPresses 25 = .ok (.bipush (-9), 2) := by decide +kernel
theorem dX6_fewestPresses_27 : decode cX6_fewestPresses 27 = .ok (.ireturn, 1) := by decide +kernel
theorem dX6_pressOn_0 : decode cX6_pressOn 0 = .ok (.iload_n 1, 1) := by decide +kernel
theorem dX6_pressOn_1 : decode cX6_pressOn 1 = .ok (.iload_n 2, 1) := by decide +kernel
theorem dX6_pressOn_2 : decode cX6_pressOn 2 = .ok (.if_icmp .ge 8, 3) := by decide +kernel
theorem dX6_pressOn_5 : decode cX6_pressOn 5 = .ok (.iload_n 1, 1) := by decide +kernel
theorem dX6_pressOn_6 : decode cX6_pressOn 6 = .ok (.iconst 4, 1) := by decide +kernel
theorem dX6_pressOn_7 : decode cX6_pressOn 7 = .ok (.if_icmp .lt 16, 3) := by decide +kernel
theorem dX6_pressOn_10 : decode cX6_pressOn 10 = .ok (.aload_n 0, 1) := by decide +kernel
theorem dX6_pressOn_11 : decode cX6_pressOn 11 = .ok (.getfield 18, 3) := by decide +kernel
theorem dX6_pressOn_14 : decode cX6_pressOn 14 = .ok (.ifCond .gt 7, 3) := by decide +kernel
theorem dX6_pressOn_17 : decode cX6_pressOn 17 = .ok (.iconst 1, 1) := by decide +kernel
theorem dX6_pressOn_18 : decode cX6_pressOn 18 = .ok (.goto 4, 3) := by decide +kernel
theorem dX6_pressOn_21 : decode cX6_pressOn 21 = .ok (.iconst 0, 1) := by decide +kernel
theorem dX6_pressOn_22 : decode cX6_pressOn 22 = .ok (.ireturn, 1) := by decide +kernel
theorem dX6_pressOn_23 : decode cX6_pressOn 23 = .ok (.iload_n 3, 1) := by decide +kernel
theorem dX6_pressOn_24 : decode cX6_pressOn 24 = .ok (.istore 4, 2) := by decide +kernel
theorem dX6_pressOn_26 : decode cX6_pressOn 26 = .ok (.iload 4, 2) := by decide +kernel
theorem dX6_pressOn_28 : decode cX6_pressOn 28 = .ok (.aload_n 0, 1) := by decide +kernel
theorem dX6_pressOn_29 : decode cX6_pressOn 29 = .ok (.getfield 9, 3) := by decide +kernel
theorem dX6_pressOn_32 : decode cX6_pressOn 32 = .ok (.if_icmp .ge 65, 3) := by decide +kernel
theorem dX6_pressOn_35 : decode cX6_pressOn 35 = .ok (.aload_n 0, 1) := by decide +kernel
theorem dX6_pressOn_36 : decode cX6_pressOn 36 = .ok (.iload 4, 2) := by decide +kernel
theorem dX6_pressOn_38 : decode cX6_pressOn 38 = .ok (.iconst 1, 1) := by decide +kernel
theorem dX6_pressOn_39 : decode cX6_pressOn 39 = .ok (.invokevirtual 77, 3) := by decide +kernel
theorem dX6_pressOn_42 : decode cX6_pressOn 42 = .ok (.ifCond .ne 6, 3) := by decide +kernel
theorem dX6_pressOn_45 : decode cX6_pressOn 45 = .ok (.goto 46, 3) := by decide +kernel
theorem dX6_pressOn_48 : decode cX6_pressOn 48 = .ok (.aload_n 0, 1) := by decide +kernel
theorem dX6_pressOn_49 : decode cX6_pressOn 49 = .ok (.getfield 33, 3) := by decide +kernel
theorem dX6_pressOn_52 : decode cX6_pressOn 52 = .ok (.iload_n 1, 1) := by decide +kernel
theorem dX6_pressOn_53 : decode cX6_pressOn 53 = .ok (.iload 4, 2) := by decide +kernel
theorem dX6_pressOn_55 : decode cX6_pressOn 55 = .ok (.invokevirtual 44, 3) := by decide +kernel
theorem dX6_pressOn_58 : decode cX6_pressOn 58 = .ok (.aload_n 0, 1) := by decide +kernel
theorem dX6_pressOn_59 : decode cX6_pressOn 59 = .ok (.iload 4, 2) := by decide +kernel
theorem dX6_pressOn_61 : decode cX6_pressOn 61 = .ok (.iconst 1, 1) := by decide +kernel
theorem dX6_pressOn_62 : decode cX6_pressOn 62 = .ok (.invokevirtual 80, 3) := by decide +kernel
theorem dX6_pressOn_65 : decode cX6_pressOn 65 = .ok (.aload_n 0, 1) := by decide +kernel
theorem dX6_pressOn_66 : decode cX6_pressOn 66 = .ok (.iload_n 1, 1) := by decide +kernel
theorem dX6_pressOn_67 : decode cX6_pressOn 67 = .ok (.iconst 1, 1) := by decide +kernel
theorem dX6_pressOn_68 : decode cX6_pressOn 68 = .ok (.iadd, 1) := by decide +kernel
theorem dX6_pressOn_69 : decode cX6_pressOn 69 = .ok (.iload_n 2, 1) := by decide +kernel
theorem dX6_pressOn_70 : decode cX6_pressOn 70 = .ok (.iload 4, 2) := by decide +kernel
theorem dX6_pressOn_72 : decode cX6_pressOn 72 = .ok (.invokevirtual 73, 3) := by decide +kernel
theorem dX6_pressOn_75 : decode cX6_pressOn 75 = .ok (.istore 5, 2) := by decide +kernel
theorem dX6_pressOn_77 : decode cX6_pressOn 77 = .ok (.aload_n 0, 1) := by decide +kernel
theorem dX6_pressOn_78 : decode cX6_pressOn 78 = .ok (.iload 4, 2) := by decide +kernel
theorem dX6_pressOn_80 : decode cX6_pressOn 80 = .ok (.iconst (-1), 1) := by decide +kernel
theorem dX6_pressOn_81 : decode cX6_pressOn 81 = .ok (.invokevirtual 80, 3) := by decide +kernel
theorem dX6_pressOn_84 : decode cX6_pressOn 84 = .ok (.iload 5, 2) := by decide +kernel
theorem dX6_pressOn_86 : decode cX6_pressOn 86 = .ok (.ifCond .eq 5, 3) := by decide +kernel
theorem dX6_pressOn_89 : decode cX6_pressOn 89 = .ok (.iconst 1, 1) := by decide +kernel
theorem dX6_pressOn_90 : decode cX6_pressOn 90 = .ok (.ireturn, 1) := by decide +kernel
theorem dX6_pressOn_91 : decode cX6_pressOn 91 = .ok (.iinc 4 1, 3) := by decide +kernel
theorem dX6_pressOn_94 : decode cX6_pressOn 94 = .ok (.goto (-68), 3) := by decide +kernel
theorem dX6_pressOn_97 : decode cX6_pressOn 97 = .ok (.iconst 0, 1) := by decide +kernel
theorem dX6_pressOn_98 : decode cX6_pressOn 98 = .ok (.ireturn, 1) := by decide +kernel
theorem dX6_playOut_0 : decode cX6_playOut 0 = .ok (.iload_n 1, 1) := by decide +kernel
theorem dX6_playOut_1 : decode cX6_playOut 1 = .ok (.ifCond .le 8, 3) := by decide +kernel
theorem dX6_playOut_4 : decode cX6_playOut 4 = .ok (.iload_n 1, 1) := by decide +kernel
theorem dX6_playOut_5 : decode cX6_playOut 5 = .ok (.iconst 4, 1) := by decide +kernel
theorem dX6_playOut_6 : decode cX6_playOut 6 = .ok (.if_icmp .le 8, 3) := by decide +kernel
theorem dX6_playOut_9 : decode cX6_playOut 9 = .ok (.aload_n 0, 1) := by decide +kernel
theorem dX6_playOut_10 : decode cX6_playOut 10 = .ok (.getfield 18, 3) := by decide +kernel
theorem dX6_playOut_13 : decode cX6_playOut 13 = .ok (.ireturn, 1) := by decide +kernel
theorem dX6_playOut_14 : decode cX6_playOut 14 = .ok (.iload_n 1, 1) := by decide +kernel
theorem dX6_playOut_15 : decode cX6_playOut 15 = .ok (.iconst 2, 1) := by decide +kernel
theorem dX6_playOut_16 : decode cX6_playOut 16 = .ok (.irem, 1) := by decide +kernel
theorem dX6_playOut_17 : decode cX6_playOut 17 = .ok (.ifCond .ne 7, 3) := by decide +kernel
theorem dX6_playOut_20 : decode cX6_playOut 20 = .ok (.iconst 1, 1) := by decide +kernel
theorem dX6_playOut_21 : decode cX6_playOut 21 = .ok (.goto 4, 3) := by decide +kernel
theorem dX6_playOut_24 : decode cX6_playOut 24 = .ok (.iconst 0, 1) := by decide +kernel
theorem dX6_playOut_25 : decode cX6_playOut 25 = .ok (.istore_n 2, 1) := by decide +kernel
theorem dX6_playOut_26 : decode cX6_playOut 26 = .ok (.iload_n 2, 1) := by decide +kernel
theorem dX6_playOut_27 : decode cX6_playOut 27 = .ok (.ifCond .eq 7, 3) := by decide +kernel
theorem dX6_playOut_30 : decode cX6_playOut 30 = .ok (.iconst (-1), 1) := by decide +kernel
theorem dX6_playOut_31 : decode cX6_playOut 31 = .ok (.goto 4, 3) := by decide +kernel
theorem dX6_playOut_34 : decode cX6_playOut 34 = .ok (.iconst 1, 1) := by decide +kernel
theorem dX6_playOut_35 : decode cX6_playOut 35 = .ok (.istore_n 3, 1) := by decide +kernel
theorem dX6_playOut_36 : decode cX6_playOut 36 = .ok (.aload_n 0, 1) := by decide +kernel
theorem dX6_playOut_37 : decode cX6_playOut 37 = .ok (.iload_n 1, 1) := by decide +kernel
theorem dX6_playOut_38 : decode cX6_playOut 38 = .ok (.iconst 1, 1) := by decide +kernel
theorem dX6_playOut_39 : decode cX6_playOut 39 = .ok (.isub, 1) := by decide +kernel
theorem dX6_playOut_40 : decode cX6_playOut 40 = .ok (.invokevirtual 83, 3) := by decide +kernel
theorem dX6_playOut_43 : decode cX6_playOut 43 = .ok (.istore 4, 2) := by decide +kernel
theorem dX6_playOut_45 : decode cX6_playOut 45 = .ok (.iconst 0, 1) := by decide +kernel
theorem dX6_playOut_46 : decode cX6_playOut 46 = .ok (.istore 5, 2) := by decide +kernel
theorem dX6_playOut_48 : decode cX6_playOut 48 = .ok (.iload 5, 2) := by decide +kernel
theorem dX6_playOut_50 : decode cX6_playOut 50 = .ok (.aload_n 0, 1) := by decide +kernel
theorem dX6_playOut_51 : decode cX6_playOut 51 = .ok (.getfield 9, 3) := by decide +kernel
theorem dX6_playOut_54 : decode cX6_playOut 54 = .ok (.if_icmp .ge 69, 3) := by decide +kernel
theorem dX6_playOut_57 : decode cX6_playOut 57 = .ok (.aload_n 0, 1) := by decide +kernel
theorem dX6_playOut_58 : decode cX6_playOut 58 = .ok (.iload 5, 2) := by decide +kernel
theorem dX6_playOut_60 : decode cX6_playOut 60 = .ok (.iload_n 3, 1) := by decide +kernel
theorem dX6_playOut_61 : decode cX6_playOut 61 = .ok (.invokevirtual 77, 3) := by decide +kernel
theorem dX6_playOut_64 : decode cX6_playOut 64 = .ok (.ifCond .ne 6, 3) := by decide +kernel
theorem dX6_playOut_67 : decode cX6_playOut 67 = .ok (.goto 50, 3) := by decide +kernel
theorem dX6_playOut_70 : decode cX6_playOut 70 = .ok (.aload_n 0, 1) := by decide +kernel
theorem dX6_playOut_71 : decode cX6_playOut 71 = .ok (.iload 5, 2) := by decide +kernel
theorem dX6_playOut_73 : decode cX6_playOut 73 = .ok (.iload_n 3, 1) := by decide +kernel
theorem dX6_playOut_74 : decode cX6_playOut 74 = .ok (.invokevirtual 80, 3) := by decide +kernel
theorem dX6_playOut_77 : decode cX6_playOut 77 = .ok (.aload_n 0, 1) := by decide +kernel
theorem dX6_playOut_78 : decode cX6_playOut 78 = .ok (.iload_n 1, 1) := by decide +kernel
theorem dX6_playOut_79 : decode cX6_playOut 79 = .ok (.iconst 1, 1) := by decide +kernel
theorem dX6_playOut_80 : decode cX6_playOut 80 = .ok (.isub, 1) := by decide +kernel
theorem dX6_playOut_81 : decode cX6_playOut 81 = .ok (.invokevirtual 83, 3) := by decide +kernel
theorem dX6_playOut_84 : decode cX6_playOut 84 = .ok (.istore 6, 2) := by decide +kernel
theorem dX6_playOut_86 : decode cX6_playOut 86 = .ok (.aload_n 0, 1) := by decide +kernel
theorem dX6_playOut_87 : decode cX6_playOut 87 = .ok (.iload 5, 2) := by decide +kernel
theorem dX6_playOut_89 : decode cX6_playOut 89 = .ok (.iload_n 3, 1) := by decide +kernel
theorem dX6_playOut_90 : decode cX6_playOut 90 = .ok (.ineg, 1) := by decide +kernel
theorem dX6_playOut_91 : decode cX6_playOut 91 = .ok (.invokevirtual 80, 3) := by decide +kernel
theorem dX6_playOut_94 : decode cX6_playOut 94 = .ok (.iload_n 2, 1) := by decide +kernel
theorem dX6_playOut_95 : decode cX6_playOut 95 = .ok (.ifCond .eq 13, 3) := by decide +kernel
theorem dX6_playOut_98 : decode cX6_playOut 98 = .ok (.iload 4, 2) := by decide +kernel
theorem dX6_playOut_100 : decode cX6_playOut 100 = .ok (.iload 6, 2) := by decide +kernel
theorem dX6_playOut_102 : decode cX6_playOut 102 = .ok (.invokestatic 86, 3) := by decide +kernel
theorem dX6_playOut_105 : decode cX6_playOut 105 = .ok (.goto 10, 3) := by decide +kernel
theorem dX6_playOut_108 : decode cX6_playOut 108 = .ok (.iload 4, 2) := by decide +kernel
theorem dX6_playOut_110 : decode cX6_playOut 110 = .ok (.iload 6, 2) := by decide +kernel
theorem dX6_playOut_112 : decode cX6_playOut 112 = .ok (.invokestatic 92, 3) := by decide +kernel
theorem dX6_playOut_115 : decode cX6_playOut 115 = .ok (.istore 4, 2) := by decide +kernel
theorem dX6_playOut_117 : decode cX6_playOut 117 = .ok (.iinc 5 1, 3) := by decide +kernel
theorem dX6_playOut_120 : decode cX6_playOut 120 = .ok (.goto (-72), 3) := by decide +kernel
theorem dX6_playOut_123 : decode cX6_playOut 123 = .ok (.iload 4, 2) := by decide +kernel
theorem dX6_playOut_125 : decode cX6_playOut 125 = .ok (.ireturn, 1) := by decide +kernel
theorem dJ6_bitCount_0f7a4_0 : decode cJ6_bitCount_0f7a4 0 = .ok (.iload_n 0, 1) := by decide +kernel
theorem dJ6_bitCount_0f7a4_1 : decode cJ6_bitCount_0f7a4 1 = .ok (.iload_n 0, 1) := by decide +kernel
theorem dJ6_bitCount_0f7a4_2 : decode cJ6_bitCount_0f7a4 2 = .ok (.iconst 1, 1) := by decide +kernel
theorem dJ6_bitCount_0f7a4_3 : decode cJ6_bitCount_0f7a4 3 = .ok (.iushr, 1) := by decide +kernel
theorem dJ6_bitCount_0f7a4_4 : decode cJ6_bitCount_0f7a4 4 = .ok (.ldc_w 265, 3) := by decide +kernel
theorem dJ6_bitCount_0f7a4_7 : decode cJ6_bitCount_0f7a4 7 = .ok (.iand, 1) := by decide +kernel
theorem dJ6_bitCount_0f7a4_8 : decode cJ6_bitCount_0f7a4 8 = .ok (.isub, 1) := by decide +kernel
theorem dJ6_bitCount_0f7a4_9 : decode cJ6_bitCount_0f7a4 9 = .ok (.istore_n 0, 1) := by decide +kernel
theorem dJ6_bitCount_0f7a4_10 : decode cJ6_bitCount_0f7a4 10 = .ok (.iload_n 0, 1) := by decide +kernel
theorem dJ6_bitCount_0f7a4_11 : decode cJ6_bitCount_0f7a4 11 = .ok (.ldc_w 266, 3) := by decide +kernel
theorem dJ6_bitCount_0f7a4_14 : decode cJ6_bitCount_0f7a4 14 = .ok (.iand, 1) := by decide +kernel
theorem dJ6_bitCount_0f7a4_15 : decode cJ6_bitCount_0f7a4 15 = .ok (.iload_n 0, 1) := by decide +kernel
theorem dJ6_bitCount_0f7a4_16 : decode cJ6_bitCount_0f7a4 16 = .ok (.iconst 2, 1) := by decide +kernel
theorem dJ6_bitCount_0f7a4_17 : decode cJ6_bitCount_0f7a4 17 = .ok (.iushr, 1) := by decide +kernel
theorem dJ6_bitCount_0f7a4_18 : decode cJ6_bitCount_0f7a4 18 = .ok (.ldc_w 266, 3) := by decide +kernel
theorem dJ6_bitCount_0f7a4_21 : decode cJ6_bitCount_0f7a4 21 = .ok (.iand, 1) := by decide +kernel
theorem dJ6_bitCount_0f7a4_22 : decode cJ6_bitCount_0f7a4 22 = .ok (.iadd, 1) := by decide +kernel
theorem dJ6_bitCount_0f7a4_23 : decode cJ6_bitCount_0f7a4 23 = .ok (.istore_n 0, 1) := by decide +kernel
theorem dJ6_bitCount_0f7a4_24 : decode cJ6_bitCount_0f7a4 24 = .ok (.iload_n 0, 1) := by decide +kernel
theorem dJ6_bitCount_0f7a4_25 : decode cJ6_bitCount_0f7a4 25 = .ok (.iload_n 0, 1) := by decide +kernel
theorem dJ6_bitCount_0f7a4_26 : decode cJ6_bitCount_0f7a4 26 = .ok (.iconst 4, 1) := by decide +kernel
theorem dJ6_bitCount_0f7a4_27 : decode cJ6_bitCount_0f7a4 27 = .ok (.iushr, 1) := by decide +kernel
theorem dJ6_bitCount_0f7a4_28 : decode cJ6_bitCount_0f7a4 28 = .ok (.iadd, 1) := by decide +kernel
theorem dJ6_bitCount_0f7a4_29 : decode cJ6_bitCount_0f7a4 29 = .ok (.ldc_w 267, 3) := by decide +kernel
theorem dJ6_bitCount_0f7a4_32 : decode cJ6_bitCount_0f7a4 32 = .ok (.iand, 1) := by decide +kernel
theorem dJ6_bitCount_0f7a4_33 : decode cJ6_bitCount_0f7a4 33 = .ok (.istore_n 0, 1) := by decide +kernel
theorem dJ6_bitCount_0f7a4_34 : decode cJ6_bitCount_0f7a4 34 = .ok (.iload_n 0, 1) := by decide +kernel
theorem dJ6_bitCount_0f7a4_35 : decode cJ6_bitCount_0f7a4 35 = .ok (.iload_n 0, 1) := by decide +kernel
theorem dJ6_bitCount_0f7a4_36 : decode cJ6_bitCount_0f7a4 36 = .ok (.bipush 8, 2) := by decide +kernel
theorem dJ6_bitCount_0f7a4_38 : decode cJ6_bitCount_0f7a4 38 = .ok (.iushr, 1) := by decide +kernel
theorem dJ6_bitCount_0f7a4_39 : decode cJ6_bitCount_0f7a4 39 = .ok (.iadd, 1) := by decide +kernel
theorem dJ6_bitCount_0f7a4_40 : decode cJ6_bitCount_0f7a4 40 = .ok (.istore_n 0, 1) := by decide +kernel
theorem dJ6_bitCount_0f7a4_41 : decode cJ6_bitCount_0f7a4 41 = .ok (.iload_n 0, 1) := by decide +kernel
theorem dJ6_bitCount_0f7a4_42 : decode cJ6_bitCount_0f7a4 42 = .ok (.iload_n 0, 1) := by decide +kernel
theorem dJ6_bitCount_0f7a4_43 : decode cJ6_bitCount_0f7a4 43 = .ok (.bipush 16, 2) := by decide +kernel
theorem dJ6_bitCount_0f7a4_45 : decode cJ6_bitCount_0f7a4 45 = .ok (.iushr, 1) := by decide +kernel
theorem dJ6_bitCount_0f7a4_46 : decode cJ6_bitCount_0f7a4 46 = .ok (.iadd, 1) := by decide +kernel
theorem dJ6_bitCount_0f7a4_47 : decode cJ6_bitCount_0f7a4 47 = .ok (.istore_n 0, 1) := by decide +kernel
theorem dJ6_bitCount_0f7a4_48 : decode cJ6_bitCount_0f7a4 48 = .ok (.iload_n 0, 1) := by decide +kernel
theorem dJ6_bitCount_0f7a4_49 : decode cJ6_bitCount_0f7a4 49 = .ok (.bipush 63, 2) := by decide +kernel
theorem dJ6_bitCount_0f7a4_51 : decode cJ6_bitCount_0f7a4 51 = .ok (.iand, 1) := by decide +kernel
theorem dJ6_bitCount_0f7a4_52 : decode cJ6_bitCount_0f7a4 52 = .ok (.ireturn, 1) := by decide +kernel
theorem dJ13_bitCount_95d88_0 : decode cJ13_bitCount_95d88 0 = .ok (.lload_n 0, 1) := by decide +kernel
theorem dJ13_bitCount_95d88_1 : decode cJ13_bitCount_95d88 1 = .ok (.lload_n 0, 1) := by decide +kernel
theorem dJ13_bitCount_95d88_2 : decode cJ13_bitCount_95d88 2 = .ok (.iconst 1, 1) := by decide +kernel
theorem dJ13_bitCount_95d88_3 : decode cJ13_bitCount_95d88 3 = .ok (.lushr, 1) := by decide +kernel
theorem dJ13_bitCount_95d88_4 : decode cJ13_bitCount_95d88 4 = .ok (.ldc2_w 314, 3) := by decide +kernel
theorem dJ13_bitCount_95d88_7 : decode cJ13_bitCount_95d88 7 = .ok (.land, 1) := by decide +kernel
theorem dJ13_bitCount_95d88_8 : decode cJ13_bitCount_95d88 8 = .ok (.lsub, 1) := by decide +kernel
theorem dJ13_bitCount_95d88_9 : decode cJ13_bitCount_95d88 9 = .ok (.lstore_n 0, 1) := by decide +kernel
theorem dJ13_bitCount_95d88_10 : decode cJ13_bitCount_95d88 10 = .ok (.lload_n 0, 1) := by decide +kernel
theorem dJ13_bitCount_95d88_11 : decode cJ13_bitCount_95d88 11 = .ok (.ldc2_w 316, 3) := by decide +kernel
theorem dJ13_bitCount_95d88_14 : decode cJ13_bitCount_95d88 14 = .ok (.land, 1) := by decide +kernel
theorem dJ13_bitCount_95d88_15 : decode cJ13_bitCount_95d88 15 = .ok (.lload_n 0, 1) := by decide +kernel
theorem dJ13_bitCount_95d88_16 : decode cJ13_bitCount_95d88 16 = .ok (.iconst 2, 1) := by decide +kernel
theorem dJ13_bitCount_95d88_17 : decode cJ13_bitCount_95d88 17 = .ok (.lushr, 1) := by decide +kernel
theorem dJ13_bitCount_95d88_18 : decode cJ13_bitCount_95d88 18 = .ok (.ldc2_w 316, 3) := by decide +kernel
theorem dJ13_bitCount_95d88_21 : decode cJ13_bitCount_95d88 21 = .ok (.land, 1) := by decide +kernel
theorem dJ13_bitCount_95d88_22 : decode cJ13_bitCount_95d88 22 = .ok (.ladd, 1) := by decide +kernel
theorem dJ13_bitCount_95d88_23 : decode cJ13_bitCount_95d88 23 = .ok (.lstore_n 0, 1) := by decide +kernel
theorem dJ13_bitCount_95d88_24 : decode cJ13_bitCount_95d88 24 = .ok (.lload_n 0, 1) := by decide +kernel
theorem dJ13_bitCount_95d88_25 : decode cJ13_bitCount_95d88 25 = .ok (.lload_n 0, 1) := by decide +kernel
theorem dJ13_bitCount_95d88_26 : decode cJ13_bitCount_95d88 26 = .ok (.iconst 4, 1) := by decide +kernel
theorem dJ13_bitCount_95d88_27 : decode cJ13_bitCount_95d88 27 = .ok (.lushr, 1) := by decide +kernel
theorem dJ13_bitCount_95d88_28 : decode cJ13_bitCount_95d88 28 = .ok (.ladd, 1) := by decide +kernel
theorem dJ13_bitCount_95d88_29 : decode cJ13_bitCount_95d88 29 = .ok (.ldc2_w 318, 3) := by decide +kernel
theorem dJ13_bitCount_95d88_32 : decode cJ13_bitCount_95d88 32 = .ok (.land, 1) := by decide +kernel
theorem dJ13_bitCount_95d88_33 : decode cJ13_bitCount_95d88 33 = .ok (.lstore_n 0, 1) := by decide +kernel
theorem dJ13_bitCount_95d88_34 : decode cJ13_bitCount_95d88 34 = .ok (.lload_n 0, 1) := by decide +kernel
theorem dJ13_bitCount_95d88_35 : decode cJ13_bitCount_95d88 35 = .ok (.lload_n 0, 1) := by decide +kernel
theorem dJ13_bitCount_95d88_36 : decode cJ13_bitCount_95d88 36 = .ok (.bipush 8, 2) := by decide +kernel
theorem dJ13_bitCount_95d88_38 : decode cJ13_bitCount_95d88 38 = .ok (.lushr, 1) := by decide +kernel
theorem dJ13_bitCount_95d88_39 : decode cJ13_bitCount_95d88 39 = .ok (.ladd, 1) := by decide +kernel
theorem dJ13_bitCount_95d88_40 : decode cJ13_bitCount_95d88 40 = .ok (.lstore_n 0, 1) := by decide +kernel
theorem dJ13_bitCount_95d88_41 : decode cJ13_bitCount_95d88 41 = .ok (.lload_n 0, 1) := by decide +kernel
theorem dJ13_bitCount_95d88_42 : decode cJ13_bitCount_95d88 42 = .ok (.lload_n 0, 1) := by decide +kernel
theorem dJ13_bitCount_95d88_43 : decode cJ13_bitCount_95d88 43 = .ok (.bipush 16, 2) := by decide +kernel
theorem dJ13_bitCount_95d88_45 : decode cJ13_bitCount_95d88 45 = .ok (.lushr, 1) := by decide +kernel
theorem dJ13_bitCount_95d88_46 : decode cJ13_bitCount_95d88 46 = .ok (.ladd, 1) := by decide +kernel
theorem dJ13_bitCount_95d88_47 : decode cJ13_bitCount_95d88 47 = .ok (.lstore_n 0, 1) := by decide +kernel
theorem dJ13_bitCount_95d88_48 : decode cJ13_bitCount_95d88 48 = .ok (.lload_n 0, 1) := by decide +kernel
theorem dJ13_bitCount_95d88_49 : decode cJ13_bitCount_95d88 49 = .ok (.lload_n 0, 1) := by decide +kernel
theorem dJ13_bitCount_95d88_50 : decode cJ13_bitCount_95d88 50 = .ok (.bipush 32, 2) := by decide +kernel
theorem dJ13_bitCount_95d88_52 : decode cJ13_bitCount_95d88 52 = .ok (.lushr, 1) := by decide +kernel
theorem dJ13_bitCount_95d88_53 : decode cJ13_bitCount_95d88 53 = .ok (.ladd, 1) := by decide +kernel
theorem dJ13_bitCount_95d88_54 : decode cJ13_bitCount_95d88 54 = .ok (.lstore_n 0, 1) := by decide +kernel
theorem dJ13_bitCount_95d88_55 : decode cJ13_bitCount_95d88 55 = .ok (.lload_n 0, 1) := by decide +kernel
theorem dJ13_bitCount_95d88_56 : decode cJ13_bitCount_95d88 56 = .ok (.l2i, 1) := by decide +kernel
theorem dJ13_bitCount_95d88_57 : decode cJ13_bitCount_95d88 57 = .ok (.bipush 127, 2) := by decide +kernel
theorem dJ13_bitCount_95d88_59 : decode cJ13_bitCount_95d88 59 = .ok (.iand, 1) := by decide +kernel
theorem dJ13_bitCount_95d88_60 : decode cJ13_bitCount_95d88 60 = .ok (.ireturn, 1) := by decide +kernel
end
section
/-! decode rows -/
theorem dX7_init_0 : decode cX7_init 0 = .ok (.aload_n 0, 1) := by decide +kernel
theorem dX7_init_1 : decode cX7_init 1 = .ok (.invokespecial 1, 3) := by decide +kernel
theorem dX7_init_4 : decode cX7_init 4 = .ok (.aload_n 0, 1) := by decide +kernel
theorem dX7_init_5 : decode cX7_init 5 = .ok (.new 7, 3) := by decide +kernel
theorem dX7_init_8 : decode cX7_init 8 = .ok (.dup, 1) := by decide +kernel
theorem dX7_init_9 : decode cX7_init 9 = .ok (.bipush 6, 2) := by decide +kernel
theorem dX7_init_11 : decode cX7_init 11 = .ok (.bipush 40, 2) := by decide +kernel
theorem dX7_init_13 : decode cX7_init 13 = .ok (.invokespecial 11, 3) := by decide +kernel
theorem dX7_init_16 : decode cX7_init 16 = .ok (.putfield 14, 3) := by decide +kernel
theorem dX7_init_19 : decode cX7_init 19 = .ok (.aload_n 0, 1) := by decide +kernel
theorem dX7_init_20 : decode cX7_init 20 = .ok (.new 7, 3) := by decide +kernel
theorem dX7_init_23 : decode cX7_init 23 = .ok (.dup, 1) := by decide +kernel
theorem dX7_init_24 : decode cX7_init 24 = .ok (.iconst 4, 1) := by decide +kernel
theorem dX7_init_25 : decode cX7_init 25 = .ok (.bipush 60, 2) := by decide +kernel
theorem dX7_init_27 : decode cX7_init 27 = .ok (.invokespecial 11, 3) := by decide +kernel
theorem dX7_init_30 : decode cX7_init 30 = .ok (.putfield 18, 3) := by decide +kernel
theorem dX7_init_33 : decode cX7_init 33 = .ok (.aload_n 0, 1) := by decide +kernel
theorem dX7_init_34 : decode cX7_init 34 = .ok (.new 21, 3) := by decide +kernel
theorem dX7_init_37 : decode cX7_init 37 = .ok (.dup, 1) := by decide +kernel
theorem dX7_init_38 : decode cX7_init 38 = .ok (.invokespecial 23, 3) := by decide +kernel
theorem dX7_init_41 : decode cX7_init 41 = .ok (.putfield 24, 3) := by decide +kernel
theorem dX7_init_44 : decode cX7_init 44 = .ok (.aload_n 0, 1) := by decide +kernel
theorem dX7_init_45 : decode cX7_init 45 = .ok (.new 21, 3) := by decide +kernel
theorem dX7_init_48 : decode cX7_init 48 = .ok (.dup, 1) := by decide +kernel
theorem dX7_init_49 : decode cX7_init 49 = .ok (.invokespecial 23, 3) := by decide +kernel
theorem dX7_init_52 : decode cX7_init 52 = .ok (.putfield 28, 3) := by decide +kernel
theorem dX7_init_55 : decode cX7_init 55 = .ok (.aload_n 0, 1) := by decide +kernel
theorem dX7_init_56 : decode cX7_init 56 = .ok (.iconst 3, 1) := by decide +kernel
theorem dX7_init_57 : decode cX7_init 57 = .ok (.anewarray 21, 3) := by decide +kernel
theorem dX7_init_60 : decode cX7_init 60 = .ok (.putfield 31, 3) := by decide +kernel
theorem dX7_init_63 : decode cX7_init 63 = .ok (.aload_n 0, 1) := by decide +kernel
theorem dX7_init_64 : decode cX7_init 64 = .ok (.new 35, 3) := by decide +kernel
theorem dX7_init_67 : decode cX7_init 67 = .ok (.dup, 1) := by decide +kernel
theorem dX7_init_68 : decode cX7_init 68 = .ok (.invokespecial 37, 3) := by decide +kernel
theorem dX7_init_71 : decode cX7_init 71 = .ok (.putfield 38, 3) := by decide +kernel
theorem dX7_init_74 : decode cX7_init 74 = .ok (.aload_n 0, 1) := by decide +kernel
theorem dX7_init_75 : decode cX7_init 75 = .ok (.new 42, 3) := by decide +kernel
theorem dX7_init_78 : decode cX7_init 78 = .ok (.dup, 1) := by decide +kernel
theorem dX7_init_79 : decode cX7_init 79 = .ok (.invokespecial 44, 3) := by decide +kernel
theorem dX7_init_82 : decode cX7_init 82 = .ok (.putfield 45, 3) := by decide +kernel
theorem dX7_init_85 : decode cX7_init 85 = .ok (.aload_n 0, 1) := by decide +kernel
theorem dX7_init_86 : decode cX7_init 86 = .ok (.new 49, 3) := by decide +kernel
theorem dX7_init_89 : decode cX7_init 89 = .ok (.dup, 1) := by decide +kernel
theorem dX7_init_90 : decode cX7_init 90 = .ok (.invokespecial 51, 3) := by decide +kernel
theorem dX7_init_93 : decode cX7_init 93 = .ok (.putfield 52, 3) := by decide +kernel
theorem dX7_init_96 : decode cX7_init 96 = .ok (.aload_n 0, 1) := by decide +kernel
theorem dX7_init_97 : decode cX7_init 97 = .ok (.new 56, 3) := by decide +kernel
theorem dX7_init_100 : decode cX7_init 100 = .ok (.dup, 1) := by decide +kernel
theorem dX7_init_101 : decode cX7_init 101 = .ok (.invokespecial 58, 3) := by decide +kernel
theorem dX7_init_104 : decode cX7_init 104 = .ok (.putfield 59, 3) := by decide +kernel
theorem dX7_init_107 : decode cX7_init 107 = .ok (.aload_n 0, 1) := by decide +kernel
theorem dX7_init_108 : decode cX7_init 108 = .ok (.new 63, 3) := by decide +kernel
theorem dX7_init_111 : decode cX7_init 111 = .ok (.dup, 1) := by decide +kernel
theorem dX7_init_112 : decode cX7_init 112 = .ok (.bipush 6, 2) := by decide +kernel
theorem dX7_init_114 : decode cX7_init 114 = .ok (.invokespecial 65, 3) := by decide +kernel
theorem dX7_init_117 : decode cX7_init 117 = .ok (.putfield 68, 3) := by decide +kernel
theorem dX7_init_120 : decode cX7_init 120 = .ok (.aload_n 0, 1) := by decide +kernel
theorem dX7_init_121 : decode cX7_init 121 = .ok (.iconst 0, 1) := by decide +kernel
theorem dX7_init_122 : decode cX7_init 122 = .ok (.putfield 72, 3) := by decide +kernel
theorem dX7_init_125 : decode cX7_init 125 = .ok (.aload_n 0, 1) := by decide +kernel
theorem dX7_init_126 : decode cX7_init 126 = .ok (.iconst 0, 1) := by decide +kernel
theorem dX7_init_127 : decode cX7_init 127 = .ok (.putfield 76, 3) := by decide +kernel
theorem dX7_init_130 : decode cX7_init 130 = .ok (.aload_n 0, 1) := by decide +kernel
theorem dX7_init_131 : decode cX7_init 131 = .ok (.lconst 0, 1) := by decide +kernel
theorem dX7_init_132 : decode cX7_init 132 = .ok (.putfield 79, 3) := by decide +kernel
theorem dX7_init_135 : decode cX7_init 135 = .ok (.aload_n 0, 1) := by decide +kernel
theorem dX7_init_136 : decode cX7_init 136 = .ok (.lconst 1, 1) := by decide +kernel
theorem dX7_init_137 : decode cX7_init 137 = .ok (.putfield 83, 3) := by decide +kernel
theorem dX7_init_140 : decode cX7_init 140 = .ok (.return_, 1) := by decide +kernel
theorem dX7_row_0 : decode cX7_row 0 = .ok (.aload_n 0, 1) := by decide +kernel
theorem dX7_row_1 : decode cX7_row 1 = .ok (.getfield 14, 3) := by decide +kernel
theorem dX7_row_4 : decode cX7_row 4 = .ok (.iload_n 1, 1) := by decide +kernel
theorem dX7_row_5 : decode cX7_row 5 = .ok (.invokevirtual 86, 3) := by decide +kernel
theorem dX7_row_8 : decode cX7_row 8 = .ok (.ifCond .eq 9, 3) := by decide +kernel
theorem dX7_row_11 : decode cX7_row 11 = .ok (.iload_n 2, 1) := by decide +kernel
theorem dX7_row_12 : decode cX7_row 12 = .ok (.bipush 40, 2) := by decide +kernel
theorem dX7_row_14 : decode cX7_row 14 = .ok (.if_icmp .le 5, 3) := by decide +kernel
theorem dX7_row_17 : decode cX7_row 17 = .ok (.iconst (-1), 1) := by decide +kernel
theorem dX7_row_18 : decode cX7_row 18 = .ok (.ireturn, 1) := by decide +kernel
theorem dX7_row_19 : decode cX7_row 19 = .ok (.iload_n 2, 1) := by decide +kernel
theorem dX7_row_20 : decode cX7_row 20 = .ok (.ifCond .ge 9, 3) := by decide +kernel
theorem dX7_row_23 : decode cX7_row 23 = .ok (.aload_n 0, 1) := by decide +kernel
theorem dX7_row_24 : decode cX7_row 24 = .ok (.iconst 5, 1) := by decide +kernel
theorem dX7_row_25 : decode cX7_row 25 = .ok (.invokevirtual 90, 3) := by decide +kernel
theorem dX7_row_28 : decode cX7_row 28 = .ok (.ireturn, 1) := by decide +kernel
theorem dX7_row_29 : decode cX7_row 29 = .ok (.aload_n 0, 1) := by decide +kernel
theorem dX7_row_30 : decode cX7_row 30 = .ok (.getfield 14, 3) := by decide +kernel
theorem dX7_row_33 : decode cX7_row 33 = .ok (.iload_n 1, 1) := by decide +kernel
theorem dX7_row_34 : decode cX7_row 34 = .ok (.iload_n 2, 1) := by decide +kernel
theorem dX7_row_35 : decode cX7_row 35 = .ok (.iconst 0, 1) := by decide +kernel
theorem dX7_row_36 : decode cX7_row 36 = .ok (.invokevirtual 94, 3) := by decide +kernel
theorem dX7_row_39 : decode cX7_row 39 = .ok (.iload_n 2, 1) := by decide +kernel
theorem dX7_row_40 : decode cX7_row 40 = .ok (.ireturn, 1) := by decide +kernel
theorem dX7_lay_0 : decode cX7_lay 0 = .ok (.aload_n 0, 1) := by decide +kernel
theorem dX7_lay_1 : decode cX7_lay 1 = .ok (.getfield 14, 3) := by decide +kernel
theorem dX7_lay_4 : decode cX7_lay 4 = .ok (.iload_n 1, 1) := by decide +kernel
theorem dX7_lay_5 : decode cX7_lay 5 = .ok (.invokevirtual 86, 3) := by decide +kernel
theorem dX7_lay_8 : decode cX7_lay 8 = .ok (.ifCond .ne 5, 3) := by decide +kernel
theorem dX7_lay_11 : decode cX7_lay 11 = .ok (.iconst (-1), 1) := by decide +kernel
theorem dX7_lay_12 : decode cX7_lay 12 = .ok (.ireturn, 1) := by decide +kernel
theorem dX7_lay_13 : decode cX7_lay 13 = .ok (.aload_n 0, 1) := by decide +kernel
theorem dX7_lay_14 : decode cX7_lay 14 = .ok (.getfield 14, 3) := by decide +kernel
theorem dX7_lay_17 : decode cX7_lay 17 = .ok (.iload_n 1, 1) := by decide +kernel
theorem dX7_lay_18 : decode cX7_lay 18 = .ok (.iload_n 2, 1) := by decide +kernel
theorem dX7_lay_19 : decode cX7_lay 19 = .ok (.invokestatic 98, 3) := by decide +kernel
theorem dX7_lay_22 : decode cX7_lay 22 = .ok (.istore 4, 2) := by decide +kernel
theorem dX7_lay_24 : decode cX7_lay 24 = .ok (.iload 4, 2) := by decide +kernel
theorem dX7_lay_26 : decode cX7_lay 26 = .ok (.ifCond .eq 10, 3) := by decide +kernel
theorem dX7_lay_29 : decode cX7_lay 29 = .ok (.aload_n 0, 1) := by decide +kernel
theorem dX7_lay_30 : decode cX7_lay 30 = .ok (.iload 4, 2) := by decide +kernel
theorem dX7_lay_32 : decode cX7_lay 32 = .ok (.invokevirtual 90, 3) := by decide +kernel
theorem dX7_lay_35 : decode cX7_lay 35 = .ok (.ireturn, 1) := by decide +kernel
theorem dX7_lay_36 : decode cX7_lay 36 = .ok (.aload_n 0, 1) := by decide +kernel
theorem dX7_lay_37 : decode cX7_lay 37 = .ok (.aload_n 0, 1) := by decide +kernel
theorem dX7_lay_38 : decode cX7_lay 38 = .ok (.getfield 14, 3) := by decide +kernel
theorem dX7_lay_41 : decode cX7_lay 41 = .ok (.iload_n 1, 1) := by decide +kernel
theorem dX7_lay_42 : decode cX7_lay 42 = .ok (.iload_n 2, 1) := by decide +kernel
theorem dX7_lay_43 : decode cX7_lay 43 = .ok (.invokevirtual 102, 3) := by decide +kernel
theorem dX7_lay_46 : decode cX7_lay 46 = .ok (.putfield 76, 3) := by decide +kernel
theorem dX7_lay_49 : decode cX7_lay 49 = .ok (.aload_n 0, 1) := by decide +kernel
theorem dX7_lay_50 : decode cX7_lay 50 = .ok (.getfield 14, 3) := by decide +kernel
theorem dX7_lay_53 : decode cX7_lay 53 = .ok (.iload_n 1, 1) := by decide +kernel
theorem dX7_lay_54 : decode cX7_lay 54 = .ok (.iload_n 2, 1) := by decide +kernel
theorem dX7_lay_55 : decode cX7_lay 55 = .ok (.iload_n 3, 1) := by decide +kernel
theorem dX7_lay_56 : decode cX7_lay 56 = .ok (.invokevirtual 106, 3) := by decide +kernel
theorem dX7_lay_59 : decode cX7_lay 59 = .ok (.iconst 1, 1) := by decide +kernel
theorem dX7_lay_60 : decode cX7_lay 60 = .ok (.ireturn, 1) := by decide +kernel
theorem dX7_at_0 : decode cX7_at 0 = .ok (.aload_n 0, 1) := by decide +kernel
theorem dX7_at_1 : decode cX7_at 1 = .ok (.getfield 14, 3) := by decide +kernel
theorem dX7_at_4 : decode cX7_at 4 = .ok (.iload_n 1, 1) := by decide +kernel
theorem dX7_at_5 : decode cX7_at 5 = .ok (.invokevirtual 86, 3) := by decide +kernel
theorem dX7_at_8 : decode cX7_at 8 = .ok (.ifCond .ne 5, 3) := by decide +kernel
theorem dX7_at_11 : decode cX7_at 11 = .ok (.iconst (-1), 1) := by decide +kernel
theorem dX7_at_12 : decode cX7_at 12 = .ok (.ireturn, 1) := by decide +kernel
theorem dX7_at_13 : decode cX7_at 13 = .ok (.aload_n 0, 1) := by decide +kernel
theorem dX7_at_14 : decode cX7_at 14 = .ok (.getfield 14, 3) := by decide +kernel
theorem dX7_at_17 : decode cX7_at 17 = .ok (.iload_n 1, 1) := by decide +kernel
theorem dX7_at_18 : decode cX7_at 18 = .ok (.iload_n 2, 1) := by decide +kernel
theorem dX7_at_19 : decode cX7_at 19 = .ok (.invokestatic 98, 3) := by decide +kernel
theorem dX7_at_22 : decode cX7_at 22 = .ok (.istore_n 3, 1) := by decide +kernel
theorem dX7_at_23 : decode cX7_at 23 = .ok (.iload_n 3, 1) := by decide +kernel
theorem dX7_at_24 : decode cX7_at 24 = .ok (.ifCond .eq 9, 3) := by decide +kernel
theorem dX7_at_27 : decode cX7_at 27 = .ok (.aload_n 0, 1) := by decide +kernel
theorem dX7_at_28 : decode cX7_at 28 = .ok (.iload_n 3, 1) := by decide +kernel
theorem dX7_at_29 : decode cX7_at 29 = .ok (.invokevirtual 90, 3) := by decide +kernel
theorem dX7_at_32 : decode cX7_at 32 = .ok (.ireturn, 1) := by decide +kernel
theorem dX7_at_33 : decode cX7_at 33 = .ok (.aload_n 0, 1) := by decide +kernel
theorem dX7_at_34 : decode cX7_at 34 = .ok (.aload_n 0, 1) := by decide +kernel
theorem dX7_at_35 : decode cX7_at 35 = .ok (.getfield 14, 3) := by decide +kernel
theorem dX7_at_38 : decode cX7_at 38 = .ok (.iload_n 1, 1) := by decide +kernel
theorem dX7_at_39 : decode cX7_at 39 = .ok (.iload_n 2, 1) := by decide +kernel
theorem dX7_at_40 : decode cX7_at 40 = .ok (.invokevirtual 102, 3) := by decide +kernel
theorem dX7_at_43 : decode cX7_at 43 = .ok (.putfield 76, 3) := by decide +kernel
theorem dX7_at_46 : decode cX7_at 46 = .ok (.iconst 1, 1) := by decide +kernel
theorem dX7_at_47 : decode cX7_at 47 = .ok (.ireturn, 1) := by decide +kernel
theorem dX7_text_0 : decode cX7_text 0 = .ok (.aload_n 0, 1) := by decide +kernel
theorem dX7_text_1 : decode cX7_text 1 = .ok (.getfield 18, 3) := by decide +kernel
theorem dX7_text_4 : decode cX7_text 4 = .ok (.iload_n 1, 1) := by decide +kernel
theorem dX7_text_5 : decode cX7_text 5 = .ok (.invokevirtual 86, 3) := by decide +kernel
theorem dX7_text_8 : decode cX7_text 8 = .ok (.ifCond .eq 9, 3) := by decide +kernel
theorem dX7_text_11 : decode cX7_text 11 = .ok (.iload_n 2, 1) := by decide +kernel
theorem dX7_text_12 : decode cX7_text 12 = .ok (.bipush 60, 2) := by decide +kernel
theorem dX7_text_14 : decode cX7_text 14 = .ok (.if_icmp .le 5, 3) := by decide +kernel
theorem dX7_text_17 : decode cX7_text 17 = .ok (.iconst (-1), 1) := by decide +kernel
theorem dX7_text_18 : decode cX7_text 18 = .ok (.ireturn, 1) := by decide +kernel
theorem dX7_text_19 : decode cX7_text 19 = .ok (.iload_n 2, 1) := by decide +kernel
theorem dX7_text_20 : decode cX7_text 20 = .ok (.ifCond .ge 9, 3) := by decide +kernel
theorem dX7_text_23 : decode cX7_text 23 = .ok (.aload_n 0, 1) := by decide +kernel
theorem dX7_text_24 : decode cX7_text 24 = .ok (.iconst 5, 1) := by decide +kernel
theorem dX7_text_25 : decode cX7_text 25 = .ok (.invokevirtual 90, 3) := by decide +kernel
theorem dX7_text_28 : decode cX7_text 28 = .ok (.ireturn, 1) := by decide +kernel
theorem dX7_text_29 : decode cX7_text 29 = .ok (.aload_n 0, 1) := by decide +kernel
theorem dX7_text_30 : decode cX7_text 30 = .ok (.getfield 18, 3) := by decide +kernel
theorem dX7_text_33 : decode cX7_text 33 = .ok (.iload_n 1, 1) := by decide +kernel
theorem dX7_text_34 : decode cX7_text 34 = .ok (.iload_n 2, 1) := by decide +kernel
theorem dX7_text_35 : decode cX7_text 35 = .ok (.bipush 32, 2) := by decide +kernel
theorem dX7_text_37 : decode cX7_text 37 = .ok (.invokevirtual 94, 3) := by decide +kernel
theorem dX7_text_40 : decode cX7_text 40 = .ok (.iload_n 2, 1) := by decide +kernel
theorem dX7_text_41 : decode cX7_text 41 = .ok (.ireturn, 1) := by decide +kernel
theorem dX7_put_0 : decode cX7_put 0 = .ok (.aload_n 0, 1) := by decide +kernel
theorem dX7_put_1 : decode cX7_put 1 = .ok (.getfield 18, 3) := by decide +kernel
theorem dX7_put_4 : decode cX7_put 4 = .ok (.iload_n 1, 1) := by decide +kernel
theorem dX7_put_5 : decode cX7_put 5 = .ok (.invokevirtual 86, 3) := by decide +kernel
theorem dX7_put_8 : decode cX7_put 8 = .ok (.ifCond .ne 5, 3) := by decide +kernel
theorem dX7_put_11 : decode cX7_put 11 = .ok (.iconst (-1), 1) := by decide +kernel
theorem dX7_put_12 : decode cX7_put 12 = .ok (.ireturn, 1) := by decide +kernel
theorem dX7_put_13 : decode cX7_put 13 = .ok (.aload_n 0, 1) := by decide +kernel
theorem dX7_put_14 : decode cX7_put 14 = .ok (.getfield 18, 3) := by decide +kernel
theorem dX7_put_17 : decode cX7_put 17 = .ok (.iload_n 1, 1) := by decide +kernel
theorem dX7_put_18 : decode cX7_put 18 = .ok (.iload_n 2, 1) := by decide +kernel
theorem dX7_put_19 : decode cX7_put 19 = .ok (.invokestatic 98, 3) := by decide +kernel
theorem dX7_put_22 : decode cX7_put 22 = .ok (.istore 4, 2) := by decide +kernel
theorem dX7_put_24 : decode cX7_put 24 = .ok (.iload 4, 2) := by decide +kernel
theorem dX7_put_26 : decode cX7_put 26 = .ok (.ifCond .eq 10, 3) := by decide +kernel
theorem dX7_put_29 : decode cX7_put 29 = .ok (.aload_n 0, 1) := by decide +kernel
theorem dX7_put_30 : decode cX7_put 30 = .ok (.iload 4, 2) := by decide +kernel
theorem dX7_put_32 : decode cX7_put 32 = .ok (.invokevirtual 90, 3) := by decide +kernel
theorem dX7_put_35 : decode cX7_put 35 = .ok (.ireturn, 1) := by decide +kernel
theorem dX7_put_36 : decode cX7_put 36 = .ok (.aload_n 0, 1) := by decide +kernel
theorem dX7_put_37 : decode cX7_put 37 = .ok (.getfield 18, 3) := by decide +kernel
theorem dX7_put_40 : decode cX7_put 40 = .ok (.iload_n 1, 1) := by decide +kernel
theorem dX7_put_41 : decode cX7_put 41 = .ok (.iload_n 2, 1) := by decide +kernel
theorem dX7_put_42 : decode cX7_put 42 = .ok (.invokevirtual 102, 3) := by decide +kernel
theorem dX7_put_45 : decode cX7_put 45 = .ok (.istore 5, 2) := by decide +kernel
theorem dX7_put_47 : decode cX7_put 47 = .ok (.aload_n 0, 1) := by decide +kernel
theorem dX7_put_48 : decode cX7_put 48 = .ok (.getfield 18, 3) := by decide +kernel
theorem dX7_put_51 : decode cX7_put 51 = .ok (.iload_n 1, 1) := by decide +kernel
theorem dX7_put_52 : decode cX7_put 52 = .ok (.iload_n 2, 1) := by decide +kernel
theorem dX7_put_53 : decode cX7_put 53 = .ok (.iload_n 3, 1) := by decide +kernel
theorem dX7_put_54 : decode cX7_put 54 = .ok (.i2b, 1) := by decide +kernel
theorem dX7_put_55 : decode cX7_put 55 = .ok (.invokevirtual 106, 3) := by decide +kernel
theorem dX7_put_58 : decode cX7_put 58 = .ok (.iload 5, 2) := by decide +kernel
theorem dX7_put_60 : decode cX7_put 60 = .ok (.sipush 1000, 3) := by decide +kernel
theorem dX7_put_63 : decode cX7_put 63 = .ok (.iadd, 1) := by decide +kernel
theorem dX7_put_64 : decode cX7_put 64 = .ok (.ireturn, 1) := by decide +kernel
theorem dX7_court_0 : decode cX7_court 0 = .ok (.aload_n 0, 1) := by decide +kernel
theorem dX7_court_1 : decode cX7_court 1 = .ok (.getfield 18, 3) := by decide +kernel
theorem dX7_court_4 : decode cX7_court 4 = .ok (.iload_n 1, 1) := by decide +kernel
theorem dX7_court_5 : decode cX7_court 5 = .ok (.invokevirtual 86, 3) := by decide +kernel
theorem dX7_court_8 : decode cX7_court 8 = .ok (.ifCond .ne 5, 3) := by decide +kernel
theorem dX7_court_11 : decode cX7_court 11 = .ok (.iconst (-1), 1) := by decide +kernel
theorem dX7_court_12 : decode cX7_court 12 = .ok (.ireturn, 1) := by decide +kernel
theorem dX7_court_13 : decode cX7_court 13 = .ok (.aload_n 0, 1) := by decide +kernel
theorem dX7_court_14 : decode cX7_court 14 = .ok (.getfield 18, 3) := by decide +kernel
theorem dX7_court_17 : decode cX7_court 17 = .ok (.iload_n 1, 1) := by decide +kernel
theorem dX7_court_18 : decode cX7_court 18 = .ok (.invokevirtual 109, 3) := by decide +kernel
theorem dX7_court_21 : decode cX7_court 21 = .ok (.ifCond .ne 9, 3) := by decide +kernel
theorem dX7_court_24 : decode cX7_court 24 = .ok (.aload_n 0, 1) := by decide +kernel
theorem dX7_court_25 : decode cX7_court 25 = .ok (.iconst 1, 1) := by decide +kernel
theorem dX7_court_26 : decode cX7_court 26 = .ok (.invokevirtual 90, 3) := by decide +kernel
theorem dX7_court_29 : decode cX7_court 29 = .ok (.ireturn, 1) := by decide +kernel
theorem dX7_court_30 : decode cX7_court 30 = .ok (.aload_n 0, 1) := by decide +kernel
theorem dX7_court_31 : decode cX7_court 31 = .ok (.getfield 38, 3) := by decide +kernel
theorem dX7_court_34 : decode cX7_court 34 = .ok (.aload_n 0, 1) := by decide +kernel
theorem dX7_court_35 : decode cX7_court 35 = .ok (.getfield 28, 3) := by decide +kernel
theorem dX7_court_38 : decode cX7_court 38 = .ok (.aload_n 0, 1) := by decide +kernel
theorem dX7_court_39 : decode cX7_court 39 = .ok (.getfield 18, 3) := by decide +kernel
theorem dX7_court_42 : decode cX7_court 42 = .ok (.iload_n 1, 1) := by decide +kernel
theorem dX7_court_43 : decode cX7_court 43 = .ok (.invokevirtual 130, 3) := by decide +kernel
theorem dX7_court_46 : decode cX7_court 46 = .ok (.bipush (-9), 2) := by decide +kernel
theorem dX7_court_48 : decode cX7_court 48 = .ok (.if_icmp .eq 6, 3) := by decide +kernel
theorem dX7_court_51 : decode cX7_court 51 = .ok (.bipush (-4), 2) := by decide +kernel
theorem dX7_court_53 : decode cX7_court 53 = .ok (.ireturn, 1) := by decide +kernel
theorem dX7_court_54 : decode cX7_court 54 = .ok (.aload_n 0, 1) := by decide +kernel
theorem dX7_court_55 : decode cX7_court 55 = .ok (.getfield 24, 3) := by decide +kernel
theorem dX7_court_58 : decode cX7_court 58 = .ok (.aload_n 0, 1) := by decide +kernel
theorem dX7_court_59 : decode cX7_court 59 = .ok (.getfield 28, 3) := by decide +kernel
theorem dX7_court_62 : decode cX7_court 62 = .ok (.invokevirtual 134, 3) := by decide +kernel
theorem dX7_court_65 : decode cX7_court 65 = .ok (.iconst 0, 1) := by decide +kernel
theorem dX7_court_66 : decode cX7_court 66 = .ok (.istore_n 2, 1) := by decide +kernel
theorem dX7_court_67 : decode cX7_court 67 = .ok (.iload_n 2, 1) := by decide +kernel
theorem dX7_court_68 : decode cX7_court 68 = .ok (.iconst 3, 1) := by decide +kernel
theorem dX7_court_69 : decode cX7_court 69 = .ok (.if_icmp .ge 14, 3) := by decide +kernel
theorem dX7_court_72 : decode cX7_court 72 = .ok (.aload_n 0, 1) := by decide +kernel
theorem dX7_court_73 : decode cX7_court 73 = .ok (.iload_n 2, 1) := by decide +kernel
theorem dX7_court_74 : decode cX7_court 74 = .ok (.invokevirtual 138, 3) := by decide +kernel
theorem dX7_court_77 : decode cX7_court 77 = .ok (.iinc 2 1, 3) := by decide +kernel
theorem dX7_court_80 : decode cX7_court 80 = .ok (.goto (-13), 3) := by decide +kernel
theorem dX7_court_83 : decode cX7_court 83 = .ok (.aload_n 0, 1) := by decide +kernel
theorem dX7_court_84 : decode cX7_court 84 = .ok (.getfield 24, 3) := by decide +kernel
theorem dX7_court_87 : decode cX7_court 87 = .ok (.getfield 141, 3) := by decide +kernel
theorem dX7_court_90 : decode cX7_court 90 = .ok (.ireturn, 1) := by decide +kernel
theorem dX7_bear_0 : decode cX7_bear 0 = .ok (.aload_n 0, 1) := by decide +kernel
theorem dX7_bear_1 : decode cX7_bear 1 = .ok (.getfield 24, 3) := by decide +kernel
theorem dX7_bear_4 : decode cX7_bear 4 = .ok (.iload_n 1, 1) := by decide +kernel
theorem dX7_bear_5 : decode cX7_bear 5 = .ok (.invokevirtual 144, 3) := by decide +kernel
theorem dX7_bear_8 : decode cX7_bear 8 = .ok (.ifCond .eq 13, 3) := by decide +kernel
theorem dX7_bear_11 : decode cX7_bear 11 = .ok (.iload_n 2, 1) := by decide +kernel
theorem dX7_bear_12 : decode cX7_bear 12 = .ok (.ifCond .lt 9, 3) := by decide +kernel
theorem dX7_bear_15 : decode cX7_bear 15 = .ok (.iload_n 2, 1) := by decide +kernel
theorem dX7_bear_16 : decode cX7_bear 16 = .ok (.bipush 6, 2) := by decide +kernel
theorem dX7_bear_18 : decode cX7_bear 18 = .ok (.if_icmp .lt 5, 3) := by decide +kernel
theorem dX7_bear_21 : decode cX7_bear 21 = .ok (.iconst (-1), 1) := by decide +kernel
theorem dX7_bear_22 : decode cX7_bear 22 = .ok (.ireturn, 1) := by decide +kernel
theorem dX7_bear_23 : decode cX7_bear 23 = .ok (.aload_n 0, 1) := by decide +kernel
theorem dX7_bear_24 : decode cX7_bear 24 = .ok (.aload_n 0, 1) := by decide +kernel
theorem dX7_bear_25 : decode cX7_bear 25 = .ok (.iload_n 1, 1) := by decide +kernel
theorem dX7_bear_26 : decode cX7_bear 26 = .ok (.iload_n 2, 1) := by decide +kernel
theorem dX7_bear_27 : decode cX7_bear 27 = .ok (.invokevirtual 147, 3) := by decide +kernel
theorem dX7_bear_30 : decode cX7_bear 30 = .ok (.putfield 76, 3) := by decide +kernel
theorem dX7_bear_33 : decode cX7_bear 33 = .ok (.iconst 1, 1) := by decide +kernel
theorem dX7_bear_34 : decode cX7_bear 34 = .ok (.ireturn, 1) := by decide +kernel
theorem dX7_press_0 : decode cX7_press 0 = .ok (.aload_n 0, 1) := by decide +kernel
theorem dX7_press_1 : decode cX7_press 1 = .ok (.iconst 0, 1) := by decide +kernel
theorem dX7_press_2 : decode cX7_press 2 = .ok (.iload_n 1, 1) := by decide +kernel
theorem dX7_press_3 : decode cX7_press 3 = .ok (.invokevirtual 162, 3) := by decide +kernel
theorem dX7_press_6 : decode cX7_press 6 = .ok (.ireturn, 1) := by decide +kernel
theorem dX7_mend_0 : decode cX7_mend 0 = .ok (.aload_n 0, 1) := by decide +kernel
theorem dX7_mend_1 : decode cX7_mend 1 = .ok (.iconst 1, 1) := by decide +kernel
theorem dX7_mend_2 : decode cX7_mend 2 = .ok (.iload_n 1, 1) := by decide +kernel
theorem dX7_mend_3 : decode cX7_mend 3 = .ok (.invokevirtual 162, 3) := by decide +kernel
theorem dX7_mend_6 : decode cX7_mend 6 = .ok (.ireturn, 1) := by decide +kernel
theorem dX7_eye_0 : decode cX7_eye 0 = .ok (.aload_n 0, 1) := by decide +kernel
theorem dX7_eye_1 : decode cX7_eye 1 = .ok (.iconst 2, 1) := by decide +kernel
theorem dX7_eye_2 : decode cX7_eye 2 = .ok (.iload_n 1, 1) := by decide +kernel
theorem dX7_eye_3 : decode cX7_eye 3 = .ok (.invokevirtual 162, 3) := by decide +kernel
theorem dX7_eye_6 : decode cX7_eye 6 = .ok (.ireturn, 1) := by decide +kernel
theorem dX7_turn_0 : decode cX7_turn 0 = .ok (.aload_n 0, 1) := by decide +kernel
theorem dX7_turn_1 : decode cX7_turn 1 = .ok (.iconst 3, 1) := by decide +kernel
theorem dX7_turn_2 : decode cX7_turn 2 = .ok (.iload_n 1, 1) := by decide +kernel
theorem dX7_turn_3 : decode cX7_turn 3 = .ok (.invokevirtual 162, 3) := by decide +kernel
theorem dX7_turn_6 : decode cX7_turn 6 = .ok (.ireturn, 1) := by decide +kernel
theorem dX7_undo_0 : decode cX7_undo 0 = .ok (.iload_n 1, 1) := by decide +kernel
theorem dX7_undo_1 : decode cX7_undo 1 = .ok (.ifCond .lt 14, 3) := by decide +kernel
theorem dX7_undo_4 : decode cX7_undo 4 = .ok (.iload_n 1, 1) := by decide +kernel
theorem dX7_undo_5 : decode cX7_undo 5 = .ok (.aload_n 0, 1) := by decide +kernel
theorem dX7_undo_6 : decode cX7_undo 6 = .ok (.getfield 24, 3) := by decide +kernel
theorem dX7_undo_9 : decode cX7_undo 9 = .ok (.getfield 165, 3) := by decide +kernel
theorem dX7_undo_12 : decode cX7_undo 12 = .ok (.if_icmp .le 5, 3) := by decide +kernel
theorem dX7_undo_15 : decode cX7_undo 15 = .ok (.iconst (-1), 1) := by decide +kernel
theorem dX7_undo_16 : decode cX7_undo 16 = .ok (.ireturn, 1) := by decide +kernel
theorem dX7_undo_17 : decode cX7_undo 17 = .ok (.aload_n 0, 1) := by decide +kernel
theorem dX7_undo_18 : decode cX7_undo 18 = .ok (.getfield 24, 3) := by decide +kernel
theorem dX7_undo_21 : decode cX7_undo 21 = .ok (.getfield 165, 3) := by decide +kernel
theorem dX7_undo_24 : decode cX7_undo 24 = .ok (.iload_n 1, 1) := by decide +kernel
theorem dX7_undo_25 : decode cX7_undo 25 = .ok (.isub, 1) := by decide +kernel
theorem dX7_undo_26 : decode cX7_undo 26 = .ok (.istore_n 2, 1) := by decide +kernel
theorem dX7_undo_27 : decode cX7_undo 27 = .ok (.aload_n 0, 1) := by decide +kernel
theorem dX7_undo_28 : decode cX7_undo 28 = .ok (.getfield 24, 3) := by decide +kernel
theorem dX7_undo_31 : decode cX7_undo 31 = .ok (.iload_n 1, 1) := by decide +kernel
theorem dX7_undo_32 : decode cX7_undo 32 = .ok (.invokevirtual 168, 3) := by decide +kernel
theorem dX7_undo_35 : decode cX7_undo 35 = .ok (.iload_n 2, 1) := by decide +kernel
theorem dX7_undo_36 : decode cX7_undo 36 = .ok (.ireturn, 1) := by decide +kernel
theorem dX7_keep_0 : decode cX7_keep 0 = .ok (.iload_n 1, 1) := by decide +kernel
theorem dX7_keep_1 : decode cX7_keep 1 = .ok (.ifCond .lt 12, 3) := by decide +kernel
theorem dX7_keep_4 : decode cX7_keep 4 = .ok (.iload_n 1, 1) := by decide +kernel
theorem dX7_keep_5 : decode cX7_keep 5 = .ok (.aload_n 0, 1) := by decide +kernel
theorem dX7_keep_6 : decode cX7_keep 6 = .ok (.getfield 31, 3) := by decide +kernel
theorem dX7_keep_9 : decode cX7_keep 9 = .ok (.arraylength, 1) := by decide +kernel
theorem dX7_keep_10 : decode cX7_keep 10 = .ok (.if_icmp .lt 5, 3) := by decide +kernel
theorem dX7_keep_13 : decode cX7_keep 13 = .ok (.iconst (-1), 1) := by decide +kernel
theorem dX7_keep_14 : decode cX7_keep 14 = .ok (.ireturn, 1) := by decide +kernel
theorem dX7_keep_15 : decode cX7_keep 15 = .ok (.aload_n 0, 1) := by decide +kernel
theorem dX7_keep_16 : decode cX7_keep 16 = .ok (.getfield 24, 3) := by decide +kernel
theorem dX7_keep_19 : decode cX7_keep 19 = .ok (.getfield 141, 3) := by decide +kernel
theorem dX7_keep_22 : decode cX7_keep 22 = .ok (.ifCond .ne 6, 3) := by decide +kernel
theorem dX7_keep_25 : decode cX7_keep 25 = .ok (.bipush (-4), 2) := by decide +kernel
theorem dX7_keep_27 : decode cX7_keep 27 = .ok (.ireturn, 1) := by decide +kernel
theorem dX7_keep_28 : decode cX7_keep 28 = .ok (.aload_n 0, 1) := by decide +kernel
theorem dX7_keep_29 : decode cX7_keep 29 = .ok (.getfield 31, 3) := by decide +kernel
theorem dX7_keep_32 : decode cX7_keep 32 = .ok (.iload_n 1, 1) := by decide +kernel
theorem dX7_keep_33 : decode cX7_keep 33 = .ok (.aaload, 1) := by decide +kernel
theorem dX7_keep_34 : decode cX7_keep 34 = .ok (.astore_n 2, 1) := by decide +kernel
theorem dX7_keep_35 : decode cX7_keep 35 = .ok (.aload_n 2, 1) := by decide +kernel
theorem dX7_keep_36 : decode cX7_keep 36 = .ok (.ifnonnull 18, 3) := by decide +kernel
theorem dX7_keep_39 : decode cX7_keep 39 = .ok (.new 21, 3) := by decide +kernel
theorem dX7_keep_42 : decode cX7_keep 42 = .ok (.dup, 1) := by decide +kernel
theorem dX7_keep_43 : decode cX7_keep 43 = .ok (.invokespecial 23, 3) := by decide +kernel
theorem dX7_keep_46 : decode cX7_keep 46 = .ok (.astore_n 2, 1) := by decide +kernel
theorem dX7_keep_47 : decode cX7_keep 47 = .ok (.aload_n 0, 1) := by decide +kernel
theorem dX7_keep_48 : decode cX7_keep 48 = .ok (.getfield 31, 3) := by decide +kernel
theorem dX7_keep_51 : decode cX7_keep 51 = .ok (.iload_n 1, 1) := by decide +kernel
theorem dX7_keep_52 : decode cX7_keep 52 = .ok (.aload_n 2, 1) := by decide +kernel
theorem dX7_keep_53 : decode cX7_keep 53 = .ok (.aastore, 1) := by decide +kernel
theorem dX7_keep_54 : decode cX7_keep 54 = .ok (.aload_n 2, 1) := by decide +kernel
theorem dX7_keep_55 : decode cX7_keep 55 = .ok (.aload_n 0, 1) := by decide +kernel
theorem dX7_keep_56 : decode cX7_keep 56 = .ok (.getfield 24, 3) := by decide +kernel
theorem dX7_keep_59 : decode cX7_keep 59 = .ok (.invokevirtual 134, 3) := by decide +kernel
theorem dX7_keep_62 : decode cX7_keep 62 = .ok (.aload_n 0, 1) := by decide +kernel
theorem dX7_keep_63 : decode cX7_keep 63 = .ok (.getfield 24, 3) := by decide +kernel
theorem dX7_keep_66 : decode cX7_keep 66 = .ok (.getfield 165, 3) := by decide +kernel
theorem dX7_keep_69 : decode cX7_keep 69 = .ok (.ireturn, 1) := by decide +kernel
theorem dX7_on_0 : decode cX7_on 0 = .ok (.iload_n 1, 1) := by decide +kernel
theorem dX7_on_1 : decode cX7_on 1 = .ok (.ifCond .lt 8, 3) := by decide +kernel
theorem dX7_on_4 : decode cX7_on 4 = .ok (.iload_n 1, 1) := by decide +kernel
theorem dX7_on_5 : decode cX7_on 5 = .ok (.iconst 3, 1) := by decide +kernel
theorem dX7_on_6 : decode cX7_on 6 = .ok (.if_icmp .lt 5, 3) := by decide +kernel
theorem dX7_on_9 : decode cX7_on 9 = .ok (.iconst (-1), 1) := by decide +kernel
theorem dX7_on_10 : decode cX7_on 10 = .ok (.ireturn, 1) := by decide +kernel
theorem dX7_on_11 : decode cX7_on 11 = .ok (.aload_n 0, 1) := by decide +kernel
theorem dX7_on_12 : decode cX7_on 12 = .ok (.iload_n 1, 1) := by decide +kernel
theorem dX7_on_13 : decode cX7_on 13 = .ok (.invokevirtual 171, 3) := by decide +kernel
theorem dX7_on_16 : decode cX7_on 16 = .ok (.astore_n 2, 1) := by decide +kernel
theorem dX7_on_17 : decode cX7_on 17 = .ok (.aload_n 2, 1) := by decide +kernel
theorem dX7_on_18 : decode cX7_on 18 = .ok (.ifnonnull 9, 3) := by decide +kernel
theorem dX7_on_21 : decode cX7_on 21 = .ok (.aload_n 0, 1) := by decide +kernel
theorem dX7_on_22 : decode cX7_on 22 = .ok (.iconst 1, 1) := by decide +kernel
theorem dX7_on_23 : decode cX7_on 23 = .ok (.invokevirtual 90, 3) := by decide +kernel
theorem dX7_on_26 : decode cX7_on 26 = .ok (.ireturn, 1) := by decide +kernel
theorem dX7_on_27 : decode cX7_on 27 = .ok (.aload_n 0, 1) := by decide +kernel
theorem dX7_on_28 : decode cX7_on 28 = .ok (.getfield 24, 3) := by decide +kernel
theorem dX7_on_31 : decode cX7_on 31 = .ok (.aload_n 2, 1) := by decide +kernel
theorem dX7_on_32 : decode cX7_on 32 = .ok (.invokevirtual 134, 3) := by decide +kernel
theorem dX7_on_35 : decode cX7_on 35 = .ok (.aload_n 0, 1) := by decide +kernel
theorem dX7_on_36 : decode cX7_on 36 = .ok (.getfield 24, 3) := by decide +kernel
theorem dX7_on_39 : decode cX7_on 39 = .ok (.getfield 165, 3) := by decide +kernel
theorem dX7_on_42 : decode cX7_on 42 = .ok (.ireturn, 1) := by decide +kernel
theorem dX7_tells_0 : decode cX7_tells 0 = .ok (.aload_n 0, 1) := by decide +kernel
theorem dX7_tells_1 : decode cX7_tells 1 = .ok (.getfield 24, 3) := by decide +kernel
theorem dX7_tells_4 : decode cX7_tells 4 = .ok (.iload_n 1, 1) := by decide +kernel
theorem dX7_tells_5 : decode cX7_tells 5 = .ok (.invokevirtual 144, 3) := by decide +kernel
theorem dX7_tells_8 : decode cX7_tells 8 = .ok (.ifCond .eq 10, 3) := by decide +kernel
theorem dX7_tells_11 : decode cX7_tells 11 = .ok (.iload_n 2, 1) := by decide +kernel
theorem dX7_tells_12 : decode cX7_tells 12 = .ok (.invokestatic 175, 3) := by decide +kernel
theorem dX7_tells_15 : decode cX7_tells 15 = .ok (.ifCond .ne 5, 3) := by decide +kernel
theorem dX7_tells_18 : decode cX7_tells 18 = .ok (.iconst (-1), 1) := by decide +kernel
theorem dX7_tells_19 : decode cX7_tells 19 = .ok (.ireturn, 1) := by decide +kernel
theorem dX7_tells_20 : decode cX7_tells 20 = .ok (.aload_n 0, 1) := by decide +kernel
theorem dX7_tells_21 : decode cX7_tells 21 = .ok (.getfield 24, 3) := by decide +kernel
theorem dX7_tells_24 : decode cX7_tells 24 = .ok (.iload_n 1, 1) := by decide +kernel
theorem dX7_tells_25 : decode cX7_tells 25 = .ok (.iload_n 2, 1) := by decide +kernel
theorem dX7_tells_26 : decode cX7_tells 26 = .ok (.invokevirtual 178, 3) := by decide +kernel
theorem dX7_tells_29 : decode cX7_tells 29 = .ok (.ireturn, 1) := by decide +kernel
theorem dX7_shown_0 : decode cX7_shown 0 = .ok (.aload_n 0, 1) := by decide +kernel
theorem dX7_shown_1 : decode cX7_shown 1 = .ok (.getfield 24, 3) := by decide +kernel
theorem dX7_shown_4 : decode cX7_shown 4 = .ok (.iload_n 1, 1) := by decide +kernel
theorem dX7_shown_5 : decode cX7_shown 5 = .ok (.invokevirtual 181, 3) := by decide +kernel
theorem dX7_shown_8 : decode cX7_shown 8 = .ok (.ifCond .ne 5, 3) := by decide +kernel
theorem dX7_shown_11 : decode cX7_shown 11 = .ok (.iconst (-1), 1) := by decide +kernel
theorem dX7_shown_12 : decode cX7_shown 12 = .ok (.ireturn, 1) := by decide +kernel
theorem dX7_shown_13 : decode cX7_shown 13 = .ok (.aload_n 0, 1) := by decide +kernel
theorem dX7_shown_14 : decode cX7_shown 14 = .ok (.getfield 24, 3) := by decide +kernel
theorem dX7_shown_17 : decode cX7_shown 17 = .ok (.getfield 141, 3) := by decide +kernel
theorem dX7_shown_20 : decode cX7_shown 20 = .ok (.ifCond .ne 6, 3) := by decide +kernel
theorem dX7_shown_23 : decode cX7_shown 23 = .ok (.bipush (-4), 2) := by decide +kernel
theorem dX7_shown_25 : decode cX7_shown 25 = .ok (.ireturn, 1) := by decide +kernel
theorem dX7_shown_26 : decode cX7_shown 26 = .ok (.aload_n 0, 1) := by decide +kernel
theorem dX7_shown_27 : decode cX7_shown 27 = .ok (.getfield 52, 3) := by decide +kernel
theorem dX7_shown_30 : decode cX7_shown 30 = .ok (.aload_n 0, 1) := by decide +kernel
theorem dX7_shown_31 : decode cX7_shown 31 = .ok (.getfield 24, 3) := by decide +kernel
theorem dX7_shown_34 : decode cX7_shown 34 = .ok (.invokevirtual 184, 3) := by decide +kernel
theorem dX7_shown_37 : decode cX7_shown 37 = .ok (.aload_n 0, 1) := by decide +kernel
theorem dX7_shown_38 : decode cX7_shown 38 = .ok (.aload_n 0, 1) := by decide +kernel
theorem dX7_shown_39 : decode cX7_shown 39 = .ok (.getfield 52, 3) := by decide +kernel
theorem dX7_shown_42 : decode cX7_shown 42 = .ok (.iload_n 1, 1) := by decide +kernel
theorem dX7_shown_43 : decode cX7_shown 43 = .ok (.invokevirtual 187, 3) := by decide +kernel
theorem dX7_shown_46 : decode cX7_shown 46 = .ok (.putfield 76, 3) := by decide +kernel
theorem dX7_shown_49 : decode cX7_shown 49 = .ok (.aload_n 0, 1) := by decide +kernel
theorem dX7_shown_50 : decode cX7_shown 50 = .ok (.getfield 52, 3) := by decide +kernel
theorem dX7_shown_53 : decode cX7_shown 53 = .ok (.iload_n 1, 1) := by decide +kernel
theorem dX7_shown_54 : decode cX7_shown 54 = .ok (.invokevirtual 190, 3) := by decide +kernel
theorem dX7_shown_57 : decode cX7_shown 57 = .ok (.ireturn, 1) := by decide +kernel
theorem dX7_call_0 : decode cX7_call 0 = .ok (.iload_n 1, 1) := by decide +kernel
theorem dX7_call_1 : decode cX7_call 1 = .ok (.invokestatic 175, 3) := by decide +kernel
theorem dX7_call_4 : decode cX7_call 4 = .ok (.ifCond .ne 5, 3) := by decide +kernel
theorem dX7_call_7 : decode cX7_call 7 = .ok (.iconst (-1), 1) := by decide +kernel
theorem dX7_call_8 : decode cX7_call 8 = .ok (.ireturn, 1) := by decide +kernel
theorem dX7_call_9 : decode cX7_call 9 = .ok (.aload_n 0, 1) := by decide +kernel
theorem dX7_call_10 : decode cX7_call 10 = .ok (.getfield 24, 3) := by decide +kernel
theorem dX7_call_13 : decode cX7_call 13 = .ok (.getfield 141, 3) := by decide +kernel
theorem dX7_call_16 : decode cX7_call 16 = .ok (.ifCond .ne 6, 3) := by decide +kernel
theorem dX7_call_19 : decode cX7_call 19 = .ok (.bipush (-4), 2) := by decide +kernel
theorem dX7_call_21 : decode cX7_call 21 = .ok (.ireturn, 1) := by decide +kernel
theorem dX7_call_22 : decode cX7_call 22 = .ok (.aload_n 0, 1) := by decide +kernel
theorem dX7_call_23 : decode cX7_call 23 = .ok (.getfield 52, 3) := by decide +kernel
theorem dX7_call_26 : decode cX7_call 26 = .ok (.aload_n 0, 1) := by decide +kernel
theorem dX7_call_27 : decode cX7_call 27 = .ok (.getfield 24, 3) := by decide +kernel
theorem dX7_call_30 : decode cX7_call 30 = .ok (.invokevirtual 184, 3) := by decide +kernel
theorem dX7_call_33 : decode cX7_call 33 = .ok (.iconst 0, 1) := by decide +kernel
theorem dX7_call_34 : decode cX7_call 34 = .ok (.istore_n 2, 1) := by decide +kernel
theorem dX7_call_35 : decode cX7_call 35 = .ok (.sipush 1000, 3) := by decide +kernel
theorem dX7_call_38 : decode cX7_call 38 = .ok (.istore_n 3, 1) := by decide +kernel
theorem dX7_call_39 : decode cX7_call 39 = .ok (.iconst 1, 1) := by decide +kernel
theorem dX7_call_40 : decode cX7_call 40 = .ok (.istore 4, 2) := by decide +kernel
theorem dX7_call_42 : decode cX7_call 42 = .ok (.iload 4, 2) := by decide +kernel
theorem dX7_call_44 : decode cX7_call 44 = .ok (.aload_n 0, 1) := by decide +kernel
theorem dX7_call_45 : decode cX7_call 45 = .ok (.getfield 24, 3) := by decide +kernel
theorem dX7_call_48 : decode cX7_call 48 = .ok (.invokevirtual 193, 3) := by decide +kernel
theorem dX7_call_51 : decode cX7_call 51 = .ok (.if_icmp .gt 57, 3) := by decide +kernel
theorem dX7_call_54 : decode cX7_call 54 = .ok (.aload_n 0, 1) := by decide +kernel
theorem dX7_call_55 : decode cX7_call 55 = .ok (.getfield 52, 3) := by decide +kernel
theorem dX7_call_58 : decode cX7_call 58 = .ok (.iload 4, 2) := by decide +kernel
theorem dX7_call_60 : decode cX7_call 60 = .ok (.invokevirtual 190, 3) := by decide +kernel
theorem dX7_call_63 : decode cX7_call 63 = .ok (.istore 5, 2) := by decide +kernel
theorem dX7_call_65 : decode cX7_call 65 = .ok (.bipush 8, 2) := by decide +kernel
theorem dX7_call_67 : decode cX7_call 67 = .ok (.iload 4, 2) := by decide +kernel
theorem dX7_call_69 : decode cX7_call 69 = .ok (.invokestatic 197, 3) := by decide +kernel
theorem dX7_call_72 : decode cX7_call 72 = .ok (.imul, 1) := by decide +kernel
theorem dX7_call_73 : decode cX7_call 73 = .ok (.iload 5, 2) := by decide +kernel
theorem dX7_call_75 : decode cX7_call 75 = .ok (.invokestatic 197, 3) := by decide +kernel
theorem dX7_call_78 : decode cX7_call 78 = .ok (.iadd, 1) := by decide +kernel
theorem dX7_call_79 : decode cX7_call 79 = .ok (.istore 6, 2) := by decide +kernel
theorem dX7_call_81 : decode cX7_call 81 = .ok (.iload 5, 2) := by decide +kernel
theorem dX7_call_83 : decode cX7_call 83 = .ok (.iload_n 1, 1) := by decide +kernel
theorem dX7_call_84 : decode cX7_call 84 = .ok (.invokestatic 202, 3) := by decide +kernel
theorem dX7_call_87 : decode cX7_call 87 = .ok (.ifCond .eq 15, 3) := by decide +kernel
theorem dX7_call_90 : decode cX7_call 90 = .ok (.iload 6, 2) := by decide +kernel
theorem dX7_call_92 : decode cX7_call 92 = .ok (.iload_n 3, 1) := by decide +kernel
theorem dX7_call_93 : decode cX7_call 93 = .ok (.if_icmp .ge 9, 3) := by decide +kernel
theorem dX7_call_96 : decode cX7_call 96 = .ok (.iload 4, 2) := by decide +kernel
theorem dX7_call_98 : decode cX7_call 98 = .ok (.istore_n 2, 1) := by decide +kernel
theorem dX7_call_99 : decode cX7_call 99 = .ok (.iload 6, 2) := by decide +kernel
theorem dX7_call_101 : decode cX7_call 101 = .ok (.istore_n 3, 1) := by decide +kernel
theorem dX7_call_102 : decode cX7_call 102 = .ok (.iinc 4 1, 3) := by decide +kernel
theorem dX7_call_105 : decode cX7_call 105 = .ok (.goto (-63), 3) := by decide +kernel
theorem dX7_call_108 : decode cX7_call 108 = .ok (.iload_n 2, 1) := by decide +kernel
theorem dX7_call_109 : decode cX7_call 109 = .ok (.ifCond .ne 6, 3) := by decide +kernel
theorem dX7_call_112 : decode cX7_call 112 = .ok (.bipush (-9), 2) := by decide +kernel
theorem dX7_call_114 : decode cX7_call 114 = .ok (.ireturn, 1) := by decide +kernel
theorem dX7_call_115 : decode cX7_call 115 = .ok (.aload_n 0, 1) := by decide +kernel
theorem dX7_call_116 : decode cX7_call 116 = .ok (.iload_n 2, 1) := by decide +kernel
theorem dX7_call_117 : decode cX7_call 117 = .ok (.putfield 76, 3) := by decide +kernel
theorem dX7_call_120 : decode cX7_call 120 = .ok (.iload_n 2, 1) := by decide +kernel
theorem dX7_call_121 : decode cX7_call 121 = .ok (.invokestatic 197, 3) := by decide +kernel
theorem dX7_call_124 : decode cX7_call 124 = .ok (.ireturn, 1) := by decide +kernel
theorem dX7_shake_0 : decode cX7_shake 0 = .ok (.iload_n 1, 1) := by decide +kernel
theorem dX7_shake_1 : decode cX7_shake 1 = .ok (.invokestatic 175, 3) := by decide +kernel
theorem dX7_shake_4 : decode cX7_shake 4 = .ok (.ifCond .eq 25, 3) := by decide +kernel
theorem dX7_shake_7 : decode cX7_shake 7 = .ok (.aload_n 0, 1) := by decide +kernel
theorem dX7_shake_8 : decode cX7_shake 8 = .ok (.getfield 24, 3) := by decide +kernel
theorem dX7_shake_11 : decode cX7_shake 11 = .ok (.iload_n 2, 1) := by decide +kernel
theorem dX7_shake_12 : decode cX7_shake 12 = .ok (.invokevirtual 181, 3) := by decide +kernel
theorem dX7_shake_15 : decode cX7_shake 15 = .ok (.ifCond .eq 14, 3) := by decide +kernel
theorem dX7_shake_18 : decode cX7_shake 18 = .ok (.aload_n 0, 1) := by decide +kernel
theorem dX7_shake_19 : decode cX7_shake 19 = .ok (.getfield 14, 3) := by decide +kernel
theorem dX7_shake_22 : decode cX7_shake 22 = .ok (.iload_n 3, 1) := by decide +kernel
theorem dX7_shake_23 : decode cX7_shake 23 = .ok (.invokevirtual 86, 3) := by decide +kernel
theorem dX7_shake_26 : decode cX7_shake 26 = .ok (.ifCond .ne 5, 3) := by decide +kernel
theorem dX7_shake_29 : decode cX7_shake 29 = .ok (.iconst (-1), 1) := by decide +kernel
theorem dX7_shake_30 : decode cX7_shake 30 = .ok (.ireturn, 1) := by decide +kernel
theorem dX7_shake_31 : decode cX7_shake 31 = .ok (.aload_n 0, 1) := by decide +kernel
theorem dX7_shake_32 : decode cX7_shake 32 = .ok (.getfield 24, 3) := by decide +kernel
theorem dX7_shake_35 : decode cX7_shake 35 = .ok (.getfield 141, 3) := by decide +kernel
theorem dX7_shake_38 : decode cX7_shake 38 = .ok (.ifCond .ne 6, 3) := by decide +kernel
theorem dX7_shake_41 : decode cX7_shake 41 = .ok (.bipush (-4), 2) := by decide +kernel
theorem dX7_shake_43 : decode cX7_shake 43 = .ok (.ireturn, 1) := by decide +kernel
theorem dX7_shake_44 : decode cX7_shake 44 = .ok (.aload_n 0, 1) := by decide +kernel
theorem dX7_shake_45 : decode cX7_shake 45 = .ok (.getfield 59, 3) := by decide +kernel
theorem dX7_shake_48 : decode cX7_shake 48 = .ok (.aload_n 0, 1) := by decide +kernel
theorem dX7_shake_49 : decode cX7_shake 49 = .ok (.getfield 24, 3) := by decide +kernel
theorem dX7_shake_52 : decode cX7_shake 52 = .ok (.iload_n 1, 1) := by decide +kernel
theorem dX7_shake_53 : decode cX7_shake 53 = .ok (.iload_n 2, 1) := by decide +kernel
theorem dX7_shake_54 : decode cX7_shake 54 = .ok (.invokevirtual 205, 3) := by decide +kernel
theorem dX7_shake_57 : decode cX7_shake 57 = .ok (.aload_n 0, 1) := by decide +kernel
theorem dX7_shake_58 : decode cX7_shake 58 = .ok (.getfield 59, 3) := by decide +kernel
theorem dX7_shake_61 : decode cX7_shake 61 = .ok (.invokevirtual 209, 3) := by decide +kernel
theorem dX7_shake_64 : decode cX7_shake 64 = .ok (.istore 4, 2) := by decide +kernel
theorem dX7_shake_66 : decode cX7_shake 66 = .ok (.iload 4, 2) := by decide +kernel
theorem dX7_shake_68 : decode cX7_shake 68 = .ok (.bipush (-9), 2) := by decide +kernel
theorem dX7_shake_70 : decode cX7_shake 70 = .ok (.if_icmp .ne 6, 3) := by decide +kernel
theorem dX7_shake_73 : decode cX7_shake 73 = .ok (.bipush (-9), 2) := by decide +kernel
theorem dX7_shake_75 : decode cX7_shake 75 = .ok (.ireturn, 1) := by decide +kernel
theorem dX7_shake_76 : decode cX7_shake 76 = .ok (.aload_n 0, 1) := by decide +kernel
theorem dX7_shake_77 : decode cX7_shake 77 = .ok (.getfield 14, 3) := by decide +kernel
theorem dX7_shake_80 : decode cX7_shake 80 = .ok (.iload_n 3, 1) := by decide +kernel
theorem dX7_shake_81 : decode cX7_shake 81 = .ok (.iload 4, 2) := by decide +kernel
theorem dX7_shake_83 : decode cX7_shake 83 = .ok (.iconst 0, 1) := by decide +kernel
theorem dX7_shake_84 : decode cX7_shake 84 = .ok (.invokevirtual 94, 3) := by decide +kernel
theorem dX7_shake_87 : decode cX7_shake 87 = .ok (.iconst 0, 1) := by decide +kernel
theorem dX7_shake_88 : decode cX7_shake 88 = .ok (.istore 5, 2) := by decide +kernel
theorem dX7_shake_90 : decode cX7_shake 90 = .ok (.iload 5, 2) := by decide +kernel
theorem dX7_shake_92 : decode cX7_shake 92 = .ok (.iload 4, 2) := by decide +kernel
theorem dX7_shake_94 : decode cX7_shake 94 = .ok (.if_icmp .ge 31, 3) := by decide +kernel
theorem dX7_shake_97 : decode cX7_shake 97 = .ok (.aload_n 0, 1) := by decide +kernel
theorem dX7_shake_98 : decode cX7_shake 98 = .ok (.getfield 14, 3) := by decide +kernel
theorem dX7_shake_101 : decode cX7_shake 101 = .ok (.iload_n 3, 1) := by decide +kernel
theorem dX7_shake_102 : decode cX7_shake 102 = .ok (.iload 5, 2) := by decide +kernel
theorem dX7_shake_104 : decode cX7_shake 104 = .ok (.aload_n 0, 1) := by decide +kernel
theorem dX7_shake_105 : decode cX7_shake 105 = .ok (.getfield 59, 3) := by decide +kernel
theorem dX7_shake_108 : decode cX7_shake 108 = .ok (.getfield 212, 3) := by decide +kernel
theorem dX7_shake_111 : decode cX7_shake 111 = .ok (.iload 5, 2) := by decide +kernel
theorem dX7_shake_113 : decode cX7_shake 113 = .ok (.invokevirtual 153, 3) := by decide +kernel
theorem dX7_shake_116 : decode cX7_shake 116 = .ok (.invokevirtual 106, 3) := by decide +kernel
theorem dX7_shake_119 : decode cX7_shake 119 = .ok (.iinc 5 1, 3) := by decide +kernel
theorem dX7_shake_122 : decode cX7_shake 122 = .ok (.goto (-32), 3) := by decide +kernel
theorem dX7_shake_125 : decode cX7_shake 125 = .ok (.iload 4, 2) := by decide +kernel
theorem dX7_shake_127 : decode cX7_shake 127 = .ok (.ireturn, 1) := by decide +kernel
theorem dX7_cover_0 : decode cX7_cover 0 = .ok (.iload_n 1, 1) := by decide +kernel
theorem dX7_cover_1 : decode cX7_cover 1 = .ok (.ifCond .lt 9, 3) := by decide +kernel
theorem dX7_cover_4 : decode cX7_cover 4 = .ok (.iload_n 1, 1) := by decide +kernel
theorem dX7_cover_5 : decode cX7_cover 5 = .ok (.bipush 63, 2) := by decide +kernel
theorem dX7_cover_7 : decode cX7_cover 7 = .ok (.if_icmp .le 5, 3) := by decide +kernel
theorem dX7_cover_10 : decode cX7_cover 10 = .ok (.iconst (-1), 1) := by decide +kernel
theorem dX7_cover_11 : decode cX7_cover 11 = .ok (.ireturn, 1) := by decide +kernel
theorem dX7_cover_12 : decode cX7_cover 12 = .ok (.aload_n 0, 1) := by decide +kernel
theorem dX7_cover_13 : decode cX7_cover 13 = .ok (.getfield 24, 3) := by decide +kernel
theorem dX7_cover_16 : decode cX7_cover 16 = .ok (.getfield 141, 3) := by decide +kernel
theorem dX7_cover_19 : decode cX7_cover 19 = .ok (.ifCond .ne 6, 3) := by decide +kernel
theorem dX7_cover_22 : decode cX7_cover 22 = .ok (.bipush (-4), 2) := by decide +kernel
theorem dX7_cover_24 : decode cX7_cover 24 = .ok (.ireturn, 1) := by decide +kernel
theorem dX7_cover_25 : decode cX7_cover 25 = .ok (.aload_n 0, 1) := by decide +kernel
theorem dX7_cover_26 : decode cX7_cover 26 = .ok (.getfield 52, 3) := by decide +kernel
theorem dX7_cover_29 : decode cX7_cover 29 = .ok (.aload_n 0, 1) := by decide +kernel
theorem dX7_cover_30 : decode cX7_cover 30 = .ok (.getfield 24, 3) := by decide +kernel
theorem dX7_cover_33 : decode cX7_cover 33 = .ok (.invokevirtual 184, 3) := by decide +kernel
theorem dX7_cover_36 : decode cX7_cover 36 = .ok (.bipush (-9), 2) := by decide +kernel
theorem dX7_cover_38 : decode cX7_cover 38 = .ok (.istore_n 2, 1) := by decide +kernel
theorem dX7_cover_39 : decode cX7_cover 39 = .ok (.iconst 0, 1) := by decide +kernel
theorem dX7_cover_40 : decode cX7_cover 40 = .ok (.istore_n 3, 1) := by decide +kernel
theorem dX7_cover_41 : decode cX7_cover 41 = .ok (.iload_n 3, 1) := by decide +kernel
theorem dX7_cover_42 : decode cX7_cover 42 = .ok (.aload_n 0, 1) := by decide +kernel
theorem dX7_cover_43 : decode cX7_cover 43 = .ok (.getfield 24, 3) := by decide +kernel
theorem dX7_cover_46 : decode cX7_cover 46 = .ok (.invokevirtual 193, 3) := by decide +kernel
theorem dX7_cover_49 : decode cX7_cover 49 = .ok (.if_icmp .gt 45, 3) := by decide +kernel
theorem dX7_cover_52 : decode cX7_cover 52 = .ok (.aload_n 0, 1) := by decide +kernel
theorem dX7_cover_53 : decode cX7_cover 53 = .ok (.getfield 52, 3) := by decide +kernel
theorem dX7_cover_56 : decode cX7_cover 56 = .ok (.iload_n 3, 1) := by decide +kernel
theorem dX7_cover_57 : decode cX7_cover 57 = .ok (.invokevirtual 215, 3) := by decide +kernel
theorem dX7_cover_60 : decode cX7_cover 60 = .ok (.iload_n 1, 1) := by decide +kernel
theorem dX7_cover_61 : decode cX7_cover 61 = .ok (.iand, 1) := by decide +kernel
theorem dX7_cover_62 : decode cX7_cover 62 = .ok (.iload_n 1, 1) := by decide +kernel
theorem dX7_cover_63 : decode cX7_cover 63 = .ok (.if_icmp .ne 7, 3) := by decide +kernel
theorem dX7_cover_66 : decode cX7_cover 66 = .ok (.iconst 1, 1) := by decide +kernel
theorem dX7_cover_67 : decode cX7_cover 67 = .ok (.goto 4, 3) := by decide +kernel
theorem dX7_cover_70 : decode cX7_cover 70 = .ok (.iconst 0, 1) := by decide +kernel
theorem dX7_cover_71 : decode cX7_cover 71 = .ok (.istore 4, 2) := by decide +kernel
theorem dX7_cover_73 : decode cX7_cover 73 = .ok (.iload 4, 2) := by decide +kernel
theorem dX7_cover_75 : decode cX7_cover 75 = .ok (.ifCond .eq 13, 3) := by decide +kernel
theorem dX7_cover_78 : decode cX7_cover 78 = .ok (.iload_n 3, 1) := by decide +kernel
theorem dX7_cover_79 : decode cX7_cover 79 = .ok (.iload_n 2, 1) := by decide +kernel
theorem dX7_cover_80 : decode cX7_cover 80 = .ok (.invokestatic 218, 3) := by decide +kernel
theorem dX7_cover_83 : decode cX7_cover 83 = .ok (.ifCond .eq 5, 3) := by decide +kernel
theorem dX7_cover_86 : decode cX7_cover 86 = .ok (.iload_n 3, 1) := by decide +kernel
theorem dX7_cover_87 : decode cX7_cover 87 = .ok (.istore_n 2, 1) := by decide +kernel
theorem dX7_cover_88 : decode cX7_cover 88 = .ok (.iinc 3 1, 3) := by decide +kernel
theorem dX7_cover_91 : decode cX7_cover 91 = .ok (.goto (-50), 3) := by decide +kernel
theorem dX7_cover_94 : decode cX7_cover 94 = .ok (.iload_n 2, 1) := by decide +kernel
theorem dX7_cover_95 : decode cX7_cover 95 = .ok (.bipush (-9), 2) := by decide +kernel
theorem dX7_cover_97 : decode cX7_cover 97 = .ok (.if_icmp .ne 6, 3) := by decide +kernel
theorem dX7_cover_100 : decode cX7_cover 100 = .ok (.bipush (-9), 2) := by decide +kernel
theorem dX7_cover_102 : decode cX7_cover 102 = .ok (.ireturn, 1) := by decide +kernel
theorem dX7_cover_103 : decode cX7_cover 103 = .ok (.aload_n 0, 1) := by decide +kernel
theorem dX7_cover_104 : decode cX7_cover 104 = .ok (.iload_n 2, 1) := by decide +kernel
theorem dX7_cover_105 : decode cX7_cover 105 = .ok (.putfield 76, 3) := by decide +kernel
theorem dX7_cover_108 : decode cX7_cover 108 = .ok (.iload_n 2, 1) := by decide +kernel
theorem dX7_cover_109 : decode cX7_cover 109 = .ok (.invokestatic 197, 3) := by decide +kernel
theorem dX7_cover_112 : decode cX7_cover 112 = .ok (.ireturn, 1) := by decide +kernel
theorem dX7_rivals_0 : decode cX7_rivals 0 = .ok (.aload_n 0, 1) := by decide +kernel
theorem dX7_rivals_1 : decode cX7_rivals 1 = .ok (.getfield 24, 3) := by decide +kernel
theorem dX7_rivals_4 : decode cX7_rivals 4 = .ok (.iload_n 1, 1) := by decide +kernel
theorem dX7_rivals_5 : decode cX7_rivals 5 = .ok (.invokevirtual 144, 3) := by decide +kernel
theorem dX7_rivals_8 : decode cX7_rivals 8 = .ok (.ifCond .eq 19, 3) := by decide +kernel
theorem dX7_rivals_11 : decode cX7_rivals 11 = .ok (.aload_n 0, 1) := by decide +kernel
theorem dX7_rivals_12 : decode cX7_rivals 12 = .ok (.getfield 24, 3) := by decide +kernel
theorem dX7_rivals_15 : decode cX7_rivals 15 = .ok (.iload_n 2, 1) := by decide +kernel
theorem dX7_rivals_16 : decode cX7_rivals 16 = .ok (.invokevirtual 144, 3) := by decide +kernel
theorem dX7_rivals_19 : decode cX7_rivals 19 = .ok (.ifCond .eq 8, 3) := by decide +kernel
theorem dX7_rivals_22 : decode cX7_rivals 22 = .ok (.iload_n 1, 1) := by decide +kernel
theorem dX7_rivals_23 : decode cX7_rivals 23 = .ok (.iload_n 2, 1) := by decide +kernel
theorem dX7_rivals_24 : decode cX7_rivals 24 = .ok (.if_icmp .ne 5, 3) := by decide +kernel
theorem dX7_rivals_27 : decode cX7_rivals 27 = .ok (.iconst (-1), 1) := by decide +kernel
theorem dX7_rivals_28 : decode cX7_rivals 28 = .ok (.ireturn, 1) := by decide +kernel
theorem dX7_rivals_29 : decode cX7_rivals 29 = .ok (.aload_n 0, 1) := by decide +kernel
theorem dX7_rivals_30 : decode cX7_rivals 30 = .ok (.getfield 52, 3) := by decide +kernel
theorem dX7_rivals_33 : decode cX7_rivals 33 = .ok (.aload_n 0, 1) := by decide +kernel
theorem dX7_rivals_34 : decode cX7_rivals 34 = .ok (.getfield 24, 3) := by decide +kernel
theorem dX7_rivals_37 : decode cX7_rivals 37 = .ok (.invokevirtual 184, 3) := by decide +kernel
theorem dX7_rivals_40 : decode cX7_rivals 40 = .ok (.aload_n 0, 1) := by decide +kernel
theorem dX7_rivals_41 : decode cX7_rivals 41 = .ok (.getfield 52, 3) := by decide +kernel
theorem dX7_rivals_44 : decode cX7_rivals 44 = .ok (.iload_n 1, 1) := by decide +kernel
theorem dX7_rivals_45 : decode cX7_rivals 45 = .ok (.iload_n 2, 1) := by decide +kernel
theorem dX7_rivals_46 : decode cX7_rivals 46 = .ok (.invokevirtual 221, 3) := by decide +kernel
theorem dX7_rivals_49 : decode cX7_rivals 49 = .ok (.ireturn, 1) := by decide +kernel
theorem dX7_apart_0 : decode cX7_apart 0 = .ok (.aload_n 0, 1) := by decide +kernel
theorem dX7_apart_1 : decode cX7_apart 1 = .ok (.getfield 24, 3) := by decide +kernel
theorem dX7_apart_4 : decode cX7_apart 4 = .ok (.getfield 141, 3) := by decide +kernel
theorem dX7_apart_7 : decode cX7_apart 7 = .ok (.ifCond .ne 6, 3) := by decide +kernel
theorem dX7_apart_10 : decode cX7_apart 10 = .ok (.bipush (-4), 2) := by decide +kernel
theorem dX7_apart_12 : decode cX7_apart 12 = .ok (.ireturn, 1) := by decide +kernel
theorem dX7_apart_13 : decode cX7_apart 13 = .ok (.aload_n 0, 1) := by decide +kernel
theorem dX7_apart_14 : decode cX7_apart 14 = .ok (.getfield 52, 3) := by decide +kernel
theorem dX7_apart_17 : decode cX7_apart 17 = .ok (.aload_n 0, 1) := by decide +kernel
theorem dX7_apart_18 : decode cX7_apart 18 = .ok (.getfield 24, 3) := by decide +kernel
theorem dX7_apart_21 : decode cX7_apart 21 = .ok (.invokevirtual 184, 3) := by decide +kernel
theorem dX7_apart_24 : decode cX7_apart 24 = .ok (.bipush (-9), 2) := by decide +kernel
theorem dX7_apart_26 : decode cX7_apart 26 = .ok (.istore_n 1, 1) := by decide +kernel
theorem dX7_apart_27 : decode cX7_apart 27 = .ok (.iconst 0, 1) := by decide +kernel
theorem dX7_apart_28 : decode cX7_apart 28 = .ok (.istore_n 2, 1) := by decide +kernel
theorem dX7_apart_29 : decode cX7_apart 29 = .ok (.iload_n 2, 1) := by decide +kernel
theorem dX7_apart_30 : decode cX7_apart 30 = .ok (.aload_n 0, 1) := by decide +kernel
theorem dX7_apart_31 : decode cX7_apart 31 = .ok (.getfield 24, 3) := by decide +kernel
theorem dX7_apart_34 : decode cX7_apart 34 = .ok (.invokevirtual 193, 3) := by decide +kernel
theorem dX7_apart_37 : decode cX7_apart 37 = .ok (.if_icmp .gt 50, 3) := by decide +kernel
theorem dX7_apart_40 : decode cX7_apart 40 = .ok (.aload_n 0, 1) := by decide +kernel
theorem dX7_apart_41 : decode cX7_apart 41 = .ok (.getfield 52, 3) := by decide +kernel
theorem dX7_apart_44 : decode cX7_apart 44 = .ok (.aload_n 0, 1) := by decide +kernel
theorem dX7_apart_45 : decode cX7_apart 45 = .ok (.getfield 24, 3) := by decide +kernel
theorem dX7_apart_48 : decode cX7_apart 48 = .ok (.invokevirtual 193, 3) := by decide +kernel
theorem dX7_apart_51 : decode cX7_apart 51 = .ok (.iload_n 2, 1) := by decide +kernel
theorem dX7_apart_52 : decode cX7_apart 52 = .ok (.iconst (-1), 1) := by decide +kernel
theorem dX7_apart_53 : decode cX7_apart 53 = .ok (.ixor, 1) := by decide +kernel
theorem dX7_apart_54 : decode cX7_apart 54 = .ok (.iand, 1) := by decide +kernel
theorem dX7_apart_55 : decode cX7_apart 55 = .ok (.invokevirtual 224, 3) := by decide +kernel
theorem dX7_apart_58 : decode cX7_apart 58 = .ok (.ifCond .ne 7, 3) := by decide +kernel
theorem dX7_apart_61 : decode cX7_apart 61 = .ok (.iconst 1, 1) := by decide +kernel
theorem dX7_apart_62 : decode cX7_apart 62 = .ok (.goto 4, 3) := by decide +kernel
theorem dX7_apart_65 : decode cX7_apart 65 = .ok (.iconst 0, 1) := by decide +kernel
theorem dX7_apart_66 : decode cX7_apart 66 = .ok (.istore_n 3, 1) := by decide +kernel
theorem dX7_apart_67 : decode cX7_apart 67 = .ok (.iload_n 3, 1) := by decide +kernel
theorem dX7_apart_68 : decode cX7_apart 68 = .ok (.ifCond .eq 13, 3) := by decide +kernel
theorem dX7_apart_71 : decode cX7_apart 71 = .ok (.iload_n 2, 1) := by decide +kernel
theorem dX7_apart_72 : decode cX7_apart 72 = .ok (.iload_n 1, 1) := by decide +kernel
theorem dX7_apart_73 : decode cX7_apart 73 = .ok (.invokestatic 218, 3) := by decide +kernel
theorem dX7_apart_76 : decode cX7_apart 76 = .ok (.ifCond .eq 5, 3) := by decide +kernel
theorem dX7_apart_79 : decode cX7_apart 79 = .ok (.iload_n 2, 1) := by decide +kernel
theorem dX7_apart_80 : decode cX7_apart 80 = .ok (.istore_n 1, 1) := by decide +kernel
theorem dX7_apart_81 : decode cX7_apart 81 = .ok (.iinc 2 1, 3) := by decide +kernel
theorem dX7_apart_84 : decode cX7_apart 84 = .ok (.goto (-55), 3) := by decide +kernel
theorem dX7_apart_87 : decode cX7_apart 87 = .ok (.aload_n 0, 1) := by decide +kernel
theorem dX7_apart_88 : decode cX7_apart 88 = .ok (.iload_n 1, 1) := by decide +kernel
theorem dX7_apart_89 : decode cX7_apart 89 = .ok (.putfield 76, 3) := by decide +kernel
theorem dX7_apart_92 : decode cX7_apart 92 = .ok (.iload_n 1, 1) := by decide +kernel
theorem dX7_apart_93 : decode cX7_apart 93 = .ok (.invokestatic 197, 3) := by decide +kernel
theorem dX7_apart_96 : decode cX7_apart 96 = .ok (.ireturn, 1) := by decide +kernel
theorem dX7_truths_0 : decode cX7_truths 0 = .ok (.aload_n 0, 1) := by decide +kernel
theorem dX7_truths_1 : decode cX7_truths 1 = .ok (.iload_n 1, 1) := by decide +kernel
theorem dX7_truths_2 : decode cX7_truths 2 = .ok (.invokevirtual 227, 3) := by decide +kernel
theorem dX7_truths_5 : decode cX7_truths 5 = .ok (.istore_n 2, 1) := by decide +kernel
theorem dX7_truths_6 : decode cX7_truths 6 = .ok (.iload_n 2, 1) := by decide +kernel
theorem dX7_truths_7 : decode cX7_truths 7 = .ok (.ifCond .eq 5, 3) := by decide +kernel
theorem dX7_truths_10 : decode cX7_truths 10 = .ok (.iload_n 2, 1) := by decide +kernel
theorem dX7_truths_11 : decode cX7_truths 11 = .ok (.ireturn, 1) := by decide +kernel
theorem dX7_truths_12 : decode cX7_truths 12 = .ok (.aload_n 0, 1) := by decide +kernel
theorem dX7_truths_13 : decode cX7_truths 13 = .ok (.getfield 45, 3) := by decide +kernel
theorem dX7_truths_16 : decode cX7_truths 16 = .ok (.aload_n 0, 1) := by decide +kernel
theorem dX7_truths_17 : decode cX7_truths 17 = .ok (.getfield 24, 3) := by decide +kernel
theorem dX7_truths_20 : decode cX7_truths 20 = .ok (.invokevirtual 230, 3) := by decide +kernel
theorem dX7_truths_23 : decode cX7_truths 23 = .ok (.lstore_n 3, 1) := by decide +kernel
theorem dX7_truths_24 : decode cX7_truths 24 = .ok (.aload_n 0, 1) := by decide +kernel
theorem dX7_truths_25 : decode cX7_truths 25 = .ok (.lload_n 3, 1) := by decide +kernel
theorem dX7_truths_26 : decode cX7_truths 26 = .ok (.invokestatic 234, 3) := by decide +kernel
theorem dX7_truths_29 : decode cX7_truths 29 = .ok (.putfield 76, 3) := by decide +kernel
theorem dX7_truths_32 : decode cX7_truths 32 = .ok (.aload_n 0, 1) := by decide +kernel
theorem dX7_truths_33 : decode cX7_truths 33 = .ok (.lload_n 3, 1) := by decide +kernel
theorem dX7_truths_34 : decode cX7_truths 34 = .ok (.invokestatic 238, 3) := by decide +kernel
theorem dX7_truths_37 : decode cX7_truths 37 = .ok (.i2l, 1) := by decide +kernel
theorem dX7_truths_38 : decode cX7_truths 38 = .ok (.lconst 1, 1) := by decide +kernel
theorem dX7_truths_39 : decode cX7_truths 39 = .ok (.invokevirtual 242, 3) := by decide +kernel
theorem dX7_truths_42 : decode cX7_truths 42 = .ok (.iconst 1, 1) := by decide +kernel
theorem dX7_truths_43 : decode cX7_truths 43 = .ok (.ireturn, 1) := by decide +kernel
theorem dX7_sure_0 : decode cX7_sure 0 = .ok (.aload_n 0, 1) := by decide +kernel
theorem dX7_sure_1 : decode cX7_sure 1 = .ok (.iload_n 1, 1) := by decide +kernel
theorem dX7_sure_2 : decode cX7_sure 2 = .ok (.invokevirtual 227, 3) := by decide +kernel
theorem dX7_sure_5 : decode cX7_sure 5 = .ok (.istore_n 2, 1) := by decide +kernel
theorem dX7_sure_6 : decode cX7_sure 6 = .ok (.iload_n 2, 1) := by decide +kernel
theorem dX7_sure_7 : decode cX7_sure 7 = .ok (.ifCond .eq 5, 3) := by decide +kernel
theorem dX7_sure_10 : decode cX7_sure 10 = .ok (.iload_n 2, 1) := by decide +kernel
theorem dX7_sure_11 : decode cX7_sure 11 = .ok (.ireturn, 1) := by decide +kernel
theorem dX7_sure_12 : decode cX7_sure 12 = .ok (.aload_n 0, 1) := by decide +kernel
theorem dX7_sure_13 : decode cX7_sure 13 = .ok (.getfield 45, 3) := by decide +kernel
theorem dX7_sure_16 : decode cX7_sure 16 = .ok (.aload_n 0, 1) := by decide +kernel
theorem dX7_sure_17 : decode cX7_sure 17 = .ok (.getfield 24, 3) := by decide +kernel
theorem dX7_sure_20 : decode cX7_sure 20 = .ok (.invokevirtual 230, 3) := by decide +kernel
theorem dX7_sure_23 : decode cX7_sure 23 = .ok (.lstore_n 3, 1) := by decide +kernel
theorem dX7_sure_24 : decode cX7_sure 24 = .ok (.iconst 0, 1) := by decide +kernel
theorem dX7_sure_25 : decode cX7_sure 25 = .ok (.istore 5, 2) := by decide +kernel
theorem dX7_sure_27 : decode cX7_sure 27 = .ok (.iconst 0, 1) := by decide +kernel
theorem dX7_sure_28 : decode cX7_sure 28 = .ok (.istore 6, 2) := by decide +kernel
theorem dX7_sure_30 : decode cX7_sure 30 = .ok (.iconst 0, 1) := by decide +kernel
theorem dX7_sure_31 : decode cX7_sure 31 = .ok (.istore 7, 2) := by decide +kernel
theorem dX7_sure_33 : decode cX7_sure 33 = .ok (.iload 7, 2) := by decide +kernel
theorem dX7_sure_35 : decode cX7_sure 35 = .ok (.bipush 6, 2) := by decide +kernel
theorem dX7_sure_37 : decode cX7_sure 37 = .ok (.if_icmp .ge 55, 3) := by decide +kernel
theorem dX7_sure_40 : decode cX7_sure 40 = .ok (.lload_n 3, 1) := by decide +kernel
theorem dX7_sure_41 : decode cX7_sure 41 = .ok (.iload 7, 2) := by decide +kernel
theorem dX7_sure_43 : decode cX7_sure 43 = .ok (.invokestatic 246, 3) := by decide +kernel
theorem dX7_sure_46 : decode cX7_sure 46 = .ok (.ldc2_w 249, 3) := by decide +kernel
theorem dX7_sure_49 : decode cX7_sure 49 = .ok (.lxor, 1) := by decide +kernel
theorem dX7_sure_50 : decode cX7_sure 50 = .ok (.land, 1) := by decide +kernel
theorem dX7_sure_51 : decode cX7_sure 51 = .ok (.lconst 0, 1) := by decide +kernel
theorem dX7_sure_52 : decode cX7_sure 52 = .ok (.lcmp, 1) := by decide +kernel
theorem dX7_sure_53 : decode cX7_sure 53 = .ok (.ifCond .ne 12, 3) := by decide +kernel
theorem dX7_sure_56 : decode cX7_sure 56 = .ok (.iload 5, 2) := by decide +kernel
theorem dX7_sure_58 : decode cX7_sure 58 = .ok (.iconst 1, 1) := by decide +kernel
theorem dX7_sure_59 : decode cX7_sure 59 = .ok (.iload 7, 2) := by decide +kernel
theorem dX7_sure_61 : decode cX7_sure 61 = .ok (.ishl, 1) := by decide +kernel
theorem dX7_sure_62 : decode cX7_sure 62 = .ok (.ior, 1) := by decide +kernel
theorem dX7_sure_63 : decode cX7_sure 63 = .ok (.istore 5, 2) := by decide +kernel
theorem dX7_sure_65 : decode cX7_sure 65 = .ok (.lload_n 3, 1) := by decide +kernel
theorem dX7_sure_66 : decode cX7_sure 66 = .ok (.iload 7, 2) := by decide +kernel
theorem dX7_sure_68 : decode cX7_sure 68 = .ok (.invokestatic 246, 3) := by decide +kernel
theorem dX7_sure_71 : decode cX7_sure 71 = .ok (.land, 1) := by decide +kernel
theorem dX7_sure_72 : decode cX7_sure 72 = .ok (.lconst 0, 1) := by decide +kernel
theorem dX7_sure_73 : decode cX7_sure 73 = .ok (.lcmp, 1) := by decide +kernel
theorem dX7_sure_74 : decode cX7_sure 74 = .ok (.ifCond .ne 12, 3) := by decide +kernel
theorem dX7_sure_77 : decode cX7_sure 77 = .ok (.iload 6, 2) := by decide +kernel
theorem dX7_sure_79 : decode cX7_sure 79 = .ok (.iconst 1, 1) := by decide +kernel
theorem dX7_sure_80 : decode cX7_sure 80 = .ok (.iload 7, 2) := by decide +kernel
theorem dX7_sure_82 : decode cX7_sure 82 = .ok (.ishl, 1) := by decide +kernel
theorem dX7_sure_83 : decode cX7_sure 83 = .ok (.ior, 1) := by decide +kernel
theorem dX7_sure_84 : decode cX7_sure 84 = .ok (.istore 6, 2) := by decide +kernel
theorem dX7_sure_86 : decode cX7_sure 86 = .ok (.iinc 7 1, 3) := by decide +kernel
theorem dX7_sure_89 : decode cX7_sure 89 = .ok (.goto (-56), 3) := by decide +kernel
theorem dX7_sure_92 : decode cX7_sure 92 = .ok (.aload_n 0, 1) := by decide +kernel
theorem dX7_sure_93 : decode cX7_sure 93 = .ok (.iload 6, 2) := by decide +kernel
theorem dX7_sure_95 : decode cX7_sure 95 = .ok (.putfield 76, 3) := by decide +kernel
theorem dX7_sure_98 : decode cX7_sure 98 = .ok (.iload 5, 2) := by decide +kernel
theorem dX7_sure_100 : decode cX7_sure 100 = .ok (.ireturn, 1) := by decide +kernel
theorem dX7_next_0 : decode cX7_next 0 = .ok (.aload_n 0, 1) := by decide +kernel
theorem dX7_next_1 : decode cX7_next 1 = .ok (.iload_n 1, 1) := by decide +kernel
theorem dX7_next_2 : decode cX7_next 2 = .ok (.invokevirtual 227, 3) := by decide +kernel
theorem dX7_next_5 : decode cX7_next 5 = .ok (.istore_n 2, 1) := by decide +kernel
theorem dX7_next_6 : decode cX7_next 6 = .ok (.iload_n 2, 1) := by decide +kernel
theorem dX7_next_7 : decode cX7_next 7 = .ok (.ifCond .eq 5, 3) := by decide +kernel
theorem dX7_next_10 : decode cX7_next 10 = .ok (.iload_n 2, 1) := by decide +kernel
theorem dX7_next_11 : decode cX7_next 11 = .ok (.ireturn, 1) := by decide +kernel
theorem dX7_next_12 : decode cX7_next 12 = .ok (.aload_n 0, 1) := by decide +kernel
theorem dX7_next_13 : decode cX7_next 13 = .ok (.getfield 45, 3) := by decide +kernel
theorem dX7_next_16 : decode cX7_next 16 = .ok (.aload_n 0, 1) := by decide +kernel
theorem dX7_next_17 : decode cX7_next 17 = .ok (.getfield 24, 3) := by decide +kernel
theorem dX7_next_20 : decode cX7_next 20 = .ok (.invokevirtual 230, 3) := by decide +kernel
theorem dX7_next_23 : decode cX7_next 23 = .ok (.lstore_n 3, 1) := by decide +kernel
theorem dX7_next_24 : decode cX7_next 24 = .ok (.lload_n 3, 1) := by decide +kernel
theorem dX7_next_25 : decode cX7_next 25 = .ok (.lconst 0, 1) := by decide +kernel
theorem dX7_next_26 : decode cX7_next 26 = .ok (.lcmp, 1) := by decide +kernel
theorem dX7_next_27 : decode cX7_next 27 = .ok (.ifCond .ne 6, 3) := by decide +kernel
theorem dX7_next_30 : decode cX7_next 30 = .ok (.bipush (-9), 2) := by decide +kernel
theorem dX7_next_32 : decode cX7_next 32 = .ok (.ireturn, 1) := by decide +kernel
theorem dX7_next_33 : decode cX7_next 33 = .ok (.iconst 0, 1) := by decide +kernel
theorem dX7_next_34 : decode cX7_next 34 = .ok (.istore 5, 2) := by decide +kernel
theorem dX7_next_36 : decode cX7_next 36 = .ok (.sipush 1000, 3) := by decide +kernel
theorem dX7_next_39 : decode cX7_next 39 = .ok (.istore 6, 2) := by decide +kernel
theorem dX7_next_41 : decode cX7_next 41 = .ok (.iconst 0, 1) := by decide +kernel
theorem dX7_next_42 : decode cX7_next 42 = .ok (.istore 7, 2) := by decide +kernel
theorem dX7_next_44 : decode cX7_next 44 = .ok (.iload 7, 2) := by decide +kernel
theorem dX7_next_46 : decode cX7_next 46 = .ok (.aload_n 0, 1) := by decide +kernel
theorem dX7_next_47 : decode cX7_next 47 = .ok (.getfield 24, 3) := by decide +kernel
theorem dX7_next_50 : decode cX7_next 50 = .ok (.getfield 141, 3) := by decide +kernel
theorem dX7_next_53 : decode cX7_next 53 = .ok (.if_icmp .ge 57, 3) := by decide +kernel
theorem dX7_next_56 : decode cX7_next 56 = .ok (.iconst 0, 1) := by decide +kernel
theorem dX7_next_57 : decode cX7_next 57 = .ok (.istore 8, 2) := by decide +kernel
theorem dX7_next_59 : decode cX7_next 59 = .ok (.iload 8, 2) := by decide +kernel
theorem dX7_next_61 : decode cX7_next 61 = .ok (.bipush 6, 2) := by decide +kernel
theorem dX7_next_63 : decode cX7_next 63 = .ok (.if_icmp .ge 41, 3) := by decide +kernel
theorem dX7_next_66 : decode cX7_next 66 = .ok (.aload_n 0, 1) := by decide +kernel
theorem dX7_next_67 : decode cX7_next 67 = .ok (.iload 7, 2) := by decide +kernel
theorem dX7_next_69 : decode cX7_next 69 = .ok (.iload 8, 2) := by decide +kernel
theorem dX7_next_71 : decode cX7_next 71 = .ok (.lload_n 3, 1) := by decide +kernel
theorem dX7_next_72 : decode cX7_next 72 = .ok (.invokevirtual 251, 3) := by decide +kernel
theorem dX7_next_75 : decode cX7_next 75 = .ok (.istore 9, 2) := by decide +kernel
theorem dX7_next_77 : decode cX7_next 77 = .ok (.iload 9, 2) := by decide +kernel
theorem dX7_next_79 : decode cX7_next 79 = .ok (.iload 6, 2) := by decide +kernel
theorem dX7_next_81 : decode cX7_next 81 = .ok (.if_icmp .ge 17, 3) := by decide +kernel
theorem dX7_next_84 : decode cX7_next 84 = .ok (.bipush 8, 2) := by decide +kernel
theorem dX7_next_86 : decode cX7_next 86 = .ok (.iload 7, 2) := by decide +kernel
theorem dX7_next_88 : decode cX7_next 88 = .ok (.imul, 1) := by decide +kernel
theorem dX7_next_89 : decode cX7_next 89 = .ok (.iload 8, 2) := by decide +kernel
theorem dX7_next_91 : decode cX7_next 91 = .ok (.iadd, 1) := by decide +kernel
theorem dX7_next_92 : decode cX7_next 92 = .ok (.istore 5, 2) := by decide +kernel
theorem dX7_next_94 : decode cX7_next 94 = .ok (.iload 9, 2) := by decide +kernel
theorem dX7_next_96 : decode cX7_next 96 = .ok (.istore 6, 2) := by decide +kernel
theorem dX7_next_98 : decode cX7_next 98 = .ok (.iinc 8 1, 3) := by decide +kernel
theorem dX7_next_101 : decode cX7_next 101 = .ok (.goto (-42), 3) := by decide +kernel
theorem dX7_next_104 : decode cX7_next 104 = .ok (.iinc 7 1, 3) := by decide +kernel
theorem dX7_next_107 : decode cX7_next 107 = .ok (.goto (-63), 3) := by decide +kernel
theorem dX7_next_110 : decode cX7_next 110 = .ok (.aload_n 0, 1) := by decide +kernel
theorem dX7_next_111 : decode cX7_next 111 = .ok (.iload 6, 2) := by decide +kernel
theorem dX7_next_113 : decode cX7_next 113 = .ok (.putfield 76, 3) := by decide +kernel
theorem dX7_next_116 : decode cX7_next 116 = .ok (.iload 5, 2) := by decide +kernel
theorem dX7_next_118 : decode cX7_next 118 = .ok (.ireturn, 1) := by decide +kernel
theorem dX7_kinds_0 : decode cX7_kinds 0 = .ok (.aload_n 0, 1) := by decide +kernel
theorem dX7_kinds_1 : decode cX7_kinds 1 = .ok (.getfield 24, 3) := by decide +kernel
theorem dX7_kinds_4 : decode cX7_kinds 4 = .ok (.iload_n 1, 1) := by decide +kernel
theorem dX7_kinds_5 : decode cX7_kinds 5 = .ok (.invokevirtual 144, 3) := by decide +kernel
theorem dX7_kinds_8 : decode cX7_kinds 8 = .ok (.ifCond .ne 5, 3) := by decide +kernel
theorem dX7_kinds_11 : decode cX7_kinds 11 = .ok (.iconst (-1), 1) := by decide +kernel
theorem dX7_kinds_12 : decode cX7_kinds 12 = .ok (.ireturn, 1) := by decide +kernel
theorem dX7_kinds_13 : decode cX7_kinds 13 = .ok (.aload_n 0, 1) := by decide +kernel
theorem dX7_kinds_14 : decode cX7_kinds 14 = .ok (.iload_n 2, 1) := by decide +kernel
theorem dX7_kinds_15 : decode cX7_kinds 15 = .ok (.invokevirtual 227, 3) := by decide +kernel
theorem dX7_kinds_18 : decode cX7_kinds 18 = .ok (.istore_n 3, 1) := by decide +kernel
theorem dX7_kinds_19 : decode cX7_kinds 19 = .ok (.iload_n 3, 1) := by decide +kernel
theorem dX7_kinds_20 : decode cX7_kinds 20 = .ok (.ifCond .eq 5, 3) := by decide +kernel
theorem dX7_kinds_23 : decode cX7_kinds 23 = .ok (.iload_n 3, 1) := by decide +kernel
theorem dX7_kinds_24 : decode cX7_kinds 24 = .ok (.ireturn, 1) := by decide +kernel
theorem dX7_kinds_25 : decode cX7_kinds 25 = .ok (.iconst 0, 1) := by decide +kernel
theorem dX7_kinds_26 : decode cX7_kinds 26 = .ok (.istore 4, 2) := by decide +kernel
theorem dX7_kinds_28 : decode cX7_kinds 28 = .ok (.iconst 0, 1) := by decide +kernel
theorem dX7_kinds_29 : decode cX7_kinds 29 = .ok (.istore 5, 2) := by decide +kernel
theorem dX7_kinds_31 : decode cX7_kinds 31 = .ok (.iload 5, 2) := by decide +kernel
theorem dX7_kinds_33 : decode cX7_kinds 33 = .ok (.bipush 6, 2) := by decide +kernel
theorem dX7_kinds_35 : decode cX7_kinds 35 = .ok (.if_icmp .ge 35, 3) := by decide +kernel
theorem dX7_kinds_38 : decode cX7_kinds 38 = .ok (.aload_n 0, 1) := by decide +kernel
theorem dX7_kinds_39 : decode cX7_kinds 39 = .ok (.getfield 45, 3) := by decide +kernel
theorem dX7_kinds_42 : decode cX7_kinds 42 = .ok (.aload_n 0, 1) := by decide +kernel
theorem dX7_kinds_43 : decode cX7_kinds 43 = .ok (.getfield 24, 3) := by decide +kernel
theorem dX7_kinds_46 : decode cX7_kinds 46 = .ok (.iload_n 1, 1) := by decide +kernel
theorem dX7_kinds_47 : decode cX7_kinds 47 = .ok (.iload 5, 2) := by decide +kernel
theorem dX7_kinds_49 : decode cX7_kinds 49 = .ok (.invokevirtual 255, 3) := by decide +kernel
theorem dX7_kinds_52 : decode cX7_kinds 52 = .ok (.ifCond .eq 12, 3) := by decide +kernel
theorem dX7_kinds_55 : decode cX7_kinds 55 = .ok (.iload 4, 2) := by decide +kernel
theorem dX7_kinds_57 : decode cX7_kinds 57 = .ok (.iconst 1, 1) := by decide +kernel
theorem dX7_kinds_58 : decode cX7_kinds 58 = .ok (.iload 5, 2) := by decide +kernel
theorem dX7_kinds_60 : decode cX7_kinds 60 = .ok (.ishl, 1) := by decide +kernel
theorem dX7_kinds_61 : decode cX7_kinds 61 = .ok (.ior, 1) := by decide +kernel
theorem dX7_kinds_62 : decode cX7_kinds 62 = .ok (.istore 4, 2) := by decide +kernel
theorem dX7_kinds_64 : decode cX7_kinds 64 = .ok (.iinc 5 1, 3) := by decide +kernel
theorem dX7_kinds_67 : decode cX7_kinds 67 = .ok (.goto (-36), 3) := by decide +kernel
theorem dX7_kinds_70 : decode cX7_kinds 70 = .ok (.iload 4, 2) := by decide +kernel
theorem dX7_kinds_72 : decode cX7_kinds 72 = .ok (.ireturn, 1) := by decide +kernel
theorem dX7_walls_0 : decode cX7_walls 0 = .ok (.aload_n 0, 1) := by decide +kernel
theorem dX7_walls_1 : decode cX7_walls 1 = .ok (.iload_n 1, 1) := by decide +kernel
theorem dX7_walls_2 : decode cX7_walls 2 = .ok (.invokevirtual 227, 3) := by decide +kernel
theorem dX7_walls_5 : decode cX7_walls 5 = .ok (.istore_n 2, 1) := by decide +kernel
theorem dX7_walls_6 : decode cX7_walls 6 = .ok (.iload_n 2, 1) := by decide +kernel
theorem dX7_walls_7 : decode cX7_walls 7 = .ok (.ifCond .eq 5, 3) := by decide +kernel
theorem dX7_walls_10 : decode cX7_walls 10 = .ok (.iload_n 2, 1) := by decide +kernel
theorem dX7_walls_11 : decode cX7_walls 11 = .ok (.ireturn, 1) := by decide +kernel
theorem dX7_walls_12 : decode cX7_walls 12 = .ok (.aload_n 0, 1) := by decide +kernel
theorem dX7_walls_13 : decode cX7_walls 13 = .ok (.getfield 45, 3) := by decide +kernel
theorem dX7_walls_16 : decode cX7_walls 16 = .ok (.invokevirtual 259, 3) := by decide +kernel
theorem dX7_walls_19 : decode cX7_walls 19 = .ok (.istore_n 3, 1) := by decide +kernel
theorem dX7_walls_20 : decode cX7_walls 20 = .ok (.aload_n 0, 1) := by decide +kernel
theorem dX7_walls_21 : decode cX7_walls 21 = .ok (.iload_n 3, 1) := by decide +kernel
theorem dX7_walls_22 : decode cX7_walls 22 = .ok (.putfield 76, 3) := by decide +kernel
theorem dX7_walls_25 : decode cX7_walls 25 = .ok (.aload_n 0, 1) := by decide +kernel
theorem dX7_walls_26 : decode cX7_walls 26 = .ok (.getfield 45, 3) := by decide +kernel
theorem dX7_walls_29 : decode cX7_walls 29 = .ok (.aload_n 0, 1) := by decide +kernel
theorem dX7_walls_30 : decode cX7_walls 30 = .ok (.getfield 24, 3) := by decide +kernel
theorem dX7_walls_33 : decode cX7_walls 33 = .ok (.invokevirtual 262, 3) := by decide +kernel
theorem dX7_walls_36 : decode cX7_walls 36 = .ok (.iload_n 3, 1) := by decide +kernel
theorem dX7_walls_37 : decode cX7_walls 37 = .ok (.iconst (-1), 1) := by decide +kernel
theorem dX7_walls_38 : decode cX7_walls 38 = .ok (.ixor, 1) := by decide +kernel
theorem dX7_walls_39 : decode cX7_walls 39 = .ok (.iand, 1) := by decide +kernel
theorem dX7_walls_40 : decode cX7_walls 40 = .ok (.ireturn, 1) := by decide +kernel
theorem dX7_duel_0 : decode cX7_duel 0 = .ok (.iload_n 1, 1) := by decide +kernel
theorem dX7_duel_1 : decode cX7_duel 1 = .ok (.invokestatic 175, 3) := by decide +kernel
theorem dX7_duel_4 : decode cX7_duel 4 = .ok (.ifCond .eq 12, 3) := by decide +kernel
theorem dX7_duel_7 : decode cX7_duel 7 = .ok (.iload_n 2, 1) := by decide +kernel
theorem dX7_duel_8 : decode cX7_duel 8 = .ok (.ifCond .lt 8, 3) := by decide +kernel
theorem dX7_duel_11 : decode cX7_duel 11 = .ok (.iload_n 2, 1) := by decide +kernel
theorem dX7_duel_12 : decode cX7_duel 12 = .ok (.iconst 2, 1) := by decide +kernel
theorem dX7_duel_13 : decode cX7_duel 13 = .ok (.if_icmp .le 5, 3) := by decide +kernel
theorem dX7_duel_16 : decode cX7_duel 16 = .ok (.iconst (-1), 1) := by decide +kernel
theorem dX7_duel_17 : decode cX7_duel 17 = .ok (.ireturn, 1) := by decide +kernel
theorem dX7_duel_18 : decode cX7_duel 18 = .ok (.aload_n 0, 1) := by decide +kernel
theorem dX7_duel_19 : decode cX7_duel 19 = .ok (.getfield 24, 3) := by decide +kernel
theorem dX7_duel_22 : decode cX7_duel 22 = .ok (.getfield 141, 3) := by decide +kernel
theorem dX7_duel_25 : decode cX7_duel 25 = .ok (.ifCond .ne 6, 3) := by decide +kernel
theorem dX7_duel_28 : decode cX7_duel 28 = .ok (.bipush (-4), 2) := by decide +kernel
theorem dX7_duel_30 : decode cX7_duel 30 = .ok (.ireturn, 1) := by decide +kernel
theorem dX7_duel_31 : decode cX7_duel 31 = .ok (.aload_n 0, 1) := by decide +kernel
theorem dX7_duel_32 : decode cX7_duel 32 = .ok (.getfield 59, 3) := by decide +kernel
theorem dX7_duel_35 : decode cX7_duel 35 = .ok (.aload_n 0, 1) := by decide +kernel
theorem dX7_duel_36 : decode cX7_duel 36 = .ok (.getfield 24, 3) := by decide +kernel
theorem dX7_duel_39 : decode cX7_duel 39 = .ok (.iload_n 1, 1) := by decide +kernel
theorem dX7_duel_40 : decode cX7_duel 40 = .ok (.aload_n 0, 1) := by decide +kernel
theorem dX7_duel_41 : decode cX7_duel 41 = .ok (.getfield 24, 3) := by decide +kernel
theorem dX7_duel_44 : decode cX7_duel 44 = .ok (.invokevirtual 193, 3) := by decide +kernel
theorem dX7_duel_47 : decode cX7_duel 47 = .ok (.invokevirtual 205, 3) := by decide +kernel
theorem dX7_duel_50 : decode cX7_duel 50 = .ok (.aload_n 0, 1) := by decide +kernel
theorem dX7_duel_51 : decode cX7_duel 51 = .ok (.aload_n 0, 1) := by decide +kernel
theorem dX7_duel_52 : decode cX7_duel 52 = .ok (.getfield 59, 3) := by decide +kernel
theorem dX7_duel_55 : decode cX7_duel 55 = .ok (.iconst 2, 1) := by decide +kernel
theorem dX7_duel_56 : decode cX7_duel 56 = .ok (.iload_n 2, 1) := by decide +kernel
theorem dX7_duel_57 : decode cX7_duel 57 = .ok (.imul, 1) := by decide +kernel
theorem dX7_duel_58 : decode cX7_duel 58 = .ok (.invokevirtual 266, 3) := by decide +kernel
theorem dX7_duel_61 : decode cX7_duel 61 = .ok (.putfield 76, 3) := by decide +kernel
theorem dX7_duel_64 : decode cX7_duel 64 = .ok (.iconst 1, 1) := by decide +kernel
theorem dX7_duel_65 : decode cX7_duel 65 = .ok (.ireturn, 1) := by decide +kernel
theorem dX7_odds_0 : decode cX7_odds 0 = .ok (.iload_n 1, 1) := by decide +kernel
theorem dX7_odds_1 : decode cX7_odds 1 = .ok (.invokestatic 175, 3) := by decide +kernel
theorem dX7_odds_4 : decode cX7_odds 4 = .ok (.ifCond .eq 10, 3) := by decide +kernel
theorem dX7_odds_7 : decode cX7_odds 7 = .ok (.iload_n 2, 1) := by decide +kernel
theorem dX7_odds_8 : decode cX7_odds 8 = .ok (.invokestatic 269, 3) := by decide +kernel
theorem dX7_odds_11 : decode cX7_odds 11 = .ok (.ifCond .ne 5, 3) := by decide +kernel
theorem dX7_odds_14 : decode cX7_odds 14 = .ok (.iconst (-1), 1) := by decide +kernel
theorem dX7_odds_15 : decode cX7_odds 15 = .ok (.ireturn, 1) := by decide +kernel
theorem dX7_odds_16 : decode cX7_odds 16 = .ok (.aload_n 0, 1) := by decide +kernel
theorem dX7_odds_17 : decode cX7_odds 17 = .ok (.getfield 24, 3) := by decide +kernel
theorem dX7_odds_20 : decode cX7_odds 20 = .ok (.getfield 141, 3) := by decide +kernel
theorem dX7_odds_23 : decode cX7_odds 23 = .ok (.ifCond .ne 6, 3) := by decide +kernel
theorem dX7_odds_26 : decode cX7_odds 26 = .ok (.bipush (-4), 2) := by decide +kernel
theorem dX7_odds_28 : decode cX7_odds 28 = .ok (.ireturn, 1) := by decide +kernel
theorem dX7_odds_29 : decode cX7_odds 29 = .ok (.aload_n 0, 1) := by decide +kernel
theorem dX7_odds_30 : decode cX7_odds 30 = .ok (.getfield 52, 3) := by decide +kernel
theorem dX7_odds_33 : decode cX7_odds 33 = .ok (.aload_n 0, 1) := by decide +kernel
theorem dX7_odds_34 : decode cX7_odds 34 = .ok (.getfield 24, 3) := by decide +kernel
theorem dX7_odds_37 : decode cX7_odds 37 = .ok (.invokevirtual 184, 3) := by decide +kernel
theorem dX7_odds_40 : decode cX7_odds 40 = .ok (.lconst 0, 1) := by decide +kernel
theorem dX7_odds_41 : decode cX7_odds 41 = .ok (.lstore_n 3, 1) := by decide +kernel
theorem dX7_odds_42 : decode cX7_odds 42 = .ok (.iconst 0, 1) := by decide +kernel
theorem dX7_odds_43 : decode cX7_odds 43 = .ok (.istore 5, 2) := by decide +kernel
theorem dX7_odds_45 : decode cX7_odds 45 = .ok (.iload 5, 2) := by decide +kernel
theorem dX7_odds_47 : decode cX7_odds 47 = .ok (.aload_n 0, 1) := by decide +kernel
theorem dX7_odds_48 : decode cX7_odds 48 = .ok (.getfield 24, 3) := by decide +kernel
theorem dX7_odds_51 : decode cX7_odds 51 = .ok (.invokevirtual 193, 3) := by decide +kernel
theorem dX7_odds_54 : decode cX7_odds 54 = .ok (.if_icmp .gt 35, 3) := by decide +kernel
theorem dX7_odds_57 : decode cX7_odds 57 = .ok (.aload_n 0, 1) := by decide +kernel
theorem dX7_odds_58 : decode cX7_odds 58 = .ok (.getfield 52, 3) := by decide +kernel
theorem dX7_odds_61 : decode cX7_odds 61 = .ok (.iload 5, 2) := by decide +kernel
theorem dX7_odds_63 : decode cX7_odds 63 = .ok (.invokevirtual 190, 3) := by decide +kernel
theorem dX7_odds_66 : decode cX7_odds 66 = .ok (.iload_n 1, 1) := by decide +kernel
theorem dX7_odds_67 : decode cX7_odds 67 = .ok (.invokestatic 202, 3) := by decide +kernel
theorem dX7_odds_70 : decode cX7_odds 70 = .ok (.ifCond .eq 13, 3) := by decide +kernel
theorem dX7_odds_73 : decode cX7_odds 73 = .ok (.lload_n 3, 1) := by decide +kernel
theorem dX7_odds_74 : decode cX7_odds 74 = .ok (.aload_n 0, 1) := by decide +kernel
theorem dX7_odds_75 : decode cX7_odds 75 = .ok (.iload 5, 2) := by decide +kernel
theorem dX7_odds_77 : decode cX7_odds 77 = .ok (.iload_n 2, 1) := by decide +kernel
theorem dX7_odds_78 : decode cX7_odds 78 = .ok (.invokevirtual 272, 3) := by decide +kernel
theorem dX7_odds_81 : decode cX7_odds 81 = .ok (.ladd, 1) := by decide +kernel
theorem dX7_odds_82 : decode cX7_odds 82 = .ok (.lstore_n 3, 1) := by decide +kernel
theorem dX7_odds_83 : decode cX7_odds 83 = .ok (.iinc 5 1, 3) := by decide +kernel
theorem dX7_odds_86 : decode cX7_odds 86 = .ok (.goto (-41), 3) := by decide +kernel
theorem dX7_odds_89 : decode cX7_odds 89 = .ok (.aload_n 0, 1) := by decide +kernel
theorem dX7_odds_90 : decode cX7_odds 90 = .ok (.lload_n 3, 1) := by decide +kernel
theorem dX7_odds_91 : decode cX7_odds 91 = .ok (.aload_n 0, 1) := by decide +kernel
theorem dX7_odds_92 : decode cX7_odds 92 = .ok (.invokevirtual 276, 3) := by decide +kernel
theorem dX7_odds_95 : decode cX7_odds 95 = .ok (.invokevirtual 242, 3) := by decide +kernel
theorem dX7_odds_98 : decode cX7_odds 98 = .ok (.iconst 1, 1) := by decide +kernel
theorem dX7_odds_99 : decode cX7_odds 99 = .ok (.ireturn, 1) := by decide +kernel
theorem dX7_mid_0 : decode cX7_mid 0 = .ok (.iload_n 1, 1) := by decide +kernel
theorem dX7_mid_1 : decode cX7_mid 1 = .ok (.invokestatic 269, 3) := by decide +kernel
theorem dX7_mid_4 : decode cX7_mid 4 = .ok (.ifCond .ne 5, 3) := by decide +kernel
theorem dX7_mid_7 : decode cX7_mid 7 = .ok (.iconst (-1), 1) := by decide +kernel
theorem dX7_mid_8 : decode cX7_mid 8 = .ok (.ireturn, 1) := by decide +kernel
theorem dX7_mid_9 : decode cX7_mid 9 = .ok (.aload_n 0, 1) := by decide +kernel
theorem dX7_mid_10 : decode cX7_mid 10 = .ok (.getfield 24, 3) := by decide +kernel
theorem dX7_mid_13 : decode cX7_mid 13 = .ok (.getfield 141, 3) := by decide +kernel
theorem dX7_mid_16 : decode cX7_mid 16 = .ok (.ifCond .ne 6, 3) := by decide +kernel
theorem dX7_mid_19 : decode cX7_mid 19 = .ok (.bipush (-4), 2) := by decide +kernel
theorem dX7_mid_21 : decode cX7_mid 21 = .ok (.ireturn, 1) := by decide +kernel
theorem dX7_mid_22 : decode cX7_mid 22 = .ok (.aload_n 0, 1) := by decide +kernel
theorem dX7_mid_23 : decode cX7_mid 23 = .ok (.getfield 52, 3) := by decide +kernel
theorem dX7_mid_26 : decode cX7_mid 26 = .ok (.aload_n 0, 1) := by decide +kernel
theorem dX7_mid_27 : decode cX7_mid 27 = .ok (.getfield 24, 3) := by decide +kernel
theorem dX7_mid_30 : decode cX7_mid 30 = .ok (.invokevirtual 184, 3) := by decide +kernel
theorem dX7_mid_33 : decode cX7_mid 33 = .ok (.lconst 0, 1) := by decide +kernel
theorem dX7_mid_34 : decode cX7_mid 34 = .ok (.lstore_n 2, 1) := by decide +kernel
theorem dX7_mid_35 : decode cX7_mid 35 = .ok (.iconst 0, 1) := by decide +kernel
theorem dX7_mid_36 : decode cX7_mid 36 = .ok (.istore 4, 2) := by decide +kernel
theorem dX7_mid_38 : decode cX7_mid 38 = .ok (.iload 4, 2) := by decide +kernel
theorem dX7_mid_40 : decode cX7_mid 40 = .ok (.aload_n 0, 1) := by decide +kernel
theorem dX7_mid_41 : decode cX7_mid 41 = .ok (.getfield 24, 3) := by decide +kernel
theorem dX7_mid_44 : decode cX7_mid 44 = .ok (.invokevirtual 193, 3) := by decide +kernel
theorem dX7_mid_47 : decode cX7_mid 47 = .ok (.if_icmp .gt 33, 3) := by decide +kernel
theorem dX7_mid_50 : decode cX7_mid 50 = .ok (.lload_n 2, 1) := by decide +kernel
theorem dX7_mid_51 : decode cX7_mid 51 = .ok (.aload_n 0, 1) := by decide +kernel
theorem dX7_mid_52 : decode cX7_mid 52 = .ok (.iload 4, 2) := by decide +kernel
theorem dX7_mid_54 : decode cX7_mid 54 = .ok (.iload_n 1, 1) := by decide +kernel
theorem dX7_mid_55 : decode cX7_mid 55 = .ok (.invokevirtual 272, 3) := by decide +kernel
theorem dX7_mid_58 : decode cX7_mid 58 = .ok (.aload_n 0, 1) := by decide +kernel
theorem dX7_mid_59 : decode cX7_mid 59 = .ok (.getfield 52, 3) := by decide +kernel
theorem dX7_mid_62 : decode cX7_mid 62 = .ok (.iload 4, 2) := by decide +kernel
theorem dX7_mid_64 : decode cX7_mid 64 = .ok (.invokevirtual 190, 3) := by decide +kernel
theorem dX7_mid_67 : decode cX7_mid 67 = .ok (.invokestatic 197, 3) := by decide +kernel
theorem dX7_mid_70 : decode cX7_mid 70 = .ok (.i2l, 1) := by decide +kernel
theorem dX7_mid_71 : decode cX7_mid 71 = .ok (.lmul, 1) := by decide +kernel
theorem dX7_mid_72 : decode cX7_mid 72 = .ok (.ladd, 1) := by decide +kernel
theorem dX7_mid_73 : decode cX7_mid 73 = .ok (.lstore_n 2, 1) := by decide +kernel
theorem dX7_mid_74 : decode cX7_mid 74 = .ok (.iinc 4 1, 3) := by decide +kernel
theorem dX7_mid_77 : decode cX7_mid 77 = .ok (.goto (-39), 3) := by decide +kernel
theorem dX7_mid_80 : decode cX7_mid 80 = .ok (.aload_n 0, 1) := by decide +kernel
theorem dX7_mid_81 : decode cX7_mid 81 = .ok (.lload_n 2, 1) := by decide +kernel
theorem dX7_mid_82 : decode cX7_mid 82 = .ok (.aload_n 0, 1) := by decide +kernel
theorem dX7_mid_83 : decode cX7_mid 83 = .ok (.invokevirtual 276, 3) := by decide +kernel
theorem dX7_mid_86 : decode cX7_mid 86 = .ok (.invokevirtual 242, 3) := by decide +kernel
theorem dX7_mid_89 : decode cX7_mid 89 = .ok (.iconst 1, 1) := by decide +kernel
theorem dX7_mid_90 : decode cX7_mid 90 = .ok (.ireturn, 1) := by decide +kernel
theorem dX7_lots_0 : decode cX7_lots 0 = .ok (.iload_n 1, 1) := by decide +kernel
theorem dX7_lots_1 : decode cX7_lots 1 = .ok (.iconst 1, 1) := by decide +kernel
theorem dX7_lots_2 : decode cX7_lots 2 = .ok (.if_icmp .lt 21, 3) := by decide +kernel
theorem dX7_lots_5 : decode cX7_lots 5 = .ok (.iload_n 1, 1) := by decide +kernel
theorem dX7_lots_6 : decode cX7_lots 6 = .ok (.bipush 20, 2) := by decide +kernel
theorem dX7_lots_8 : decode cX7_lots 8 = .ok (.if_icmp .gt 15, 3) := by decide +kernel
theorem dX7_lots_11 : decode cX7_lots 11 = .ok (.iload_n 2, 1) := by decide +kernel
theorem dX7_lots_12 : decode cX7_lots 12 = .ok (.iconst 1, 1) := by decide +kernel
theorem dX7_lots_13 : decode cX7_lots 13 = .ok (.if_icmp .lt 10, 3) := by decide +kernel
theorem dX7_lots_16 : decode cX7_lots 16 = .ok (.iload_n 2, 1) := by decide +kernel
theorem dX7_lots_17 : decode cX7_lots 17 = .ok (.ldc_w 280, 3) := by decide +kernel
theorem dX7_lots_20 : decode cX7_lots 20 = .ok (.if_icmp .le 5, 3) := by decide +kernel
theorem dX7_lots_23 : decode cX7_lots 23 = .ok (.iconst (-1), 1) := by decide +kernel
theorem dX7_lots_24 : decode cX7_lots 24 = .ok (.ireturn, 1) := by decide +kernel
theorem dX7_lots_25 : decode cX7_lots 25 = .ok (.aload_n 0, 1) := by decide +kernel
theorem dX7_lots_26 : decode cX7_lots 26 = .ok (.getfield 24, 3) := by decide +kernel
theorem dX7_lots_29 : decode cX7_lots 29 = .ok (.getfield 141, 3) := by decide +kernel
theorem dX7_lots_32 : decode cX7_lots 32 = .ok (.istore_n 3, 1) := by decide +kernel
theorem dX7_lots_33 : decode cX7_lots 33 = .ok (.iload_n 3, 1) := by decide +kernel
theorem dX7_lots_34 : decode cX7_lots 34 = .ok (.ifCond .gt 6, 3) := by decide +kernel
theorem dX7_lots_37 : decode cX7_lots 37 = .ok (.bipush (-4), 2) := by decide +kernel
theorem dX7_lots_39 : decode cX7_lots 39 = .ok (.ireturn, 1) := by decide +kernel
theorem dX7_lots_40 : decode cX7_lots 40 = .ok (.aload_n 0, 1) := by decide +kernel
theorem dX7_lots_41 : decode cX7_lots 41 = .ok (.getfield 24, 3) := by decide +kernel
theorem dX7_lots_44 : decode cX7_lots 44 = .ok (.getfield 165, 3) := by decide +kernel
theorem dX7_lots_47 : decode cX7_lots 47 = .ok (.iload_n 1, 1) := by decide +kernel
theorem dX7_lots_48 : decode cX7_lots 48 = .ok (.iadd, 1) := by decide +kernel
theorem dX7_lots_49 : decode cX7_lots 49 = .ok (.bipush 40, 2) := by decide +kernel
theorem dX7_lots_51 : decode cX7_lots 51 = .ok (.if_icmp .le 6, 3) := by decide +kernel
theorem dX7_lots_54 : decode cX7_lots 54 = .ok (.bipush (-2), 2) := by decide +kernel
theorem dX7_lots_56 : decode cX7_lots 56 = .ok (.ireturn, 1) := by decide +kernel
theorem dX7_lots_57 : decode cX7_lots 57 = .ok (.iload_n 2, 1) := by decide +kernel
theorem dX7_lots_58 : decode cX7_lots 58 = .ok (.i2l, 1) := by decide +kernel
theorem dX7_lots_59 : decode cX7_lots 59 = .ok (.lstore 4, 2) := by decide +kernel
theorem dX7_lots_61 : decode cX7_lots 61 = .ok (.iconst 0, 1) := by decide +kernel
theorem dX7_lots_62 : decode cX7_lots 62 = .ok (.istore 6, 2) := by decide +kernel
theorem dX7_lots_64 : decode cX7_lots 64 = .ok (.iload 6, 2) := by decide +kernel
theorem dX7_lots_66 : decode cX7_lots 66 = .ok (.iload_n 1, 1) := by decide +kernel
theorem dX7_lots_67 : decode cX7_lots 67 = .ok (.if_icmp .ge 74, 3) := by decide +kernel
theorem dX7_lots_70 : decode cX7_lots 70 = .ok (.lload 4, 2) := by decide +kernel
theorem dX7_lots_72 : decode cX7_lots 72 = .ok (.ldc2_w 281, 3) := by decide +kernel
theorem dX7_lots_75 : decode cX7_lots 75 = .ok (.lmul, 1) := by decide +kernel
theorem dX7_lots_76 : decode cX7_lots 76 = .ok (.ldc2_w 283, 3) := by decide +kernel
theorem dX7_lots_79 : decode cX7_lots 79 = .ok (.lrem, 1) := by decide +kernel
theorem dX7_lots_80 : decode cX7_lots 80 = .ok (.lstore 4, 2) := by decide +kernel
theorem dX7_lots_82 : decode cX7_lots 82 = .ok (.lload 4, 2) := by decide +kernel
theorem dX7_lots_84 : decode cX7_lots 84 = .ok (.iload_n 3, 1) := by decide +kernel
theorem dX7_lots_85 : decode cX7_lots 85 = .ok (.i2l, 1) := by decide +kernel
theorem dX7_lots_86 : decode cX7_lots 86 = .ok (.lrem, 1) := by decide +kernel
theorem dX7_lots_87 : decode cX7_lots 87 = .ok (.l2i, 1) := by decide +kernel
theorem dX7_lots_88 : decode cX7_lots 88 = .ok (.istore 7, 2) := by decide +kernel
theorem dX7_lots_90 : decode cX7_lots 90 = .ok (.lload 4, 2) := by decide +kernel
theorem dX7_lots_92 : decode cX7_lots 92 = .ok (.ldc2_w 285, 3) := by decide +kernel
theorem dX7_lots_95 : decode cX7_lots 95 = .ok (.ldiv, 1) := by decide +kernel
theorem dX7_lots_96 : decode cX7_lots 96 = .ok (.ldc2_w 285, 3) := by decide +kernel
theorem dX7_lots_99 : decode cX7_lots 99 = .ok (.lrem, 1) := by decide +kernel
theorem dX7_lots_100 : decode cX7_lots 100 = .ok (.l2i, 1) := by decide +kernel
theorem dX7_lots_101 : decode cX7_lots 101 = .ok (.invokestatic 287, 3) := by decide +kernel
theorem dX7_lots_104 : decode cX7_lots 104 = .ok (.istore 8, 2) := by decide +kernel
theorem dX7_lots_106 : decode cX7_lots 106 = .ok (.aload_n 0, 1) := by decide +kernel
theorem dX7_lots_107 : decode cX7_lots 107 = .ok (.getfield 24, 3) := by decide +kernel
theorem dX7_lots_110 : decode cX7_lots 110 = .ok (.aload_n 0, 1) := by decide +kernel
theorem dX7_lots_111 : decode cX7_lots 111 = .ok (.getfield 24, 3) := by decide +kernel
theorem dX7_lots_114 : decode cX7_lots 114 = .ok (.iload 8, 2) := by decide +kernel
theorem dX7_lots_116 : decode cX7_lots 116 = .ok (.iload 7, 2) := by decide +kernel
theorem dX7_lots_118 : decode cX7_lots 118 = .ok (.invokevirtual 290, 3) := by decide +kernel
theorem dX7_lots_121 : decode cX7_lots 121 = .ok (.ifCond .eq 8, 3) := by decide +kernel
theorem dX7_lots_124 : decode cX7_lots 124 = .ok (.iload 8, 2) := by decide +kernel
theorem dX7_lots_126 : decode cX7_lots 126 = .ok (.goto 4, 3) := by decide +kernel
theorem dX7_lots_129 : decode cX7_lots 129 = .ok (.iconst 4, 1) := by decide +kernel
theorem dX7_lots_130 : decode cX7_lots 130 = .ok (.iload 7, 2) := by decide +kernel
theorem dX7_lots_132 : decode cX7_lots 132 = .ok (.invokevirtual 293, 3) := by decide +kernel
theorem dX7_lots_135 : decode cX7_lots 135 = .ok (.iinc 6 1, 3) := by decide +kernel
theorem dX7_lots_138 : decode cX7_lots 138 = .ok (.goto (-74), 3) := by decide +kernel
theorem dX7_lots_141 : decode cX7_lots 141 = .ok (.aload_n 0, 1) := by decide +kernel
theorem dX7_lots_142 : decode cX7_lots 142 = .ok (.invokevirtual 296, 3) := by decide +kernel
theorem dX7_lots_145 : decode cX7_lots 145 = .ok (.invokestatic 197, 3) := by decide +kernel
theorem dX7_lots_148 : decode cX7_lots 148 = .ok (.ireturn, 1) := by decide +kernel
theorem dX7_asked_0 : decode cX7_asked 0 = .ok (.aload_n 0, 1) := by decide +kernel
theorem dX7_asked_1 : decode cX7_asked 1 = .ok (.getfield 76, 3) := by decide +kernel
theorem dX7_asked_4 : decode cX7_asked 4 = .ok (.ireturn, 1) := by decide +kernel
theorem dX7_upper_0 : decode cX7_upper 0 = .ok (.aload_n 0, 1) := by decide +kernel
theorem dX7_upper_1 : decode cX7_upper 1 = .ok (.getfield 79, 3) := by decide +kernel
theorem dX7_upper_4 : decode cX7_upper 4 = .ok (.lreturn, 1) := by decide +kernel
theorem dX7_lower_0 : decode cX7_lower 0 = .ok (.aload_n 0, 1) := by decide +kernel
theorem dX7_lower_1 : decode cX7_lower 1 = .ok (.getfield 83, 3) := by decide +kernel
theorem dX7_lower_4 : decode cX7_lower 4 = .ok (.lreturn, 1) := by decide +kernel
theorem dX7_count_0 : decode cX7_count 0 = .ok (.iload_n 1, 1) := by decide +kernel
theorem dX7_count_1 : decode cX7_count 1 = .ok (.tableswitch 175 0 11 #[63, 71, 79, 87, 95, 100, 118, 136, 145, 154, 162, 170], 63) := by decide +kernel
theorem dX7_count_64 : decode cX7_count 64 = .ok (.aload_n 0, 1) := by decide +kernel
theorem dX7_count_65 : decode cX7_count 65 = .ok (.getfield 24, 3) := by decide +kernel
theorem dX7_count_68 : decode cX7_count 68 = .ok (.getfield 141, 3) := by decide +kernel
theorem dX7_count_71 : decode cX7_count 71 = .ok (.ireturn, 1) := by decide +kernel
theorem dX7_count_72 : decode cX7_count 72 = .ok (.aload_n 0, 1) := by decide +kernel
theorem dX7_count_73 : decode cX7_count 73 = .ok (.getfield 24, 3) := by decide +kernel
theorem dX7_count_76 : decode cX7_count 76 = .ok (.getfield 299, 3) := by decide +kernel
theorem dX7_count_79 : decode cX7_count 79 = .ok (.ireturn, 1) := by decide +kernel
theorem dX7_count_80 : decode cX7_count 80 = .ok (.aload_n 0, 1) := by decide +kernel
theorem dX7_count_81 : decode cX7_count 81 = .ok (.getfield 24, 3) := by decide +kernel
theorem dX7_count_84 : decode cX7_count 84 = .ok (.getfield 165, 3) := by decide +kernel
theorem dX7_count_87 : decode cX7_count 87 = .ok (.ireturn, 1) := by decide +kernel
theorem dX7_count_88 : decode cX7_count 88 = .ok (.aload_n 0, 1) := by decide +kernel
theorem dX7_count_89 : decode cX7_count 89 = .ok (.getfield 24, 3) := by decide +kernel
theorem dX7_count_92 : decode cX7_count 92 = .ok (.getfield 302, 3) := by decide +kernel
theorem dX7_count_95 : decode cX7_count 95 = .ok (.ireturn, 1) := by decide +kernel
theorem dX7_count_96 : decode cX7_count 96 = .ok (.aload_n 0, 1) := by decide +kernel
theorem dX7_count_97 : decode cX7_count 97 = .ok (.invokevirtual 296, 3) := by decide +kernel
theorem dX7_count_100 : decode cX7_count 100 = .ok (.ireturn, 1) := by decide +kernel
theorem dX7_count_101 : decode cX7_count 101 = .ok (.aload_n 0, 1) := by decide +kernel
theorem dX7_count_102 : decode cX7_count 102 = .ok (.getfield 24, 3) := by decide +kernel
theorem dX7_count_105 : decode cX7_count 105 = .ok (.getfield 305, 3) := by decide +kernel
theorem dX7_count_108 : decode cX7_count 108 = .ok (.aload_n 0, 1) := by decide +kernel
theorem dX7_count_109 : decode cX7_count 109 = .ok (.getfield 24, 3) := by decide +kernel
theorem dX7_count_112 : decode cX7_count 112 = .ok (.getfield 141, 3) := by decide +kernel
theorem dX7_count_115 : decode cX7_count 115 = .ok (.invokevirtual 308, 3) := by decide +kernel
theorem dX7_count_118 : decode cX7_count 118 = .ok (.ireturn, 1) := by decide +kernel
theorem dX7_count_119 : decode cX7_count 119 = .ok (.aload_n 0, 1) := by decide +kernel
theorem dX7_count_120 : decode cX7_count 120 = .ok (.getfield 24, 3) := by decide +kernel
theorem dX7_count_123 : decode cX7_count 123 = .ok (.getfield 311, 3) := by decide +kernel
theorem dX7_count_126 : decode cX7_count 126 = .ok (.aload_n 0, 1) := by decide +kernel
theorem dX7_count_127 : decode cX7_count 127 = .ok (.getfield 24, 3) := by decide +kernel
theorem dX7_count_130 : decode cX7_count 130 = .ok (.getfield 141, 3) := by decide +kernel
theorem dX7_count_133 : decode cX7_count 133 = .ok (.invokevirtual 308, 3) := by decide +kernel
theorem dX7_count_136 : decode cX7_count 136 = .ok (.ireturn, 1) := by decide +kernel
theorem dX7_count_137 : decode cX7_count 137 = .ok (.aload_n 0, 1) := by decide +kernel
theorem dX7_count_138 : decode cX7_count 138 = .ok (.getfield 24, 3) := by decide +kernel
theorem dX7_count_141 : decode cX7_count 141 = .ok (.iconst 1, 1) := by decide +kernel
theorem dX7_count_142 : decode cX7_count 142 = .ok (.invokevirtual 314, 3) := by decide +kernel
theorem dX7_count_145 : decode cX7_count 145 = .ok (.ireturn, 1) := by decide +kernel
theorem dX7_count_146 : decode cX7_count 146 = .ok (.aload_n 0, 1) := by decide +kernel
theorem dX7_count_147 : decode cX7_count 147 = .ok (.getfield 24, 3) := by decide +kernel
theorem dX7_count_150 : decode cX7_count 150 = .ok (.iconst 3, 1) := by decide +kernel
theorem dX7_count_151 : decode cX7_count 151 = .ok (.invokevirtual 314, 3) := by decide +kernel
theorem dX7_count_154 : decode cX7_count 154 = .ok (.ireturn, 1) := by decide +kernel
theorem dX7_count_155 : decode cX7_count 155 = .ok (.aload_n 0, 1) := by decide +kernel
theorem dX7_count_156 : decode cX7_count 156 = .ok (.getfield 14, 3) := by decide +kernel
theorem dX7_count_159 : decode cX7_count 159 = .ok (.invokevirtual 317, 3) := by decide +kernel
theorem dX7_count_162 : decode cX7_count 162 = .ok (.ireturn, 1) := by decide +kernel
theorem dX7_count_163 : decode cX7_count 163 = .ok (.aload_n 0, 1) := by decide +kernel
theorem dX7_count_164 : decode cX7_count 164 = .ok (.getfield 18, 3) := by decide +kernel
theorem dX7_count_167 : decode cX7_count 167 = .ok (.invokevirtual 317, 3) := by decide +kernel
theorem dX7_count_170 : decode cX7_count 170 = .ok (.ireturn, 1) := by decide +kernel
theorem dX7_count_171 : decode cX7_count 171 = .ok (.aload_n 0, 1) := by decide +kernel
theorem dX7_count_172 : decode cX7_count 172 = .ok (.invokevirtual 320, 3) := by decide +kernel
theorem dX7_count_175 : decode cX7_count 175 = .ok (.ireturn, 1) := by decide +kernel
theorem dX7_count_176 : decode cX7_count 176 = .ok (.iconst (-1), 1) := by decide +kernel
theorem dX7_count_177 : decode cX7_count 177 = .ok (.ireturn, 1) := by decide +kernel
theorem dX7_digest_0 : decode cX7_digest 0 = .ok (.ldc2_w 323, 3) := by decide +kernel
theorem dX7_digest_3 : decode cX7_digest 3 = .ok (.lstore_n 1, 1) := by decide +kernel
theorem dX7_digest_4 : decode cX7_digest 4 = .ok (.iconst 0, 1) := by decide +kernel
theorem dX7_digest_5 : decode cX7_digest 5 = .ok (.istore_n 3, 1) := by decide +kernel
theorem dX7_digest_6 : decode cX7_digest 6 = .ok (.iload_n 3, 1) := by decide +kernel
theorem dX7_digest_7 : decode cX7_digest 7 = .ok (.bipush 12, 2) := by decide +kernel
theorem dX7_digest_9 : decode cX7_digest 9 = .ok (.if_icmp .ge 22, 3) := by decide +kernel
theorem dX7_digest_12 : decode cX7_digest 12 = .ok (.ldc2_w 325, 3) := by decide +kernel
theorem dX7_digest_15 : decode cX7_digest 15 = .ok (.lload_n 1, 1) := by decide +kernel
theorem dX7_digest_16 : decode cX7_digest 16 = .ok (.lmul, 1) := by decide +kernel
theorem dX7_digest_17 : decode cX7_digest 17 = .ok (.aload_n 0, 1) := by decide +kernel
theorem dX7_digest_18 : decode cX7_digest 18 = .ok (.iload_n 3, 1) := by decide +kernel
theorem dX7_digest_19 : decode cX7_digest 19 = .ok (.invokevirtual 327, 3) := by decide +kernel
theorem dX7_digest_22 : decode cX7_digest 22 = .ok (.i2l, 1) := by decide +kernel
theorem dX7_digest_23 : decode cX7_digest 23 = .ok (.ladd, 1) := by decide +kernel
theorem dX7_digest_24 : decode cX7_digest 24 = .ok (.lstore_n 1, 1) := by decide +kernel
theorem dX7_digest_25 : decode cX7_digest 25 = .ok (.iinc 3 1, 3) := by decide +kernel
theorem dX7_digest_28 : decode cX7_digest 28 = .ok (.goto (-22), 3) := by decide +kernel
theorem dX7_digest_31 : decode cX7_digest 31 = .ok (.iconst 0, 1) := by decide +kernel
theorem dX7_digest_32 : decode cX7_digest 32 = .ok (.istore_n 3, 1) := by decide +kernel
theorem dX7_digest_33 : decode cX7_digest 33 = .ok (.iload_n 3, 1) := by decide +kernel
theorem dX7_digest_34 : decode cX7_digest 34 = .ok (.aload_n 0, 1) := by decide +kernel
theorem dX7_digest_35 : decode cX7_digest 35 = .ok (.getfield 24, 3) := by decide +kernel
theorem dX7_digest_38 : decode cX7_digest 38 = .ok (.getfield 141, 3) := by decide +kernel
theorem dX7_digest_41 : decode cX7_digest 41 = .ok (.if_icmp .ge 74, 3) := by decide +kernel
theorem dX7_digest_44 : decode cX7_digest 44 = .ok (.iconst 0, 1) := by decide +kernel
theorem dX7_digest_45 : decode cX7_digest 45 = .ok (.istore 4, 2) := by decide +kernel
theorem dX7_digest_47 : decode cX7_digest 47 = .ok (.iload 4, 2) := by decide +kernel
theorem dX7_digest_49 : decode cX7_digest 49 = .ok (.bipush 6, 2) := by decide +kernel
theorem dX7_digest_51 : decode cX7_digest 51 = .ok (.if_icmp .ge 24, 3) := by decide +kernel
theorem dX7_digest_54 : decode cX7_digest 54 = .ok (.ldc2_w 325, 3) := by decide +kernel
theorem dX7_digest_57 : decode cX7_digest 57 = .ok (.lload_n 1, 1) := by decide +kernel
theorem dX7_digest_58 : decode cX7_digest 58 = .ok (.lmul, 1) := by decide +kernel
theorem dX7_digest_59 : decode cX7_digest 59 = .ok (.aload_n 0, 1) := by decide +kernel
theorem dX7_digest_60 : decode cX7_digest 60 = .ok (.iload_n 3, 1) := by decide +kernel
theorem dX7_digest_61 : decode cX7_digest 61 = .ok (.iload 4, 2) := by decide +kernel
theorem dX7_digest_63 : decode cX7_digest 63 = .ok (.invokevirtual 147, 3) := by decide +kernel
theorem dX7_digest_66 : decode cX7_digest 66 = .ok (.i2l, 1) := by decide +kernel
theorem dX7_digest_67 : decode cX7_digest 67 = .ok (.ladd, 1) := by decide +kernel
theorem dX7_digest_68 : decode cX7_digest 68 = .ok (.lstore_n 1, 1) := by decide +kernel
theorem dX7_digest_69 : decode cX7_digest 69 = .ok (.iinc 4 1, 3) := by decide +kernel
theorem dX7_digest_72 : decode cX7_digest 72 = .ok (.goto (-25), 3) := by decide +kernel
theorem dX7_digest_75 : decode cX7_digest 75 = .ok (.iconst 0, 1) := by decide +kernel
theorem dX7_digest_76 : decode cX7_digest 76 = .ok (.istore 4, 2) := by decide +kernel
theorem dX7_digest_78 : decode cX7_digest 78 = .ok (.iload 4, 2) := by decide +kernel
theorem dX7_digest_80 : decode cX7_digest 80 = .ok (.bipush 6, 2) := by decide +kernel
theorem dX7_digest_82 : decode cX7_digest 82 = .ok (.if_icmp .ge 27, 3) := by decide +kernel
theorem dX7_digest_85 : decode cX7_digest 85 = .ok (.ldc2_w 325, 3) := by decide +kernel
theorem dX7_digest_88 : decode cX7_digest 88 = .ok (.lload_n 1, 1) := by decide +kernel
theorem dX7_digest_89 : decode cX7_digest 89 = .ok (.lmul, 1) := by decide +kernel
theorem dX7_digest_90 : decode cX7_digest 90 = .ok (.aload_n 0, 1) := by decide +kernel
theorem dX7_digest_91 : decode cX7_digest 91 = .ok (.getfield 24, 3) := by decide +kernel
theorem dX7_digest_94 : decode cX7_digest 94 = .ok (.iload_n 3, 1) := by decide +kernel
theorem dX7_digest_95 : decode cX7_digest 95 = .ok (.iload 4, 2) := by decide +kernel
theorem dX7_digest_97 : decode cX7_digest 97 = .ok (.invokevirtual 178, 3) := by decide +kernel
theorem dX7_digest_100 : decode cX7_digest 100 = .ok (.i2l, 1) := by decide +kernel
theorem dX7_digest_101 : decode cX7_digest 101 = .ok (.ladd, 1) := by decide +kernel
theorem dX7_digest_102 : decode cX7_digest 102 = .ok (.lstore_n 1, 1) := by decide +kernel
theorem dX7_digest_103 : decode cX7_digest 103 = .ok (.iinc 4 1, 3) := by decide +kernel
theorem dX7_digest_106 : decode cX7_digest 106 = .ok (.goto (-28), 3) := by decide +kernel
theorem dX7_digest_109 : decode cX7_digest 109 = .ok (.iinc 3 1, 3) := by decide +kernel
theorem dX7_digest_112 : decode cX7_digest 112 = .ok (.goto (-79), 3) := by decide +kernel
theorem dX7_digest_115 : decode cX7_digest 115 = .ok (.iconst 0, 1) := by decide +kernel
theorem dX7_digest_116 : decode cX7_digest 116 = .ok (.istore_n 3, 1) := by decide +kernel
theorem dX7_digest_117 : decode cX7_digest 117 = .ok (.iload_n 3, 1) := by decide +kernel
theorem dX7_digest_118 : decode cX7_digest 118 = .ok (.iconst 3, 1) := by decide +kernel
theorem dX7_digest_119 : decode cX7_digest 119 = .ok (.if_icmp .ge 38, 3) := by decide +kernel
theorem dX7_digest_122 : decode cX7_digest 122 = .ok (.aload_n 0, 1) := by decide +kernel
theorem dX7_digest_123 : decode cX7_digest 123 = .ok (.iload_n 3, 1) := by decide +kernel
theorem dX7_digest_124 : decode cX7_digest 124 = .ok (.invokevirtual 171, 3) := by decide +kernel
theorem dX7_digest_127 : decode cX7_digest 127 = .ok (.astore 4, 2) := by decide +kernel
theorem dX7_digest_129 : decode cX7_digest 129 = .ok (.ldc2_w 325, 3) := by decide +kernel
theorem dX7_digest_132 : decode cX7_digest 132 = .ok (.lload_n 1, 1) := by decide +kernel
theorem dX7_digest_133 : decode cX7_digest 133 = .ok (.lmul, 1) := by decide +kernel
theorem dX7_digest_134 : decode cX7_digest 134 = .ok (.aload 4, 2) := by decide +kernel
theorem dX7_digest_136 : decode cX7_digest 136 = .ok (.ifnonnull 7, 3) := by decide +kernel
theorem dX7_digest_139 : decode cX7_digest 139 = .ok (.iconst (-1), 1) := by decide +kernel
theorem dX7_digest_140 : decode cX7_digest 140 = .ok (.goto 8, 3) := by decide +kernel
theorem dX7_digest_143 : decode cX7_digest 143 = .ok (.aload 4, 2) := by decide +kernel
theorem dX7_digest_145 : decode cX7_digest 145 = .ok (.getfield 165, 3) := by decide +kernel
theorem dX7_digest_148 : decode cX7_digest 148 = .ok (.i2l, 1) := by decide +kernel
theorem dX7_digest_149 : decode cX7_digest 149 = .ok (.ladd, 1) := by decide +kernel
theorem dX7_digest_150 : decode cX7_digest 150 = .ok (.lstore_n 1, 1) := by decide +kernel
theorem dX7_digest_151 : decode cX7_digest 151 = .ok (.iinc 3 1, 3) := by decide +kernel
theorem dX7_digest_154 : decode cX7_digest 154 = .ok (.goto (-37), 3) := by decide +kernel
theorem dX7_digest_157 : decode cX7_digest 157 = .ok (.aload_n 0, 1) := by decide +kernel
theorem dX7_digest_158 : decode cX7_digest 158 = .ok (.getfield 18, 3) := by decide +kernel
theorem dX7_digest_161 : decode cX7_digest 161 = .ok (.aload_n 0, 1) := by decide +kernel
theorem dX7_digest_162 : decode cX7_digest 162 = .ok (.getfield 14, 3) := by decide +kernel
theorem dX7_digest_165 : decode cX7_digest 165 = .ok (.lload_n 1, 1) := by decide +kernel
theorem dX7_digest_166 : decode cX7_digest 166 = .ok (.invokevirtual 330, 3) := by decide +kernel
theorem dX7_digest_169 : decode cX7_digest 169 = .ok (.invokevirtual 330, 3) := by decide +kernel
theorem dX7_digest_172 : decode cX7_digest 172 = .ok (.lreturn, 1) := by decide +kernel
theorem dX7_found_0 : decode cX7_found 0 = .ok (.aload_n 0, 1) := by decide +kernel
theorem dX7_found_1 : decode cX7_found 1 = .ok (.iload_n 1, 1) := by decide +kernel
theorem dX7_found_2 : decode cX7_found 2 = .ok (.putfield 72, 3) := by decide +kernel
theorem dX7_found_5 : decode cX7_found 5 = .ok (.aload_n 0, 1) := by decide +kernel
theorem dX7_found_6 : decode cX7_found 6 = .ok (.getfield 68, 3) := by decide +kernel
theorem dX7_found_9 : decode cX7_found 9 = .ok (.iload_n 1, 1) := by decide +kernel
theorem dX7_found_10 : decode cX7_found 10 = .ok (.aload_n 0, 1) := by decide +kernel
theorem dX7_found_11 : decode cX7_found 11 = .ok (.getfield 68, 3) := by decide +kernel
theorem dX7_found_14 : decode cX7_found 14 = .ok (.iload_n 1, 1) := by decide +kernel
theorem dX7_found_15 : decode cX7_found 15 = .ok (.invokevirtual 153, 3) := by decide +kernel
theorem dX7_found_18 : decode cX7_found 18 = .ok (.iconst 1, 1) := by decide +kernel
theorem dX7_found_19 : decode cX7_found 19 = .ok (.iadd, 1) := by decide +kernel
theorem dX7_found_20 : decode cX7_found 20 = .ok (.invokevirtual 334, 3) := by decide +kernel
theorem dX7_found_23 : decode cX7_found 23 = .ok (.bipush (-3), 2) := by decide +kernel
theorem dX7_found_25 : decode cX7_found 25 = .ok (.ireturn, 1) := by decide +kernel
theorem dX7_missingPlace_0 : decode cX7_missingPlace 0 = .ok (.aload_n 0, 1) := by decide +kernel
theorem dX7_missingPlace_1 : decode cX7_missingPlace 1 = .ok (.iload_n 1, 1) := by decide +kernel
theorem dX7_missingPlace_2 : decode cX7_missingPlace 2 = .ok (.invokevirtual 109, 3) := by decide +kernel
theorem dX7_missingPlace_5 : decode cX7_missingPlace 5 = .ok (.ifCond .ne 5, 3) := by decide +kernel
theorem dX7_missingPlace_8 : decode cX7_missingPlace 8 = .ok (.iconst 1, 1) := by decide +kernel
theorem dX7_missingPlace_9 : decode cX7_missingPlace 9 = .ok (.ireturn, 1) := by decide +kernel
theorem dX7_missingPlace_10 : decode cX7_missingPlace 10 = .ok (.aload_n 0, 1) := by decide +kernel
theorem dX7_missingPlace_11 : decode cX7_missingPlace 11 = .ok (.iload_n 1, 1) := by decide +kernel
theorem dX7_missingPlace_12 : decode cX7_missingPlace 12 = .ok (.iload_n 2, 1) := by decide +kernel
theorem dX7_missingPlace_13 : decode cX7_missingPlace 13 = .ok (.invokevirtual 336, 3) := by decide +kernel
theorem dX7_missingPlace_16 : decode cX7_missingPlace 16 = .ok (.ifCond .eq 7, 3) := by decide +kernel
theorem dX7_missingPlace_19 : decode cX7_missingPlace 19 = .ok (.iconst 0, 1) := by decide +kernel
theorem dX7_missingPlace_20 : decode cX7_missingPlace 20 = .ok (.goto 4, 3) := by decide +kernel
theorem dX7_missingPlace_23 : decode cX7_missingPlace 23 = .ok (.iconst 2, 1) := by decide +kernel
theorem dX7_missingPlace_24 : decode cX7_missingPlace 24 = .ok (.ireturn, 1) := by decide +kernel
theorem dX7_ofBear_0 : decode cX7_ofBear 0 = .ok (.iload_n 2, 1) := by decide +kernel
theorem dX7_ofBear_1 : decode cX7_ofBear 1 = .ok (.tableswitch 103 0 4 #[35, 47, 59, 71, 83], 35) := by decide +kernel
theorem dX7_ofBear_36 : decode cX7_ofBear 36 = .ok (.aload_n 0, 1) := by decide +kernel
theorem dX7_ofBear_37 : decode cX7_ofBear 37 = .ok (.getfield 24, 3) := by decide +kernel
theorem dX7_ofBear_40 : decode cX7_ofBear 40 = .ok (.getfield 150, 3) := by decide +kernel
theorem dX7_ofBear_43 : decode cX7_ofBear 43 = .ok (.iload_n 1, 1) := by decide +kernel
theorem dX7_ofBear_44 : decode cX7_ofBear 44 = .ok (.invokevirtual 153, 3) := by decide +kernel
theorem dX7_ofBear_47 : decode cX7_ofBear 47 = .ok (.ireturn, 1) := by decide +kernel
theorem dX7_ofBear_48 : decode cX7_ofBear 48 = .ok (.aload_n 0, 1) := by decide +kernel
theorem dX7_ofBear_49 : decode cX7_ofBear 49 = .ok (.getfield 24, 3) := by decide +kernel
theorem dX7_ofBear_52 : decode cX7_ofBear 52 = .ok (.getfield 311, 3) := by decide +kernel
theorem dX7_ofBear_55 : decode cX7_ofBear 55 = .ok (.iload_n 1, 1) := by decide +kernel
theorem dX7_ofBear_56 : decode cX7_ofBear 56 = .ok (.invokevirtual 153, 3) := by decide +kernel
theorem dX7_ofBear_59 : decode cX7_ofBear 59 = .ok (.ireturn, 1) := by decide +kernel
theorem dX7_ofBear_60 : decode cX7_ofBear 60 = .ok (.aload_n 0, 1) := by decide +kernel
theorem dX7_ofBear_61 : decode cX7_ofBear 61 = .ok (.getfield 24, 3) := by decide +kernel
theorem dX7_ofBear_64 : decode cX7_ofBear 64 = .ok (.getfield 305, 3) := by decide +kernel
theorem dX7_ofBear_67 : decode cX7_ofBear 67 = .ok (.iload_n 1, 1) := by decide +kernel
theorem dX7_ofBear_68 : decode cX7_ofBear 68 = .ok (.invokevirtual 153, 3) := by decide +kernel
theorem dX7_ofBear_71 : decode cX7_ofBear 71 = .ok (.ireturn, 1) := by decide +kernel
theorem dX7_ofBear_72 : decode cX7_ofBear 72 = .ok (.aload_n 0, 1) := by decide +kernel
theorem dX7_ofBear_73 : decode cX7_ofBear 73 = .ok (.getfield 24, 3) := by decide +kernel
theorem dX7_ofBear_76 : decode cX7_ofBear 76 = .ok (.getfield 339, 3) := by decide +kernel
theorem dX7_ofBear_79 : decode cX7_ofBear 79 = .ok (.iload_n 1, 1) := by decide +kernel
theorem dX7_ofBear_80 : decode cX7_ofBear 80 = .ok (.invokevirtual 153, 3) := by decide +kernel
theorem dX7_ofBear_83 : decode cX7_ofBear 83 = .ok (.ireturn, 1) := by decide +kernel
theorem dX7_ofBear_84 : decode cX7_ofBear 84 = .ok (.aload_n 0, 1) := by decide +kernel
theorem dX7_ofBear_85 : decode cX7_ofBear 85 = .ok (.getfield 24, 3) := by decide +kernel
theorem dX7_ofBear_88 : decode cX7_ofBear 88 = .ok (.getfield 302, 3) := by decide +kernel
theorem dX7_ofBear_91 : decode cX7_ofBear 91 = .ok (.iload_n 1, 1) := by decide +kernel
theorem dX7_ofBear_92 : decode cX7_ofBear 92 = .ok (.invokestatic 202, 3) := by decide +kernel
theorem dX7_ofBear_95 : decode cX7_ofBear 95 = .ok (.ifCond .eq 7, 3) := by decide +kernel
theorem dX7_ofBear_98 : decode cX7_ofBear 98 = .ok (.iconst 1, 1) := by decide +kernel
theorem dX7_ofBear_99 : decode cX7_ofBear 99 = .ok (.goto 4, 3) := by decide +kernel
theorem dX7_ofBear_102 : decode cX7_ofBear 102 = .ok (.iconst 0, 1) := by decide +kernel
theorem dX7_ofBear_103 : decode cX7_ofBear 103 = .ok (.ireturn, 1) := by decide +kernel
theorem dX7_ofBear_104 : decode cX7_ofBear 104 = .ok (.aload_n 0, 1) := by decide +kernel
theorem dX7_ofBear_105 : decode cX7_ofBear 105 = .ok (.getfield 24, 3) := by decide +kernel
theorem dX7_ofBear_108 : decode cX7_ofBear 108 = .ok (.iload_n 1, 1) := by decide +kernel
theorem dX7_ofBear_109 : decode cX7_ofBear 109 = .ok (.aload_n 0, 1) := by decide +kernel
theorem dX7_ofBear_110 : decode cX7_ofBear 110 = .ok (.getfield 24, 3) := by decide +kernel
theorem dX7_ofBear_113 : decode cX7_ofBear 113 = .ok (.getfield 150, 3) := by decide +kernel
theorem dX7_ofBear_116 : decode cX7_ofBear 116 = .ok (.iload_n 1, 1) := by decide +kernel
theorem dX7_ofBear_117 : decode cX7_ofBear 117 = .ok (.invokevirtual 153, 3) := by decide +kernel
theorem dX7_ofBear_120 : decode cX7_ofBear 120 = .ok (.aload_n 0, 1) := by decide +kernel
theorem dX7_ofBear_121 : decode cX7_ofBear 121 = .ok (.getfield 24, 3) := by decide +kernel
theorem dX7_ofBear_124 : decode cX7_ofBear 124 = .ok (.getfield 305, 3) := by decide +kernel
theorem dX7_ofBear_127 : decode cX7_ofBear 127 = .ok (.iload_n 1, 1) := by decide +kernel
theorem dX7_ofBear_128 : decode cX7_ofBear 128 = .ok (.invokevirtual 153, 3) := by decide +kernel
theorem dX7_ofBear_131 : decode cX7_ofBear 131 = .ok (.invokevirtual 342, 3) := by decide +kernel
theorem dX7_ofBear_134 : decode cX7_ofBear 134 = .ok (.ireturn, 1) := by decide +kernel
theorem dX7_answerDeed_0 : decode cX7_answerDeed 0 = .ok (.aload_n 0, 1) := by decide +kernel
theorem dX7_answerDeed_1 : decode cX7_answerDeed 1 = .ok (.getfield 24, 3) := by decide +kernel
theorem dX7_answerDeed_4 : decode cX7_answerDeed 4 = .ok (.iload_n 2, 1) := by decide +kernel
theorem dX7_answerDeed_5 : decode cX7_answerDeed 5 = .ok (.invokevirtual 144, 3) := by decide +kernel
theorem dX7_answerDeed_8 : decode cX7_answerDeed 8 = .ok (.ifCond .ne 5, 3) := by decide +kernel
theorem dX7_answerDeed_11 : decode cX7_answerDeed 11 = .ok (.iconst (-1), 1) := by decide +kernel
theorem dX7_answerDeed_12 : decode cX7_answerDeed 12 = .ok (.ireturn, 1) := by decide +kernel
theorem dX7_answerDeed_13 : decode cX7_answerDeed 13 = .ok (.aload_n 0, 1) := by decide +kernel
theorem dX7_answerDeed_14 : decode cX7_answerDeed 14 = .ok (.getfield 24, 3) := by decide +kernel
theorem dX7_answerDeed_17 : decode cX7_answerDeed 17 = .ok (.iload_n 1, 1) := by decide +kernel
theorem dX7_answerDeed_18 : decode cX7_answerDeed 18 = .ok (.iload_n 2, 1) := by decide +kernel
theorem dX7_answerDeed_19 : decode cX7_answerDeed 19 = .ok (.invokevirtual 290, 3) := by decide +kernel
theorem dX7_answerDeed_22 : decode cX7_answerDeed 22 = .ok (.ifCond .ne 6, 3) := by decide +kernel
theorem dX7_answerDeed_25 : decode cX7_answerDeed 25 = .ok (.bipush (-4), 2) := by decide +kernel
theorem dX7_answerDeed_27 : decode cX7_answerDeed 27 = .ok (.ireturn, 1) := by decide +kernel
theorem dX7_answerDeed_28 : decode cX7_answerDeed 28 = .ok (.aload_n 0, 1) := by decide +kernel
theorem dX7_answerDeed_29 : decode cX7_answerDeed 29 = .ok (.getfield 24, 3) := by decide +kernel
theorem dX7_answerDeed_32 : decode cX7_answerDeed 32 = .ok (.getfield 165, 3) := by decide +kernel
theorem dX7_answerDeed_35 : decode cX7_answerDeed 35 = .ok (.bipush 40, 2) := by decide +kernel
theorem dX7_answerDeed_37 : decode cX7_answerDeed 37 = .ok (.if_icmp .lt 6, 3) := by decide +kernel
theorem dX7_answerDeed_40 : decode cX7_answerDeed 40 = .ok (.bipush (-2), 2) := by decide +kernel
theorem dX7_answerDeed_42 : decode cX7_answerDeed 42 = .ok (.ireturn, 1) := by decide +kernel
theorem dX7_answerDeed_43 : decode cX7_answerDeed 43 = .ok (.aload_n 0, 1) := by decide +kernel
theorem dX7_answerDeed_44 : decode cX7_answerDeed 44 = .ok (.getfield 24, 3) := by decide +kernel
theorem dX7_answerDeed_47 : decode cX7_answerDeed 47 = .ok (.iload_n 1, 1) := by decide +kernel
theorem dX7_answerDeed_48 : decode cX7_answerDeed 48 = .ok (.iload_n 2, 1) := by decide +kernel
theorem dX7_answerDeed_49 : decode cX7_answerDeed 49 = .ok (.invokevirtual 293, 3) := by decide +kernel
theorem dX7_answerDeed_52 : decode cX7_answerDeed 52 = .ok (.iload_n 1, 1) := by decide +kernel
theorem dX7_answerDeed_53 : decode cX7_answerDeed 53 = .ok (.iconst 3, 1) := by decide +kernel
theorem dX7_answerDeed_54 : decode cX7_answerDeed 54 = .ok (.if_icmp .ne 23, 3) := by decide +kernel
theorem dX7_answerDeed_57 : decode cX7_answerDeed 57 = .ok (.aload_n 0, 1) := by decide +kernel
theorem dX7_answerDeed_58 : decode cX7_answerDeed 58 = .ok (.getfield 24, 3) := by decide +kernel
theorem dX7_answerDeed_61 : decode cX7_answerDeed 61 = .ok (.getfield 302, 3) := by decide +kernel
theorem dX7_answerDeed_64 : decode cX7_answerDeed 64 = .ok (.iload_n 2, 1) := by decide +kernel
theorem dX7_answerDeed_65 : decode cX7_answerDeed 65 = .ok (.invokestatic 202, 3) := by decide +kernel
theorem dX7_answerDeed_68 : decode cX7_answerDeed 68 = .ok (.ifCond .eq 7, 3) := by decide +kernel
theorem dX7_answerDeed_71 : decode cX7_answerDeed 71 = .ok (.iconst 1, 1) := by decide +kernel
theorem dX7_answerDeed_72 : decode cX7_answerDeed 72 = .ok (.goto 4, 3) := by decide +kernel
theorem dX7_answerDeed_75 : decode cX7_answerDeed 75 = .ok (.iconst 0, 1) := by decide +kernel
theorem dX7_answerDeed_76 : decode cX7_answerDeed 76 = .ok (.ireturn, 1) := by decide +kernel
theorem dX7_answerDeed_77 : decode cX7_answerDeed 77 = .ok (.iload_n 1, 1) := by decide +kernel
theorem dX7_answerDeed_78 : decode cX7_answerDeed 78 = .ok (.iconst 2, 1) := by decide +kernel
theorem dX7_answerDeed_79 : decode cX7_answerDeed 79 = .ok (.if_icmp .ne 17, 3) := by decide +kernel
theorem dX7_answerDeed_82 : decode cX7_answerDeed 82 = .ok (.aload_n 0, 1) := by decide +kernel
theorem dX7_answerDeed_83 : decode cX7_answerDeed 83 = .ok (.getfield 24, 3) := by decide +kernel
theorem dX7_answerDeed_86 : decode cX7_answerDeed 86 = .ok (.getfield 311, 3) := by decide +kernel
theorem dX7_answerDeed_89 : decode cX7_answerDeed 89 = .ok (.iload_n 2, 1) := by decide +kernel
theorem dX7_answerDeed_90 : decode cX7_answerDeed 90 = .ok (.invokevirtual 153, 3) := by decide +kernel
theorem dX7_answerDeed_93 : decode cX7_answerDeed 93 = .ok (.goto 14, 3) := by decide +kernel
theorem dX7_answerDeed_96 : decode cX7_answerDeed 96 = .ok (.aload_n 0, 1) := by decide +kernel
theorem dX7_answerDeed_97 : decode cX7_answerDeed 97 = .ok (.getfield 24, 3) := by decide +kernel
theorem dX7_answerDeed_100 : decode cX7_answerDeed 100 = .ok (.getfield 305, 3) := by decide +kernel
theorem dX7_answerDeed_103 : decode cX7_answerDeed 103 = .ok (.iload_n 2, 1) := by decide +kernel
theorem dX7_answerDeed_104 : decode cX7_answerDeed 104 = .ok (.invokevirtual 153, 3) := by decide +kernel
theorem dX7_answerDeed_107 : decode cX7_answerDeed 107 = .ok (.ireturn, 1) := by decide +kernel
theorem dX7_actOfLot_0 : decode cX7_actOfLot 0 = .ok (.iload_n 0, 1) := by decide +kernel
theorem dX7_actOfLot_1 : decode cX7_actOfLot 1 = .ok (.iconst 3, 1) := by decide +kernel
theorem dX7_actOfLot_2 : decode cX7_actOfLot 2 = .ok (.if_icmp .gt 5, 3) := by decide +kernel
theorem dX7_actOfLot_5 : decode cX7_actOfLot 5 = .ok (.iconst 0, 1) := by decide +kernel
theorem dX7_actOfLot_6 : decode cX7_actOfLot 6 = .ok (.ireturn, 1) := by decide +kernel
theorem dX7_actOfLot_7 : decode cX7_actOfLot 7 = .ok (.iload_n 0, 1) := by decide +kernel
theorem dX7_actOfLot_8 : decode cX7_actOfLot 8 = .ok (.iconst 5, 1) := by decide +kernel
theorem dX7_actOfLot_9 : decode cX7_actOfLot 9 = .ok (.if_icmp .gt 5, 3) := by decide +kernel
theorem dX7_actOfLot_12 : decode cX7_actOfLot 12 = .ok (.iconst 1, 1) := by decide +kernel
theorem dX7_actOfLot_13 : decode cX7_actOfLot 13 = .ok (.ireturn, 1) := by decide +kernel
theorem dX7_actOfLot_14 : decode cX7_actOfLot 14 = .ok (.iload_n 0, 1) := by decide +kernel
theorem dX7_actOfLot_15 : decode cX7_actOfLot 15 = .ok (.bipush 6, 2) := by decide +kernel
theorem dX7_actOfLot_17 : decode cX7_actOfLot 17 = .ok (.if_icmp .ne 7, 3) := by decide +kernel
theorem dX7_actOfLot_20 : decode cX7_actOfLot 20 = .ok (.iconst 2, 1) := by decide +kernel
theorem dX7_actOfLot_21 : decode cX7_actOfLot 21 = .ok (.goto 4, 3) := by decide +kernel
theorem dX7_actOfLot_24 : decode cX7_actOfLot 24 = .ok (.iconst 3, 1) := by decide +kernel
theorem dX7_actOfLot_25 : decode cX7_actOfLot 25 = .ok (.ireturn, 1) := by decide +kernel
theorem dX7_keptIn_0 : decode cX7_keptIn 0 = .ok (.iload_n 1, 1) := by decide +kernel
theorem dX7_keptIn_1 : decode cX7_keptIn 1 = .ok (.ifCond .lt 12, 3) := by decide +kernel
theorem dX7_keptIn_4 : decode cX7_keptIn 4 = .ok (.iload_n 1, 1) := by decide +kernel
theorem dX7_keptIn_5 : decode cX7_keptIn 5 = .ok (.aload_n 0, 1) := by decide +kernel
theorem dX7_keptIn_6 : decode cX7_keptIn 6 = .ok (.getfield 31, 3) := by decide +kernel
theorem dX7_keptIn_9 : decode cX7_keptIn 9 = .ok (.arraylength, 1) := by decide +kernel
theorem dX7_keptIn_10 : decode cX7_keptIn 10 = .ok (.if_icmp .lt 5, 3) := by decide +kernel
theorem dX7_keptIn_13 : decode cX7_keptIn 13 = .ok (.aconst_null, 1) := by decide +kernel
theorem dX7_keptIn_14 : decode cX7_keptIn 14 = .ok (.areturn, 1) := by decide +kernel
theorem dX7_keptIn_15 : decode cX7_keptIn 15 = .ok (.aload_n 0, 1) := by decide +kernel
theorem dX7_keptIn_16 : decode cX7_keptIn 16 = .ok (.getfield 31, 3) := by decide +kernel
theorem dX7_keptIn_19 : decode cX7_keptIn 19 = .ok (.iload_n 1, 1) := by decide +kernel
theorem dX7_keptIn_20 : decode cX7_keptIn 20 = .ok (.aaload, 1) := by decide +kernel
theorem dX7_keptIn_21 : decode cX7_keptIn 21 = .ok (.astore_n 2, 1) := by decide +kernel
theorem dX7_keptIn_22 : decode cX7_keptIn 22 = .ok (.aload_n 2, 1) := by decide +kernel
theorem dX7_keptIn_23 : decode cX7_keptIn 23 = .ok (.ifnull 14, 3) := by decide +kernel
theorem dX7_keptIn_26 : decode cX7_keptIn 26 = .ok (.aload_n 2, 1) := by decide +kernel
theorem dX7_keptIn_27 : decode cX7_keptIn 27 = .ok (.getfield 141, 3) := by decide +kernel
theorem dX7_keptIn_30 : decode cX7_keptIn 30 = .ok (.ifCond .le 7, 3) := by decide +kernel
theorem dX7_keptIn_33 : decode cX7_keptIn 33 = .ok (.aload_n 2, 1) := by decide +kernel
theorem dX7_keptIn_34 : decode cX7_keptIn 34 = .ok (.goto 4, 3) := by decide +kernel
theorem dX7_keptIn_37 : decode cX7_keptIn 37 = .ok (.aconst_null, 1) := by decide +kernel
theorem dX7_keptIn_38 : decode cX7_keptIn 38 = .ok (.areturn, 1) := by decide +kernel
theorem dX7_forgetKept_0 : decode cX7_forgetKept 0 = .ok (.aload_n 0, 1) := by decide +kernel
theorem dX7_forgetKept_1 : decode cX7_forgetKept 1 = .ok (.iload_n 1, 1) := by decide +kernel
theorem dX7_forgetKept_2 : decode cX7_forgetKept 2 = .ok (.invokevirtual 171, 3) := by decide +kernel
theorem dX7_forgetKept_5 : decode cX7_forgetKept 5 = .ok (.astore_n 2, 1) := by decide +kernel
theorem dX7_forgetKept_6 : decode cX7_forgetKept 6 = .ok (.aload_n 2, 1) := by decide +kernel
theorem dX7_forgetKept_7 : decode cX7_forgetKept 7 = .ok (.ifnull 7, 3) := by decide +kernel
theorem dX7_forgetKept_10 : decode cX7_forgetKept 10 = .ok (.aload_n 2, 1) := by decide +kernel
theorem dX7_forgetKept_11 : decode cX7_forgetKept 11 = .ok (.invokevirtual 346, 3) := by decide +kernel
theorem dX7_forgetKept_14 : decode cX7_forgetKept 14 = .ok (.return_, 1) := by decide +kernel
theorem dX7_keptCourts_0 : decode cX7_keptCourts 0 = .ok (.iconst 0, 1) := by decide +kernel
theorem dX7_keptCourts_1 : decode cX7_keptCourts 1 = .ok (.istore_n 1, 1) := by decide +kernel
theorem dX7_keptCourts_2 : decode cX7_keptCourts 2 = .ok (.iconst 0, 1) := by decide +kernel
theorem dX7_keptCourts_3 : decode cX7_keptCourts 3 = .ok (.istore_n 2, 1) := by decide +kernel
theorem dX7_keptCourts_4 : decode cX7_keptCourts 4 = .ok (.iload_n 2, 1) := by decide +kernel
theorem dX7_keptCourts_5 : decode cX7_keptCourts 5 = .ok (.iconst 3, 1) := by decide +kernel
theorem dX7_keptCourts_6 : decode cX7_keptCourts 6 = .ok (.if_icmp .ge 20, 3) := by decide +kernel
theorem dX7_keptCourts_9 : decode cX7_keptCourts 9 = .ok (.aload_n 0, 1) := by decide +kernel
theorem dX7_keptCourts_10 : decode cX7_keptCourts 10 = .ok (.iload_n 2, 1) := by decide +kernel
theorem dX7_keptCourts_11 : decode cX7_keptCourts 11 = .ok (.invokevirtual 171, 3) := by decide +kernel
theorem dX7_keptCourts_14 : decode cX7_keptCourts 14 = .ok (.ifnull 6, 3) := by decide +kernel
theorem dX7_keptCourts_17 : decode cX7_keptCourts 17 = .ok (.iinc 1 1, 3) := by decide +kernel
theorem dX7_keptCourts_20 : decode cX7_keptCourts 20 = .ok (.iinc 2 1, 3) := by decide +kernel
theorem dX7_keptCourts_23 : decode cX7_keptCourts 23 = .ok (.goto (-19), 3) := by decide +kernel
theorem dX7_keptCourts_26 : decode cX7_keptCourts 26 = .ok (.iload_n 1, 1) := by decide +kernel
theorem dX7_keptCourts_27 : decode cX7_keptCourts 27 = .ok (.ireturn, 1) := by decide +kernel
theorem dX7_shownByAll_0 : decode cX7_shownByAll 0 = .ok (.aload_n 0, 1) := by decide +kernel
theorem dX7_shownByAll_1 : decode cX7_shownByAll 1 = .ok (.getfield 52, 3) := by decide +kernel
theorem dX7_shownByAll_4 : decode cX7_shownByAll 4 = .ok (.aload_n 0, 1) := by decide +kernel
theorem dX7_shownByAll_5 : decode cX7_shownByAll 5 = .ok (.getfield 24, 3) := by decide +kernel
theorem dX7_shownByAll_8 : decode cX7_shownByAll 8 = .ok (.invokevirtual 184, 3) := by decide +kernel
theorem dX7_shownByAll_11 : decode cX7_shownByAll 11 = .ok (.aload_n 0, 1) := by decide +kernel
theorem dX7_shownByAll_12 : decode cX7_shownByAll 12 = .ok (.getfield 52, 3) := by decide +kernel
theorem dX7_shownByAll_15 : decode cX7_shownByAll 15 = .ok (.aload_n 0, 1) := by decide +kernel
theorem dX7_shownByAll_16 : decode cX7_shownByAll 16 = .ok (.getfield 24, 3) := by decide +kernel
theorem dX7_shownByAll_19 : decode cX7_shownByAll 19 = .ok (.invokevirtual 193, 3) := by decide +kernel
theorem dX7_shownByAll_22 : decode cX7_shownByAll 22 = .ok (.invokevirtual 190, 3) := by decide +kernel
theorem dX7_shownByAll_25 : decode cX7_shownByAll 25 = .ok (.ireturn, 1) := by decide +kernel
theorem dX7_readLooks_0 : decode cX7_readLooks 0 = .ok (.aload_n 0, 1) := by decide +kernel
theorem dX7_readLooks_1 : decode cX7_readLooks 1 = .ok (.getfield 14, 3) := by decide +kernel
theorem dX7_readLooks_4 : decode cX7_readLooks 4 = .ok (.iload_n 1, 1) := by decide +kernel
theorem dX7_readLooks_5 : decode cX7_readLooks 5 = .ok (.invokevirtual 86, 3) := by decide +kernel
theorem dX7_readLooks_8 : decode cX7_readLooks 8 = .ok (.ifCond .ne 5, 3) := by decide +kernel
theorem dX7_readLooks_11 : decode cX7_readLooks 11 = .ok (.iconst (-1), 1) := by decide +kernel
theorem dX7_readLooks_12 : decode cX7_readLooks 12 = .ok (.ireturn, 1) := by decide +kernel
theorem dX7_readLooks_13 : decode cX7_readLooks 13 = .ok (.aload_n 0, 1) := by decide +kernel
theorem dX7_readLooks_14 : decode cX7_readLooks 14 = .ok (.getfield 24, 3) := by decide +kernel
theorem dX7_readLooks_17 : decode cX7_readLooks 17 = .ok (.getfield 141, 3) := by decide +kernel
theorem dX7_readLooks_20 : decode cX7_readLooks 20 = .ok (.ifCond .ne 6, 3) := by decide +kernel
theorem dX7_readLooks_23 : decode cX7_readLooks 23 = .ok (.bipush (-4), 2) := by decide +kernel
theorem dX7_readLooks_25 : decode cX7_readLooks 25 = .ok (.ireturn, 1) := by decide +kernel
theorem dX7_readLooks_26 : decode cX7_readLooks 26 = .ok (.aload_n 0, 1) := by decide +kernel
theorem dX7_readLooks_27 : decode cX7_readLooks 27 = .ok (.getfield 45, 3) := by decide +kernel
theorem dX7_readLooks_30 : decode cX7_readLooks 30 = .ok (.aload_n 0, 1) := by decide +kernel
theorem dX7_readLooks_31 : decode cX7_readLooks 31 = .ok (.getfield 14, 3) := by decide +kernel
theorem dX7_readLooks_34 : decode cX7_readLooks 34 = .ok (.iload_n 1, 1) := by decide +kernel
theorem dX7_readLooks_35 : decode cX7_readLooks 35 = .ok (.aload_n 0, 1) := by decide +kernel
theorem dX7_readLooks_36 : decode cX7_readLooks 36 = .ok (.getfield 24, 3) := by decide +kernel
theorem dX7_readLooks_39 : decode cX7_readLooks 39 = .ok (.getfield 141, 3) := by decide +kernel
theorem dX7_readLooks_42 : decode cX7_readLooks 42 = .ok (.invokevirtual 349, 3) := by decide +kernel
theorem dX7_readLooks_45 : decode cX7_readLooks 45 = .ok (.istore_n 2, 1) := by decide +kernel
theorem dX7_readLooks_46 : decode cX7_readLooks 46 = .ok (.iload_n 2, 1) := by decide +kernel
theorem dX7_readLooks_47 : decode cX7_readLooks 47 = .ok (.ifCond .ne 7, 3) := by decide +kernel
theorem dX7_readLooks_50 : decode cX7_readLooks 50 = .ok (.iconst 0, 1) := by decide +kernel
theorem dX7_readLooks_51 : decode cX7_readLooks 51 = .ok (.goto 8, 3) := by decide +kernel
theorem dX7_readLooks_54 : decode cX7_readLooks 54 = .ok (.aload_n 0, 1) := by decide +kernel
theorem dX7_readLooks_55 : decode cX7_readLooks 55 = .ok (.iload_n 2, 1) := by decide +kernel
theorem dX7_readLooks_56 : decode cX7_readLooks 56 = .ok (.invokevirtual 90, 3) := by decide +kernel
theorem dX7_readLooks_59 : decode cX7_readLooks 59 = .ok (.ireturn, 1) := by decide +kernel
theorem dX7_greatestPart_0 : decode cX7_greatestPart 0 = .ok (.lload_n 3, 1) := by decide +kernel
theorem dX7_greatestPart_1 : decode cX7_greatestPart 1 = .ok (.invokestatic 238, 3) := by decide +kernel
theorem dX7_greatestPart_4 : decode cX7_greatestPart 4 = .ok (.istore 5, 2) := by decide +kernel
theorem dX7_greatestPart_6 : decode cX7_greatestPart 6 = .ok (.lload_n 3, 1) := by decide +kernel
theorem dX7_greatestPart_7 : decode cX7_greatestPart 7 = .ok (.iload_n 2, 1) := by decide +kernel
theorem dX7_greatestPart_8 : decode cX7_greatestPart 8 = .ok (.invokestatic 246, 3) := by decide +kernel
theorem dX7_greatestPart_11 : decode cX7_greatestPart 11 = .ok (.land, 1) := by decide +kernel
theorem dX7_greatestPart_12 : decode cX7_greatestPart 12 = .ok (.invokestatic 238, 3) := by decide +kernel
theorem dX7_greatestPart_15 : decode cX7_greatestPart 15 = .ok (.istore 6, 2) := by decide +kernel
theorem dX7_greatestPart_17 : decode cX7_greatestPart 17 = .ok (.aload_n 0, 1) := by decide +kernel
theorem dX7_greatestPart_18 : decode cX7_greatestPart 18 = .ok (.getfield 24, 3) := by decide +kernel
theorem dX7_greatestPart_21 : decode cX7_greatestPart 21 = .ok (.iload_n 1, 1) := by decide +kernel
theorem dX7_greatestPart_22 : decode cX7_greatestPart 22 = .ok (.aload_n 0, 1) := by decide +kernel
theorem dX7_greatestPart_23 : decode cX7_greatestPart 23 = .ok (.getfield 24, 3) := by decide +kernel
theorem dX7_greatestPart_26 : decode cX7_greatestPart 26 = .ok (.getfield 150, 3) := by decide +kernel
theorem dX7_greatestPart_29 : decode cX7_greatestPart 29 = .ok (.iload_n 1, 1) := by decide +kernel
theorem dX7_greatestPart_30 : decode cX7_greatestPart 30 = .ok (.invokevirtual 153, 3) := by decide +kernel
theorem dX7_greatestPart_33 : decode cX7_greatestPart 33 = .ok (.iload_n 2, 1) := by decide +kernel
theorem dX7_greatestPart_34 : decode cX7_greatestPart 34 = .ok (.iconst 0, 1) := by decide +kernel
theorem dX7_greatestPart_35 : decode cX7_greatestPart 35 = .ok (.invokevirtual 352, 3) := by decide +kernel
theorem dX7_greatestPart_38 : decode cX7_greatestPart 38 = .ok (.aload_n 0, 1) := by decide +kernel
theorem dX7_greatestPart_39 : decode cX7_greatestPart 39 = .ok (.getfield 24, 3) := by decide +kernel
theorem dX7_greatestPart_42 : decode cX7_greatestPart 42 = .ok (.iload_n 1, 1) := by decide +kernel
theorem dX7_greatestPart_43 : decode cX7_greatestPart 43 = .ok (.aload_n 0, 1) := by decide +kernel
theorem dX7_greatestPart_44 : decode cX7_greatestPart 44 = .ok (.getfield 24, 3) := by decide +kernel
theorem dX7_greatestPart_47 : decode cX7_greatestPart 47 = .ok (.getfield 150, 3) := by decide +kernel
theorem dX7_greatestPart_50 : decode cX7_greatestPart 50 = .ok (.iload_n 1, 1) := by decide +kernel
theorem dX7_greatestPart_51 : decode cX7_greatestPart 51 = .ok (.invokevirtual 153, 3) := by decide +kernel
theorem dX7_greatestPart_54 : decode cX7_greatestPart 54 = .ok (.iload_n 2, 1) := by decide +kernel
theorem dX7_greatestPart_55 : decode cX7_greatestPart 55 = .ok (.bipush 63, 2) := by decide +kernel
theorem dX7_greatestPart_57 : decode cX7_greatestPart 57 = .ok (.invokevirtual 352, 3) := by decide +kernel
theorem dX7_greatestPart_60 : decode cX7_greatestPart 60 = .ok (.if_icmp .ne 7, 3) := by decide +kernel
theorem dX7_greatestPart_63 : decode cX7_greatestPart 63 = .ok (.iconst 1, 1) := by decide +kernel
theorem dX7_greatestPart_64 : decode cX7_greatestPart 64 = .ok (.goto 4, 3) := by decide +kernel
theorem dX7_greatestPart_67 : decode cX7_greatestPart 67 = .ok (.iconst 0, 1) := by decide +kernel
theorem dX7_greatestPart_68 : decode cX7_greatestPart 68 = .ok (.istore 7, 2) := by decide +kernel
theorem dX7_greatestPart_70 : decode cX7_greatestPart 70 = .ok (.iload 7, 2) := by decide +kernel
theorem dX7_greatestPart_72 : decode cX7_greatestPart 72 = .ok (.ifCond .eq 8, 3) := by decide +kernel
theorem dX7_greatestPart_75 : decode cX7_greatestPart 75 = .ok (.iload 5, 2) := by decide +kernel
theorem dX7_greatestPart_77 : decode cX7_greatestPart 77 = .ok (.goto 13, 3) := by decide +kernel
theorem dX7_greatestPart_80 : decode cX7_greatestPart 80 = .ok (.iload 6, 2) := by decide +kernel
theorem dX7_greatestPart_82 : decode cX7_greatestPart 82 = .ok (.iload 5, 2) := by decide +kernel
theorem dX7_greatestPart_84 : decode cX7_greatestPart 84 = .ok (.iload 6, 2) := by decide +kernel
theorem dX7_greatestPart_86 : decode cX7_greatestPart 86 = .ok (.isub, 1) := by decide +kernel
theorem dX7_greatestPart_87 : decode cX7_greatestPart 87 = .ok (.invokestatic 356, 3) := by decide +kernel
theorem dX7_greatestPart_90 : decode cX7_greatestPart 90 = .ok (.ireturn, 1) := by decide +kernel
theorem dX7_leastOf_0 : decode cX7_leastOf 0 = .ok (.lload_n 0, 1) := by decide +kernel
theorem dX7_leastOf_1 : decode cX7_leastOf 1 = .ok (.lconst 0, 1) := by decide +kernel
theorem dX7_leastOf_2 : decode cX7_leastOf 2 = .ok (.lcmp, 1) := by decide +kernel
theorem dX7_leastOf_3 : decode cX7_leastOf 3 = .ok (.ifCond .ne 6, 3) := by decide +kernel
theorem dX7_leastOf_6 : decode cX7_leastOf 6 = .ok (.bipush (-9), 2) := by decide +kernel
theorem dX7_leastOf_8 : decode cX7_leastOf 8 = .ok (.ireturn, 1) := by decide +kernel
theorem dX7_leastOf_9 : decode cX7_leastOf 9 = .ok (.lload_n 0, 1) := by decide +kernel
theorem dX7_leastOf_10 : decode cX7_leastOf 10 = .ok (.lload_n 0, 1) := by decide +kernel
theorem dX7_leastOf_11 : decode cX7_leastOf 11 = .ok (.lneg, 1) := by decide +kernel
theorem dX7_leastOf_12 : decode cX7_leastOf 12 = .ok (.land, 1) := by decide +kernel
theorem dX7_leastOf_13 : decode cX7_leastOf 13 = .ok (.lconst 1, 1) := by decide +kernel
theorem dX7_leastOf_14 : decode cX7_leastOf 14 = .ok (.lsub, 1) := by decide +kernel
theorem dX7_leastOf_15 : decode cX7_leastOf 15 = .ok (.invokestatic 238, 3) := by decide +kernel
theorem dX7_leastOf_18 : decode cX7_leastOf 18 = .ok (.ireturn, 1) := by decide +kernel
theorem dX7_isFewer_0 : decode cX7_isFewer 0 = .ok (.iload_n 1, 1) := by decide +kernel
theorem dX7_isFewer_1 : decode cX7_isFewer 1 = .ok (.bipush (-9), 2) := by decide +kernel
theorem dX7_isFewer_3 : decode cX7_isFewer 3 = .ok (.if_icmp .eq 14, 3) := by decide +kernel
theorem dX7_isFewer_6 : decode cX7_isFewer 6 = .ok (.iload_n 0, 1) := by decide +kernel
theorem dX7_isFewer_7 : decode cX7_isFewer 7 = .ok (.invokestatic 197, 3) := by decide +kernel
theorem dX7_isFewer_10 : decode cX7_isFewer 10 = .ok (.iload_n 1, 1) := by decide +kernel
theorem dX7_isFewer_11 : decode cX7_isFewer 11 = .ok (.invokestatic 197, 3) := by decide +kernel
theorem dX7_isFewer_14 : decode cX7_isFewer 14 = .ok (.if_icmp .ge 7, 3) := by decide +kernel
theorem dX7_isFewer_17 : decode cX7_isFewer 17 = .ok (.iconst 1, 1) := by decide +kernel
theorem dX7_isFewer_18 : decode cX7_isFewer 18 = .ok (.goto 4, 3) := by decide +kernel
theorem dX7_isFewer_21 : decode cX7_isFewer 21 = .ok (.iconst 0, 1) := by decide +kernel
theorem dX7_isFewer_22 : decode cX7_isFewer 22 = .ok (.ireturn, 1) := by decide +kernel
theorem dX7_isThing_0 : decode cX7_isThing 0 = .ok (.iload_n 0, 1) := by decide +kernel
theorem dX7_isThing_1 : decode cX7_isThing 1 = .ok (.ifCond .lt 13, 3) := by decide +kernel
theorem dX7_isThing_4 : decode cX7_isThing 4 = .ok (.iload_n 0, 1) := by decide +kernel
theorem dX7_isThing_5 : decode cX7_isThing 5 = .ok (.bipush 6, 2) := by decide +kernel
theorem dX7_isThing_7 : decode cX7_isThing 7 = .ok (.if_icmp .ge 7, 3) := by decide +kernel
theorem dX7_isThing_10 : decode cX7_isThing 10 = .ok (.iconst 1, 1) := by decide +kernel
theorem dX7_isThing_11 : decode cX7_isThing 11 = .ok (.goto 4, 3) := by decide +kernel
theorem dX7_isThing_14 : decode cX7_isThing 14 = .ok (.iconst 0, 1) := by decide +kernel
theorem dX7_isThing_15 : decode cX7_isThing 15 = .ok (.ireturn, 1) := by decide +kernel
theorem dX7_isChance_0 : decode cX7_isChance 0 = .ok (.iload_n 0, 1) := by decide +kernel
theorem dX7_isChance_1 : decode cX7_isChance 1 = .ok (.ifCond .lt 13, 3) := by decide +kernel
theorem dX7_isChance_4 : decode cX7_isChance 4 = .ok (.iload_n 0, 1) := by decide +kernel
theorem dX7_isChance_5 : decode cX7_isChance 5 = .ok (.bipush 12, 2) := by decide +kernel
theorem dX7_isChance_7 : decode cX7_isChance 7 = .ok (.if_icmp .gt 7, 3) := by decide +kernel
theorem dX7_isChance_10 : decode cX7_isChance 10 = .ok (.iconst 1, 1) := by decide +kernel
theorem dX7_isChance_11 : decode cX7_isChance 11 = .ok (.goto 4, 3) := by decide +kernel
theorem dX7_isChance_14 : decode cX7_isChance 14 = .ok (.iconst 0, 1) := by decide +kernel
theorem dX7_isChance_15 : decode cX7_isChance 15 = .ok (.ireturn, 1) := by decide +kernel
theorem dX7_isIn_0 : decode cX7_isIn 0 = .ok (.iload_n 0, 1) := by decide +kernel
theorem dX7_isIn_1 : decode cX7_isIn 1 = .ok (.iload_n 1, 1) := by decide +kernel
theorem dX7_isIn_2 : decode cX7_isIn 2 = .ok (.ishr, 1) := by decide +kernel
theorem dX7_isIn_3 : decode cX7_isIn 3 = .ok (.iconst 1, 1) := by decide +kernel
theorem dX7_isIn_4 : decode cX7_isIn 4 = .ok (.iand, 1) := by decide +kernel
theorem dX7_isIn_5 : decode cX7_isIn 5 = .ok (.iconst 1, 1) := by decide +kernel
theorem dX7_isIn_6 : decode cX7_isIn 6 = .ok (.if_icmp .ne 7, 3) := by decide +kernel
theorem dX7_isIn_9 : decode cX7_isIn 9 = .ok (.iconst 1, 1) := by decide +kernel
theorem dX7_isIn_10 : decode cX7_isIn 10 = .ok (.goto 4, 3) := by decide +kernel
theorem dX7_isIn_13 : decode cX7_isIn 13 = .ok (.iconst 0, 1) := by decide +kernel
theorem dX7_isIn_14 : decode cX7_isIn 14 = .ok (.ireturn, 1) := by decide +kernel
theorem dX7_isOfKind_0 : decode cX7_isOfKind 0 = .ok (.iload_n 0, 1) := by decide +kernel
theorem dX7_isOfKind_1 : decode cX7_isOfKind 1 = .ok (.iload_n 1, 1) := by decide +kernel
theorem dX7_isOfKind_2 : decode cX7_isOfKind 2 = .ok (.if_icmp .eq 7, 3) := by decide +kernel
theorem dX7_isOfKind_5 : decode cX7_isOfKind 5 = .ok (.iload_n 1, 1) := by decide +kernel
theorem dX7_isOfKind_6 : decode cX7_isOfKind 6 = .ok (.ifCond .ne 5, 3) := by decide +kernel
theorem dX7_isOfKind_9 : decode cX7_isOfKind 9 = .ok (.iconst 1, 1) := by decide +kernel
theorem dX7_isOfKind_10 : decode cX7_isOfKind 10 = .ok (.ireturn, 1) := by decide +kernel
theorem dX7_isOfKind_11 : decode cX7_isOfKind 11 = .ok (.iload_n 1, 1) := by decide +kernel
theorem dX7_isOfKind_12 : decode cX7_isOfKind 12 = .ok (.iconst 1, 1) := by decide +kernel
theorem dX7_isOfKind_13 : decode cX7_isOfKind 13 = .ok (.if_icmp .ne 8, 3) := by decide +kernel
theorem dX7_isOfKind_16 : decode cX7_isOfKind 16 = .ok (.iload_n 0, 1) := by decide +kernel
theorem dX7_isOfKind_17 : decode cX7_isOfKind 17 = .ok (.iconst 4, 1) := by decide +kernel
theorem dX7_isOfKind_18 : decode cX7_isOfKind 18 = .ok (.if_icmp .eq 13, 3) := by decide +kernel
theorem dX7_isOfKind_21 : decode cX7_isOfKind 21 = .ok (.iload_n 1, 1) := by decide +kernel
theorem dX7_isOfKind_22 : decode cX7_isOfKind 22 = .ok (.iconst 3, 1) := by decide +kernel
theorem dX7_isOfKind_23 : decode cX7_isOfKind 23 = .ok (.if_icmp .ne 12, 3) := by decide +kernel
theorem dX7_isOfKind_26 : decode cX7_isOfKind 26 = .ok (.iload_n 0, 1) := by decide +kernel
theorem dX7_isOfKind_27 : decode cX7_isOfKind 27 = .ok (.iconst 5, 1) := by decide +kernel
theorem dX7_isOfKind_28 : decode cX7_isOfKind 28 = .ok (.if_icmp .ne 7, 3) := by decide +kernel
theorem dX7_isOfKind_31 : decode cX7_isOfKind 31 = .ok (.iconst 1, 1) := by decide +kernel
theorem dX7_isOfKind_32 : decode cX7_isOfKind 32 = .ok (.goto 4, 3) := by decide +kernel
theorem dX7_isOfKind_35 : decode cX7_isOfKind 35 = .ok (.iconst 0, 1) := by decide +kernel
theorem dX7_isOfKind_36 : decode cX7_isOfKind 36 = .ok (.ireturn, 1) := by decide +kernel
theorem dX7_weightOf_0 : decode cX7_weightOf 0 = .ok (.lconst 1, 1) := by decide +kernel
theorem dX7_weightOf_1 : decode cX7_weightOf 1 = .ok (.lstore_n 3, 1) := by decide +kernel
theorem dX7_weightOf_2 : decode cX7_weightOf 2 = .ok (.iconst 0, 1) := by decide +kernel
theorem dX7_weightOf_3 : decode cX7_weightOf 3 = .ok (.istore 5, 2) := by decide +kernel
theorem dX7_weightOf_5 : decode cX7_weightOf 5 = .ok (.iload 5, 2) := by decide +kernel
theorem dX7_weightOf_7 : decode cX7_weightOf 7 = .ok (.aload_n 0, 1) := by decide +kernel
theorem dX7_weightOf_8 : decode cX7_weightOf 8 = .ok (.getfield 24, 3) := by decide +kernel
theorem dX7_weightOf_11 : decode cX7_weightOf 11 = .ok (.getfield 141, 3) := by decide +kernel
theorem dX7_weightOf_14 : decode cX7_weightOf 14 = .ok (.if_icmp .ge 31, 3) := by decide +kernel
theorem dX7_weightOf_17 : decode cX7_weightOf 17 = .ok (.lload_n 3, 1) := by decide +kernel
theorem dX7_weightOf_18 : decode cX7_weightOf 18 = .ok (.iload_n 1, 1) := by decide +kernel
theorem dX7_weightOf_19 : decode cX7_weightOf 19 = .ok (.iload 5, 2) := by decide +kernel
theorem dX7_weightOf_21 : decode cX7_weightOf 21 = .ok (.invokestatic 202, 3) := by decide +kernel
theorem dX7_weightOf_24 : decode cX7_weightOf 24 = .ok (.ifCond .eq 11, 3) := by decide +kernel
theorem dX7_weightOf_27 : decode cX7_weightOf 27 = .ok (.bipush 12, 2) := by decide +kernel
theorem dX7_weightOf_29 : decode cX7_weightOf 29 = .ok (.iload_n 2, 1) := by decide +kernel
theorem dX7_weightOf_30 : decode cX7_weightOf 30 = .ok (.isub, 1) := by decide +kernel
theorem dX7_weightOf_31 : decode cX7_weightOf 31 = .ok (.i2l, 1) := by decide +kernel
theorem dX7_weightOf_32 : decode cX7_weightOf 32 = .ok (.goto 5, 3) := by decide +kernel
theorem dX7_weightOf_35 : decode cX7_weightOf 35 = .ok (.iload_n 2, 1) := by decide +kernel
theorem dX7_weightOf_36 : decode cX7_weightOf 36 = .ok (.i2l, 1) := by decide +kernel
theorem dX7_weightOf_37 : decode cX7_weightOf 37 = .ok (.lmul, 1) := by decide +kernel
theorem dX7_weightOf_38 : decode cX7_weightOf 38 = .ok (.lstore_n 3, 1) := by decide +kernel
theorem dX7_weightOf_39 : decode cX7_weightOf 39 = .ok (.iinc 5 1, 3) := by decide +kernel
theorem dX7_weightOf_42 : decode cX7_weightOf 42 = .ok (.goto (-37), 3) := by decide +kernel
theorem dX7_weightOf_45 : decode cX7_weightOf 45 = .ok (.lload_n 3, 1) := by decide +kernel
theorem dX7_weightOf_46 : decode cX7_weightOf 46 = .ok (.lreturn, 1) := by decide +kernel
theorem dX7_allWeight_0 : decode cX7_allWeight 0 = .ok (.lconst 1, 1) := by decide +kernel
theorem dX7_allWeight_1 : decode cX7_allWeight 1 = .ok (.lstore_n 1, 1) := by decide +kernel
theorem dX7_allWeight_2 : decode cX7_allWeight 2 = .ok (.iconst 0, 1) := by decide +kernel
theorem dX7_allWeight_3 : decode cX7_allWeight 3 = .ok (.istore_n 3, 1) := by decide +kernel
theorem dX7_allWeight_4 : decode cX7_allWeight 4 = .ok (.iload_n 3, 1) := by decide +kernel
theorem dX7_allWeight_5 : decode cX7_allWeight 5 = .ok (.aload_n 0, 1) := by decide +kernel
theorem dX7_allWeight_6 : decode cX7_allWeight 6 = .ok (.getfield 24, 3) := by decide +kernel
theorem dX7_allWeight_9 : decode cX7_allWeight 9 = .ok (.getfield 141, 3) := by decide +kernel
theorem dX7_allWeight_12 : decode cX7_allWeight 12 = .ok (.if_icmp .ge 15, 3) := by decide +kernel
theorem dX7_allWeight_15 : decode cX7_allWeight 15 = .ok (.lload_n 1, 1) := by decide +kernel
theorem dX7_allWeight_16 : decode cX7_allWeight 16 = .ok (.ldc2_w 361, 3) := by decide +kernel
theorem dX7_allWeight_19 : decode cX7_allWeight 19 = .ok (.lmul, 1) := by decide +kernel
theorem dX7_allWeight_20 : decode cX7_allWeight 20 = .ok (.lstore_n 1, 1) := by decide +kernel
theorem dX7_allWeight_21 : decode cX7_allWeight 21 = .ok (.iinc 3 1, 3) := by decide +kernel
theorem dX7_allWeight_24 : decode cX7_allWeight 24 = .ok (.goto (-20), 3) := by decide +kernel
theorem dX7_allWeight_27 : decode cX7_allWeight 27 = .ok (.lload_n 1, 1) := by decide +kernel
theorem dX7_allWeight_28 : decode cX7_allWeight 28 = .ok (.lreturn, 1) := by decide +kernel
theorem dX7_tellPart_0 : decode cX7_tellPart 0 = .ok (.lload_n 1, 1) := by decide +kernel
theorem dX7_tellPart_1 : decode cX7_tellPart 1 = .ok (.lload_n 3, 1) := by decide +kernel
theorem dX7_tellPart_2 : decode cX7_tellPart 2 = .ok (.invokestatic 363, 3) := by decide +kernel
theorem dX7_tellPart_5 : decode cX7_tellPart 5 = .ok (.lstore 5, 2) := by decide +kernel
theorem dX7_tellPart_7 : decode cX7_tellPart 7 = .ok (.lload 5, 2) := by decide +kernel
theorem dX7_tellPart_9 : decode cX7_tellPart 9 = .ok (.lconst 0, 1) := by decide +kernel
theorem dX7_tellPart_10 : decode cX7_tellPart 10 = .ok (.lcmp, 1) := by decide +kernel
theorem dX7_tellPart_11 : decode cX7_tellPart 11 = .ok (.ifCond .gt 4, 3) := by decide +kernel
theorem dX7_tellPart_14 : decode cX7_tellPart 14 = .ok (.return_, 1) := by decide +kernel
theorem dX7_tellPart_15 : decode cX7_tellPart 15 = .ok (.aload_n 0, 1) := by decide +kernel
theorem dX7_tellPart_16 : decode cX7_tellPart 16 = .ok (.lload_n 1, 1) := by decide +kernel
theorem dX7_tellPart_17 : decode cX7_tellPart 17 = .ok (.lload 5, 2) := by decide +kernel
theorem dX7_tellPart_19 : decode cX7_tellPart 19 = .ok (.ldiv, 1) := by decide +kernel
theorem dX7_tellPart_20 : decode cX7_tellPart 20 = .ok (.putfield 79, 3) := by decide +kernel
theorem dX7_tellPart_23 : decode cX7_tellPart 23 = .ok (.aload_n 0, 1) := by decide +kernel
theorem dX7_tellPart_24 : decode cX7_tellPart 24 = .ok (.lload_n 3, 1) := by decide +kernel
theorem dX7_tellPart_25 : decode cX7_tellPart 25 = .ok (.lload 5, 2) := by decide +kernel
theorem dX7_tellPart_27 : decode cX7_tellPart 27 = .ok (.ldiv, 1) := by decide +kernel
theorem dX7_tellPart_28 : decode cX7_tellPart 28 = .ok (.putfield 83, 3) := by decide +kernel
theorem dX7_tellPart_31 : decode cX7_tellPart 31 = .ok (.return_, 1) := by decide +kernel
theorem dX7_commonDivisor_0 : decode cX7_commonDivisor 0 = .ok (.iconst 0, 1) := by decide +kernel
theorem dX7_commonDivisor_1 : decode cX7_commonDivisor 1 = .ok (.istore 4, 2) := by decide +kernel
theorem dX7_commonDivisor_3 : decode cX7_commonDivisor 3 = .ok (.iload 4, 2) := by decide +kernel
theorem dX7_commonDivisor_5 : decode cX7_commonDivisor 5 = .ok (.bipush 100, 2) := by decide +kernel
theorem dX7_commonDivisor_7 : decode cX7_commonDivisor 7 = .ok (.if_icmp .ge 25, 3) := by decide +kernel
theorem dX7_commonDivisor_10 : decode cX7_commonDivisor 10 = .ok (.lload_n 2, 1) := by decide +kernel
theorem dX7_commonDivisor_11 : decode cX7_commonDivisor 11 = .ok (.lconst 0, 1) := by decide +kernel
theorem dX7_commonDivisor_12 : decode cX7_commonDivisor 12 = .ok (.lcmp, 1) := by decide +kernel
theorem dX7_commonDivisor_13 : decode cX7_commonDivisor 13 = .ok (.ifCond .eq 19, 3) := by decide +kernel
theorem dX7_commonDivisor_16 : decode cX7_commonDivisor 16 = .ok (.lload_n 0, 1) := by decide +kernel
theorem dX7_commonDivisor_17 : decode cX7_commonDivisor 17 = .ok (.lload_n 2, 1) := by decide +kernel
theorem dX7_commonDivisor_18 : decode cX7_commonDivisor 18 = .ok (.lrem, 1) := by decide +kernel
theorem dX7_commonDivisor_19 : decode cX7_commonDivisor 19 = .ok (.lstore 5, 2) := by decide +kernel
theorem dX7_commonDivisor_21 : decode cX7_commonDivisor 21 = .ok (.lload_n 2, 1) := by decide +kernel
theorem dX7_commonDivisor_22 : decode cX7_commonDivisor 22 = .ok (.lstore_n 0, 1) := by decide +kernel
theorem dX7_commonDivisor_23 : decode cX7_commonDivisor 23 = .ok (.lload 5, 2) := by decide +kernel
theorem dX7_commonDivisor_25 : decode cX7_commonDivisor 25 = .ok (.lstore_n 2, 1) := by decide +kernel
theorem dX7_commonDivisor_26 : decode cX7_commonDivisor 26 = .ok (.iinc 4 1, 3) := by decide +kernel
theorem dX7_commonDivisor_29 : decode cX7_commonDivisor 29 = .ok (.goto (-26), 3) := by decide +kernel
theorem dX7_commonDivisor_32 : decode cX7_commonDivisor 32 = .ok (.lload_n 0, 1) := by decide +kernel
theorem dX7_commonDivisor_33 : decode cX7_commonDivisor 33 = .ok (.lreturn, 1) := by decide +kernel
end
section
/-! decode rows -/
end
section
/-! decode rows -/
theorem dL_cell_0 : decode cL_cell 0 = .ok (.iload_n 1, 1) := by decide +kernel
theorem dL_cell_1 : decode cL_cell 1 = .ok (.aload_n 0, 1) := by decide +kernel
theorem dL_cell_2 : decode cL_cell 2 = .ok (.arraylength, 1) := by decide +kernel
theorem dL_cell_3 : decode cL_cell 3 = .ok (.if_icmp .ge 9, 3) := by decide +kernel
theorem dL_cell_6 : decode cL_cell 6 = .ok (.aload_n 0, 1) := by decide +kernel
theorem dL_cell_7 : decode cL_cell 7 = .ok (.iload_n 1, 1) := by decide +kernel
theorem dL_cell_8 : decode cL_cell 8 = .ok (.iaload, 1) := by decide +kernel
theorem dL_cell_9 : decode cL_cell 9 = .ok (.goto 11, 3) := by decide +kernel
theorem dL_cell_12 : decode cL_cell 12 = .ok (.ldc 7, 2) := by decide +kernel
theorem dL_cell_14 : decode cL_cell 14 = .ok (.iload_n 1, 1) := by decide +kernel
theorem dL_cell_15 : decode cL_cell 15 = .ok (.sipush 577, 3) := by decide +kernel
theorem dL_cell_18 : decode cL_cell 18 = .ok (.iadd, 1) := by decide +kernel
theorem dL_cell_19 : decode cL_cell 19 = .ok (.imul, 1) := by decide +kernel
theorem dL_cell_20 : decode cL_cell 20 = .ok (.ireturn, 1) := by decide +kernel
theorem dL_up_0 : decode cL_up 0 = .ok (.iload_n 0, 1) := by decide +kernel
theorem dL_up_1 : decode cL_up 1 = .ok (.ldc 8, 2) := by decide +kernel
theorem dL_up_3 : decode cL_up 3 = .ok (.iand, 1) := by decide +kernel
theorem dL_up_4 : decode cL_up 4 = .ok (.iload_n 1, 1) := by decide +kernel
theorem dL_up_5 : decode cL_up 5 = .ok (.irem, 1) := by decide +kernel
theorem dL_up_6 : decode cL_up 6 = .ok (.ireturn, 1) := by decide +kernel
theorem dL_lay_0 : decode cL_lay 0 = .ok (.iconst 0, 1) := by decide +kernel
theorem dL_lay_1 : decode cL_lay 1 = .ok (.istore_n 2, 1) := by decide +kernel
theorem dL_lay_2 : decode cL_lay 2 = .ok (.iload_n 2, 1) := by decide +kernel
theorem dL_lay_3 : decode cL_lay 3 = .ok (.bipush 28, 2) := by decide +kernel
theorem dL_lay_5 : decode cL_lay 5 = .ok (.if_icmp .ge 13, 3) := by decide +kernel
theorem dL_lay_8 : decode cL_lay 8 = .ok (.aload_n 1, 1) := by decide +kernel
theorem dL_lay_9 : decode cL_lay 9 = .ok (.iload_n 2, 1) := by decide +kernel
theorem dL_lay_10 : decode cL_lay 10 = .ok (.iconst 0, 1) := by decide +kernel
theorem dL_lay_11 : decode cL_lay 11 = .ok (.iastore, 1) := by decide +kernel
theorem dL_lay_12 : decode cL_lay 12 = .ok (.iinc 2 1, 3) := by decide +kernel
theorem dL_lay_15 : decode cL_lay 15 = .ok (.goto (-13), 3) := by decide +kernel
theorem dL_lay_18 : decode cL_lay 18 = .ok (.aload_n 1, 1) := by decide +kernel
theorem dL_lay_19 : decode cL_lay 19 = .ok (.iconst 0, 1) := by decide +kernel
theorem dL_lay_20 : decode cL_lay 20 = .ok (.iconst 1, 1) := by decide +kernel
theorem dL_lay_21 : decode cL_lay 21 = .ok (.aload_n 0, 1) := by decide +kernel
theorem dL_lay_22 : decode cL_lay 22 = .ok (.iconst 0, 1) := by decide +kernel
theorem dL_lay_23 : decode cL_lay 23 = .ok (.invokestatic 9, 3) := by decide +kernel
theorem dL_lay_26 : decode cL_lay 26 = .ok (.bipush 6, 2) := by decide +kernel
theorem dL_lay_28 : decode cL_lay 28 = .ok (.invokestatic 15, 3) := by decide +kernel
theorem dL_lay_31 : decode cL_lay 31 = .ok (.iadd, 1) := by decide +kernel
theorem dL_lay_32 : decode cL_lay 32 = .ok (.iastore, 1) := by decide +kernel
theorem dL_lay_33 : decode cL_lay 33 = .ok (.aload_n 1, 1) := by decide +kernel
theorem dL_lay_34 : decode cL_lay 34 = .ok (.iconst 1, 1) := by decide +kernel
theorem dL_lay_35 : decode cL_lay 35 = .ok (.aload_n 0, 1) := by decide +kernel
theorem dL_lay_36 : decode cL_lay 36 = .ok (.iconst 0, 1) := by decide +kernel
theorem dL_lay_37 : decode cL_lay 37 = .ok (.invokestatic 9, 3) := by decide +kernel
theorem dL_lay_40 : decode cL_lay 40 = .ok (.iconst 4, 1) := by decide +kernel
theorem dL_lay_41 : decode cL_lay 41 = .ok (.ishr, 1) := by decide +kernel
theorem dL_lay_42 : decode cL_lay 42 = .ok (.bipush 64, 2) := by decide +kernel
theorem dL_lay_44 : decode cL_lay 44 = .ok (.invokestatic 15, 3) := by decide +kernel
theorem dL_lay_47 : decode cL_lay 47 = .ok (.iastore, 1) := by decide +kernel
theorem dL_lay_48 : decode cL_lay 48 = .ok (.iconst 0, 1) := by decide +kernel
theorem dL_lay_49 : decode cL_lay 49 = .ok (.istore_n 2, 1) := by decide +kernel
theorem dL_lay_50 : decode cL_lay 50 = .ok (.iload_n 2, 1) := by decide +kernel
theorem dL_lay_51 : decode cL_lay 51 = .ok (.aload_n 1, 1) := by decide +kernel
theorem dL_lay_52 : decode cL_lay 52 = .ok (.iconst 0, 1) := by decide +kernel
theorem dL_lay_53 : decode cL_lay 53 = .ok (.iaload, 1) := by decide +kernel
theorem dL_lay_54 : decode cL_lay 54 = .ok (.if_icmp .ge 130, 3) := by decide +kernel
theorem dL_lay_57 : decode cL_lay 57 = .ok (.aload_n 0, 1) := by decide +kernel
theorem dL_lay_58 : decode cL_lay 58 = .ok (.iconst 1, 1) := by decide +kernel
theorem dL_lay_59 : decode cL_lay 59 = .ok (.iload_n 2, 1) := by decide +kernel
theorem dL_lay_60 : decode cL_lay 60 = .ok (.iadd, 1) := by decide +kernel
theorem dL_lay_61 : decode cL_lay 61 = .ok (.invokestatic 9, 3) := by decide +kernel
theorem dL_lay_64 : decode cL_lay 64 = .ok (.istore_n 3, 1) := by decide +kernel
theorem dL_lay_65 : decode cL_lay 65 = .ok (.aload_n 1, 1) := by decide +kernel
theorem dL_lay_66 : decode cL_lay 66 = .ok (.iconst 2, 1) := by decide +kernel
theorem dL_lay_67 : decode cL_lay 67 = .ok (.iload_n 2, 1) := by decide +kernel
theorem dL_lay_68 : decode cL_lay 68 = .ok (.iadd, 1) := by decide +kernel
theorem dL_lay_69 : decode cL_lay 69 = .ok (.iload_n 3, 1) := by decide +kernel
theorem dL_lay_70 : decode cL_lay 70 = .ok (.bipush 6, 2) := by decide +kernel
theorem dL_lay_72 : decode cL_lay 72 = .ok (.invokestatic 15, 3) := by decide +kernel
theorem dL_lay_75 : decode cL_lay 75 = .ok (.iastore, 1) := by decide +kernel
theorem dL_lay_76 : decode cL_lay 76 = .ok (.aload_n 1, 1) := by decide +kernel
theorem dL_lay_77 : decode cL_lay 77 = .ok (.bipush 8, 2) := by decide +kernel
theorem dL_lay_79 : decode cL_lay 79 = .ok (.iload_n 2, 1) := by decide +kernel
theorem dL_lay_80 : decode cL_lay 80 = .ok (.iadd, 1) := by decide +kernel
theorem dL_lay_81 : decode cL_lay 81 = .ok (.iload_n 3, 1) := by decide +kernel
theorem dL_lay_82 : decode cL_lay 82 = .ok (.iconst 4, 1) := by decide +kernel
theorem dL_lay_83 : decode cL_lay 83 = .ok (.ishr, 1) := by decide +kernel
theorem dL_lay_84 : decode cL_lay 84 = .ok (.iconst 4, 1) := by decide +kernel
theorem dL_lay_85 : decode cL_lay 85 = .ok (.invokestatic 15, 3) := by decide +kernel
theorem dL_lay_88 : decode cL_lay 88 = .ok (.ifCond .ne 14, 3) := by decide +kernel
theorem dL_lay_91 : decode cL_lay 91 = .ok (.iload_n 3, 1) := by decide +kernel
theorem dL_lay_92 : decode cL_lay 92 = .ok (.bipush 6, 2) := by decide +kernel
theorem dL_lay_94 : decode cL_lay 94 = .ok (.ishr, 1) := by decide +kernel
theorem dL_lay_95 : decode cL_lay 95 = .ok (.iconst 3, 1) := by decide +kernel
theorem dL_lay_96 : decode cL_lay 96 = .ok (.invokestatic 15, 3) := by decide +kernel
theorem dL_lay_99 : decode cL_lay 99 = .ok (.goto 13, 3) := by decide +kernel
theorem dL_lay_102 : decode cL_lay 102 = .ok (.iconst 1, 1) := by decide +kernel
theorem dL_lay_103 : decode cL_lay 103 = .ok (.iload_n 3, 1) := by decide +kernel
theorem dL_lay_104 : decode cL_lay 104 = .ok (.bipush 6, 2) := by decide +kernel
theorem dL_lay_106 : decode cL_lay 106 = .ok (.ishr, 1) := by decide +kernel
theorem dL_lay_107 : decode cL_lay 107 = .ok (.iconst 2, 1) := by decide +kernel
theorem dL_lay_108 : decode cL_lay 108 = .ok (.invokestatic 15, 3) := by decide +kernel
theorem dL_lay_111 : decode cL_lay 111 = .ok (.iadd, 1) := by decide +kernel
theorem dL_lay_112 : decode cL_lay 112 = .ok (.iastore, 1) := by decide +kernel
theorem dL_lay_113 : decode cL_lay 113 = .ok (.aload_n 1, 1) := by decide +kernel
theorem dL_lay_114 : decode cL_lay 114 = .ok (.bipush 14, 2) := by decide +kernel
theorem dL_lay_116 : decode cL_lay 116 = .ok (.iload_n 2, 1) := by decide +kernel
theorem dL_lay_117 : decode cL_lay 117 = .ok (.iadd, 1) := by decide +kernel
theorem dL_lay_118 : decode cL_lay 118 = .ok (.iload_n 3, 1) := by decide +kernel
theorem dL_lay_119 : decode cL_lay 119 = .ok (.bipush 8, 2) := by decide +kernel
theorem dL_lay_121 : decode cL_lay 121 = .ok (.ishr, 1) := by decide +kernel
theorem dL_lay_122 : decode cL_lay 122 = .ok (.iload_n 3, 1) := by decide +kernel
theorem dL_lay_123 : decode cL_lay 123 = .ok (.bipush 20, 2) := by decide +kernel
theorem dL_lay_125 : decode cL_lay 125 = .ok (.ishr, 1) := by decide +kernel
theorem dL_lay_126 : decode cL_lay 126 = .ok (.iconst 3, 1) := by decide +kernel
theorem dL_lay_127 : decode cL_lay 127 = .ok (.invokestatic 15, 3) := by decide +kernel
theorem dL_lay_130 : decode cL_lay 130 = .ok (.ifCond .ne 8, 3) := by decide +kernel
theorem dL_lay_133 : decode cL_lay 133 = .ok (.bipush 10, 2) := by decide +kernel
theorem dL_lay_135 : decode cL_lay 135 = .ok (.goto 5, 3) := by decide +kernel
theorem dL_lay_138 : decode cL_lay 138 = .ok (.bipush 6, 2) := by decide +kernel
theorem dL_lay_140 : decode cL_lay 140 = .ok (.invokestatic 15, 3) := by decide +kernel
theorem dL_lay_143 : decode cL_lay 143 = .ok (.iastore, 1) := by decide +kernel
theorem dL_lay_144 : decode cL_lay 144 = .ok (.aload_n 1, 1) := by decide +kernel
theorem dL_lay_145 : decode cL_lay 145 = .ok (.bipush 20, 2) := by decide +kernel
theorem dL_lay_147 : decode cL_lay 147 = .ok (.iload_n 2, 1) := by decide +kernel
theorem dL_lay_148 : decode cL_lay 148 = .ok (.iadd, 1) := by decide +kernel
theorem dL_lay_149 : decode cL_lay 149 = .ok (.iload_n 3, 1) := by decide +kernel
theorem dL_lay_150 : decode cL_lay 150 = .ok (.bipush 12, 2) := by decide +kernel
theorem dL_lay_152 : decode cL_lay 152 = .ok (.ishr, 1) := by decide +kernel
theorem dL_lay_153 : decode cL_lay 153 = .ok (.bipush 64, 2) := by decide +kernel
theorem dL_lay_155 : decode cL_lay 155 = .ok (.invokestatic 15, 3) := by decide +kernel
theorem dL_lay_158 : decode cL_lay 158 = .ok (.iload_n 3, 1) := by decide +kernel
theorem dL_lay_159 : decode cL_lay 159 = .ok (.bipush 24, 2) := by decide +kernel
theorem dL_lay_161 : decode cL_lay 161 = .ok (.ishr, 1) := by decide +kernel
theorem dL_lay_162 : decode cL_lay 162 = .ok (.iconst 2, 1) := by decide +kernel
theorem dL_lay_163 : decode cL_lay 163 = .ok (.invokestatic 15, 3) := by decide +kernel
theorem dL_lay_166 : decode cL_lay 166 = .ok (.iload_n 3, 1) := by decide +kernel
theorem dL_lay_167 : decode cL_lay 167 = .ok (.bipush 18, 2) := by decide +kernel
theorem dL_lay_169 : decode cL_lay 169 = .ok (.ishr, 1) := by decide +kernel
theorem dL_lay_170 : decode cL_lay 170 = .ok (.bipush 64, 2) := by decide +kernel
theorem dL_lay_172 : decode cL_lay 172 = .ok (.invokestatic 15, 3) := by decide +kernel
theorem dL_lay_175 : decode cL_lay 175 = .ok (.imul, 1) := by decide +kernel
theorem dL_lay_176 : decode cL_lay 176 = .ok (.ior, 1) := by decide +kernel
theorem dL_lay_177 : decode cL_lay 177 = .ok (.iastore, 1) := by decide +kernel
theorem dL_lay_178 : decode cL_lay 178 = .ok (.iinc 2 1, 3) := by decide +kernel
theorem dL_lay_181 : decode cL_lay 181 = .ok (.goto (-131), 3) := by decide +kernel
theorem dL_lay_184 : decode cL_lay 184 = .ok (.return_, 1) := by decide +kernel
theorem dL_letter_0 : decode cL_letter 0 = .ok (.iload_n 0, 1) := by decide +kernel
theorem dL_letter_1 : decode cL_letter 1 = .ok (.ifCond .ne 8, 3) := by decide +kernel
theorem dL_letter_4 : decode cL_letter 4 = .ok (.bipush 98, 2) := by decide +kernel
theorem dL_letter_6 : decode cL_letter 6 = .ok (.goto 45, 3) := by decide +kernel
theorem dL_letter_9 : decode cL_letter 9 = .ok (.iload_n 0, 1) := by decide +kernel
theorem dL_letter_10 : decode cL_letter 10 = .ok (.iconst 1, 1) := by decide +kernel
theorem dL_letter_11 : decode cL_letter 11 = .ok (.if_icmp .ne 8, 3) := by decide +kernel
theorem dL_letter_14 : decode cL_letter 14 = .ok (.bipush 108, 2) := by decide +kernel
theorem dL_letter_16 : decode cL_letter 16 = .ok (.goto 35, 3) := by decide +kernel
theorem dL_letter_19 : decode cL_letter 19 = .ok (.iload_n 0, 1) := by decide +kernel
theorem dL_letter_20 : decode cL_letter 20 = .ok (.iconst 2, 1) := by decide +kernel
theorem dL_letter_21 : decode cL_letter 21 = .ok (.if_icmp .ne 8, 3) := by decide +kernel
theorem dL_letter_24 : decode cL_letter 24 = .ok (.bipush 112, 2) := by decide +kernel
theorem dL_letter_26 : decode cL_letter 26 = .ok (.goto 25, 3) := by decide +kernel
theorem dL_letter_29 : decode cL_letter 29 = .ok (.iload_n 0, 1) := by decide +kernel
theorem dL_letter_30 : decode cL_letter 30 = .ok (.iconst 3, 1) := by decide +kernel
theorem dL_letter_31 : decode cL_letter 31 = .ok (.if_icmp .ne 8, 3) := by decide +kernel
theorem dL_letter_34 : decode cL_letter 34 = .ok (.bipush 109, 2) := by decide +kernel
theorem dL_letter_36 : decode cL_letter 36 = .ok (.goto 15, 3) := by decide +kernel
theorem dL_letter_39 : decode cL_letter 39 = .ok (.iload_n 0, 1) := by decide +kernel
theorem dL_letter_40 : decode cL_letter 40 = .ok (.iconst 4, 1) := by decide +kernel
theorem dL_letter_41 : decode cL_letter 41 = .ok (.if_icmp .ne 8, 3) := by decide +kernel
theorem dL_letter_44 : decode cL_letter 44 = .ok (.bipush 103, 2) := by decide +kernel
theorem dL_letter_46 : decode cL_letter 46 = .ok (.goto 5, 3) := by decide +kernel
theorem dL_letter_49 : decode cL_letter 49 = .ok (.bipush 114, 2) := by decide +kernel
theorem dL_letter_51 : decode cL_letter 51 = .ok (.ireturn, 1) := by decide +kernel
theorem dL_sign_0 : decode cL_sign 0 = .ok (.aload_n 0, 1) := by decide +kernel
theorem dL_sign_1 : decode cL_sign 1 = .ok (.iconst 0, 1) := by decide +kernel
theorem dL_sign_2 : decode cL_sign 2 = .ok (.iload_n 1, 1) := by decide +kernel
theorem dL_sign_3 : decode cL_sign 3 = .ok (.iload_n 2, 1) := by decide +kernel
theorem dL_sign_4 : decode cL_sign 4 = .ok (.invokevirtual 19, 3) := by decide +kernel
theorem dL_sign_7 : decode cL_sign 7 = .ok (.sipush 1032, 3) := by decide +kernel
theorem dL_sign_10 : decode cL_sign 10 = .ok (.if_icmp .ne 7, 3) := by decide +kernel
theorem dL_sign_13 : decode cL_sign 13 = .ok (.iconst 1, 1) := by decide +kernel
theorem dL_sign_14 : decode cL_sign 14 = .ok (.goto 4, 3) := by decide +kernel
theorem dL_sign_17 : decode cL_sign 17 = .ok (.iconst 0, 1) := by decide +kernel
theorem dL_sign_18 : decode cL_sign 18 = .ok (.ireturn, 1) := by decide +kernel
theorem dL_made_0 : decode cL_made 0 = .ok (.iconst 3, 1) := by decide +kernel
theorem dL_made_1 : decode cL_made 1 = .ok (.bipush 6, 2) := by decide +kernel
theorem dL_made_3 : decode cL_made 3 = .ok (.aload_n 1, 1) := by decide +kernel
theorem dL_made_4 : decode cL_made 4 = .ok (.iconst 0, 1) := by decide +kernel
theorem dL_made_5 : decode cL_made 5 = .ok (.iaload, 1) := by decide +kernel
theorem dL_made_6 : decode cL_made 6 = .ok (.imul, 1) := by decide +kernel
theorem dL_made_7 : decode cL_made 7 = .ok (.iadd, 1) := by decide +kernel
theorem dL_made_8 : decode cL_made 8 = .ok (.istore_n 2, 1) := by decide +kernel
theorem dL_made_9 : decode cL_made 9 = .ok (.aload_n 0, 1) := by decide +kernel
theorem dL_made_10 : decode cL_made 10 = .ok (.iconst 0, 1) := by decide +kernel
theorem dL_made_11 : decode cL_made 11 = .ok (.iload_n 2, 1) := by decide +kernel
theorem dL_made_12 : decode cL_made 12 = .ok (.invokevirtual 25, 3) := by decide +kernel
theorem dL_made_15 : decode cL_made 15 = .ok (.iload_n 2, 1) := by decide +kernel
theorem dL_made_16 : decode cL_made 16 = .ok (.if_icmp .ne 51, 3) := by decide +kernel
theorem dL_made_19 : decode cL_made 19 = .ok (.aload_n 0, 1) := by decide +kernel
theorem dL_made_20 : decode cL_made 20 = .ok (.iconst 0, 1) := by decide +kernel
theorem dL_made_21 : decode cL_made 21 = .ok (.bipush 107, 2) := by decide +kernel
theorem dL_made_23 : decode cL_made 23 = .ok (.invokestatic 28, 3) := by decide +kernel
theorem dL_made_26 : decode cL_made 26 = .ok (.ifCond .eq 41, 3) := by decide +kernel
theorem dL_made_29 : decode cL_made 29 = .ok (.aload_n 0, 1) := by decide +kernel
theorem dL_made_30 : decode cL_made 30 = .ok (.iconst 1, 1) := by decide +kernel
theorem dL_made_31 : decode cL_made 31 = .ok (.bipush 48, 2) := by decide +kernel
theorem dL_made_33 : decode cL_made 33 = .ok (.aload_n 1, 1) := by decide +kernel
theorem dL_made_34 : decode cL_made 34 = .ok (.iconst 1, 1) := by decide +kernel
theorem dL_made_35 : decode cL_made 35 = .ok (.iaload, 1) := by decide +kernel
theorem dL_made_36 : decode cL_made 36 = .ok (.bipush 10, 2) := by decide +kernel
theorem dL_made_38 : decode cL_made 38 = .ok (.idiv, 1) := by decide +kernel
theorem dL_made_39 : decode cL_made 39 = .ok (.iadd, 1) := by decide +kernel
theorem dL_made_40 : decode cL_made 40 = .ok (.invokestatic 28, 3) := by decide +kernel
theorem dL_made_43 : decode cL_made 43 = .ok (.ifCond .eq 24, 3) := by decide +kernel
theorem dL_made_46 : decode cL_made 46 = .ok (.aload_n 0, 1) := by decide +kernel
theorem dL_made_47 : decode cL_made 47 = .ok (.iconst 2, 1) := by decide +kernel
theorem dL_made_48 : decode cL_made 48 = .ok (.bipush 48, 2) := by decide +kernel
theorem dL_made_50 : decode cL_made 50 = .ok (.aload_n 1, 1) := by decide +kernel
theorem dL_made_51 : decode cL_made 51 = .ok (.iconst 1, 1) := by decide +kernel
theorem dL_made_52 : decode cL_made 52 = .ok (.iaload, 1) := by decide +kernel
theorem dL_made_53 : decode cL_made 53 = .ok (.bipush 10, 2) := by decide +kernel
theorem dL_made_55 : decode cL_made 55 = .ok (.irem, 1) := by decide +kernel
theorem dL_made_56 : decode cL_made 56 = .ok (.iadd, 1) := by decide +kernel
theorem dL_made_57 : decode cL_made 57 = .ok (.invokestatic 28, 3) := by decide +kernel
theorem dL_made_60 : decode cL_made 60 = .ok (.ifCond .eq 7, 3) := by decide +kernel
theorem dL_made_63 : decode cL_made 63 = .ok (.iconst 1, 1) := by decide +kernel
theorem dL_made_64 : decode cL_made 64 = .ok (.goto 4, 3) := by decide +kernel
theorem dL_made_67 : decode cL_made 67 = .ok (.iconst 0, 1) := by decide +kernel
theorem dL_made_68 : decode cL_made 68 = .ok (.istore_n 3, 1) := by decide +kernel
theorem dL_made_69 : decode cL_made 69 = .ok (.iconst 0, 1) := by decide +kernel
theorem dL_made_70 : decode cL_made 70 = .ok (.istore 4, 2) := by decide +kernel
theorem dL_made_72 : decode cL_made 72 = .ok (.iload 4, 2) := by decide +kernel
theorem dL_made_74 : decode cL_made 74 = .ok (.aload_n 1, 1) := by decide +kernel
theorem dL_made_75 : decode cL_made 75 = .ok (.iconst 0, 1) := by decide +kernel
theorem dL_made_76 : decode cL_made 76 = .ok (.iaload, 1) := by decide +kernel
theorem dL_made_77 : decode cL_made 77 = .ok (.if_icmp .ge 136, 3) := by decide +kernel
theorem dL_made_80 : decode cL_made 80 = .ok (.iconst 4, 1) := by decide +kernel
theorem dL_made_81 : decode cL_made 81 = .ok (.bipush 6, 2) := by decide +kernel
theorem dL_made_83 : decode cL_made 83 = .ok (.iload 4, 2) := by decide +kernel
theorem dL_made_85 : decode cL_made 85 = .ok (.imul, 1) := by decide +kernel
theorem dL_made_86 : decode cL_made 86 = .ok (.iadd, 1) := by decide +kernel
theorem dL_made_87 : decode cL_made 87 = .ok (.istore 5, 2) := by decide +kernel
theorem dL_made_89 : decode cL_made 89 = .ok (.iload_n 3, 1) := by decide +kernel
theorem dL_made_90 : decode cL_made 90 = .ok (.ifCond .eq 115, 3) := by decide +kernel
theorem dL_made_93 : decode cL_made 93 = .ok (.aload_n 0, 1) := by decide +kernel
theorem dL_made_94 : decode cL_made 94 = .ok (.iload 5, 2) := by decide +kernel
theorem dL_made_96 : decode cL_made 96 = .ok (.aload_n 1, 1) := by decide +kernel
theorem dL_made_97 : decode cL_made 97 = .ok (.iconst 2, 1) := by decide +kernel
theorem dL_made_98 : decode cL_made 98 = .ok (.iload 4, 2) := by decide +kernel
theorem dL_made_100 : decode cL_made 100 = .ok (.iadd, 1) := by decide +kernel
theorem dL_made_101 : decode cL_made 101 = .ok (.iaload, 1) := by decide +kernel
theorem dL_made_102 : decode cL_made 102 = .ok (.invokestatic 32, 3) := by decide +kernel
theorem dL_made_105 : decode cL_made 105 = .ok (.invokestatic 28, 3) := by decide +kernel
theorem dL_made_108 : decode cL_made 108 = .ok (.ifCond .eq 97, 3) := by decide +kernel
theorem dL_made_111 : decode cL_made 111 = .ok (.aload_n 0, 1) := by decide +kernel
theorem dL_made_112 : decode cL_made 112 = .ok (.iload 5, 2) := by decide +kernel
theorem dL_made_114 : decode cL_made 114 = .ok (.iconst 1, 1) := by decide +kernel
theorem dL_made_115 : decode cL_made 115 = .ok (.iadd, 1) := by decide +kernel
theorem dL_made_116 : decode cL_made 116 = .ok (.bipush 48, 2) := by decide +kernel
theorem dL_made_118 : decode cL_made 118 = .ok (.aload_n 1, 1) := by decide +kernel
theorem dL_made_119 : decode cL_made 119 = .ok (.bipush 8, 2) := by decide +kernel
theorem dL_made_121 : decode cL_made 121 = .ok (.iload 4, 2) := by decide +kernel
theorem dL_made_123 : decode cL_made 123 = .ok (.iadd, 1) := by decide +kernel
theorem dL_made_124 : decode cL_made 124 = .ok (.iaload, 1) := by decide +kernel
theorem dL_made_125 : decode cL_made 125 = .ok (.iadd, 1) := by decide +kernel
theorem dL_made_126 : decode cL_made 126 = .ok (.invokestatic 28, 3) := by decide +kernel
theorem dL_made_129 : decode cL_made 129 = .ok (.ifCond .eq 76, 3) := by decide +kernel
theorem dL_made_132 : decode cL_made 132 = .ok (.aload_n 0, 1) := by decide +kernel
theorem dL_made_133 : decode cL_made 133 = .ok (.iload 5, 2) := by decide +kernel
theorem dL_made_135 : decode cL_made 135 = .ok (.iconst 2, 1) := by decide +kernel
theorem dL_made_136 : decode cL_made 136 = .ok (.iadd, 1) := by decide +kernel
theorem dL_made_137 : decode cL_made 137 = .ok (.bipush 48, 2) := by decide +kernel
theorem dL_made_139 : decode cL_made 139 = .ok (.aload_n 1, 1) := by decide +kernel
theorem dL_made_140 : decode cL_made 140 = .ok (.bipush 14, 2) := by decide +kernel
theorem dL_made_142 : decode cL_made 142 = .ok (.iload 4, 2) := by decide +kernel
theorem dL_made_144 : decode cL_made 144 = .ok (.iadd, 1) := by decide +kernel
theorem dL_made_145 : decode cL_made 145 = .ok (.iaload, 1) := by decide +kernel
theorem dL_made_146 : decode cL_made 146 = .ok (.iadd, 1) := by decide +kernel
theorem dL_made_147 : decode cL_made 147 = .ok (.invokestatic 28, 3) := by decide +kernel
theorem dL_made_150 : decode cL_made 150 = .ok (.ifCond .eq 55, 3) := by decide +kernel
theorem dL_made_153 : decode cL_made 153 = .ok (.aload_n 0, 1) := by decide +kernel
theorem dL_made_154 : decode cL_made 154 = .ok (.iload 5, 2) := by decide +kernel
theorem dL_made_156 : decode cL_made 156 = .ok (.iconst 3, 1) := by decide +kernel
theorem dL_made_157 : decode cL_made 157 = .ok (.iadd, 1) := by decide +kernel
theorem dL_made_158 : decode cL_made 158 = .ok (.bipush 48, 2) := by decide +kernel
theorem dL_made_160 : decode cL_made 160 = .ok (.aload_n 1, 1) := by decide +kernel
theorem dL_made_161 : decode cL_made 161 = .ok (.bipush 20, 2) := by decide +kernel
theorem dL_made_163 : decode cL_made 163 = .ok (.iload 4, 2) := by decide +kernel
theorem dL_made_165 : decode cL_made 165 = .ok (.iadd, 1) := by decide +kernel
theorem dL_made_166 : decode cL_made 166 = .ok (.iaload, 1) := by decide +kernel
theorem dL_made_167 : decode cL_made 167 = .ok (.bipush 10, 2) := by decide +kernel
theorem dL_made_169 : decode cL_made 169 = .ok (.idiv, 1) := by decide +kernel
theorem dL_made_170 : decode cL_made 170 = .ok (.iadd, 1) := by decide +kernel
theorem dL_made_171 : decode cL_made 171 = .ok (.invokestatic 28, 3) := by decide +kernel
theorem dL_made_174 : decode cL_made 174 = .ok (.ifCond .eq 31, 3) := by decide +kernel
theorem dL_made_177 : decode cL_made 177 = .ok (.aload_n 0, 1) := by decide +kernel
theorem dL_made_178 : decode cL_made 178 = .ok (.iload 5, 2) := by decide +kernel
theorem dL_made_180 : decode cL_made 180 = .ok (.iconst 4, 1) := by decide +kernel
theorem dL_made_181 : decode cL_made 181 = .ok (.iadd, 1) := by decide +kernel
theorem dL_made_182 : decode cL_made 182 = .ok (.bipush 48, 2) := by decide +kernel
theorem dL_made_184 : decode cL_made 184 = .ok (.aload_n 1, 1) := by decide +kernel
theorem dL_made_185 : decode cL_made 185 = .ok (.bipush 20, 2) := by decide +kernel
theorem dL_made_187 : decode cL_made 187 = .ok (.iload 4, 2) := by decide +kernel
theorem dL_made_189 : decode cL_made 189 = .ok (.iadd, 1) := by decide +kernel
theorem dL_made_190 : decode cL_made 190 = .ok (.iaload, 1) := by decide +kernel
theorem dL_made_191 : decode cL_made 191 = .ok (.bipush 10, 2) := by decide +kernel
theorem dL_made_193 : decode cL_made 193 = .ok (.irem, 1) := by decide +kernel
theorem dL_made_194 : decode cL_made 194 = .ok (.iadd, 1) := by decide +kernel
theorem dL_made_195 : decode cL_made 195 = .ok (.invokestatic 28, 3) := by decide +kernel
theorem dL_made_198 : decode cL_made 198 = .ok (.ifCond .eq 7, 3) := by decide +kernel
theorem dL_made_201 : decode cL_made 201 = .ok (.iconst 1, 1) := by decide +kernel
theorem dL_made_202 : decode cL_made 202 = .ok (.goto 4, 3) := by decide +kernel
theorem dL_made_205 : decode cL_made 205 = .ok (.iconst 0, 1) := by decide +kernel
theorem dL_made_206 : decode cL_made 206 = .ok (.istore_n 3, 1) := by decide +kernel
theorem dL_made_207 : decode cL_made 207 = .ok (.iinc 4 1, 3) := by decide +kernel
theorem dL_made_210 : decode cL_made 210 = .ok (.goto (-138), 3) := by decide +kernel
theorem dL_made_213 : decode cL_made 213 = .ok (.iload_n 3, 1) := by decide +kernel
theorem dL_made_214 : decode cL_made 214 = .ok (.ifCond .eq 18, 3) := by decide +kernel
theorem dL_made_217 : decode cL_made 217 = .ok (.aload_n 0, 1) := by decide +kernel
theorem dL_made_218 : decode cL_made 218 = .ok (.iconst 0, 1) := by decide +kernel
theorem dL_made_219 : decode cL_made 219 = .ok (.invokevirtual 36, 3) := by decide +kernel
theorem dL_made_222 : decode cL_made 222 = .ok (.aload_n 1, 1) := by decide +kernel
theorem dL_made_223 : decode cL_made 223 = .ok (.iconst 0, 1) := by decide +kernel
theorem dL_made_224 : decode cL_made 224 = .ok (.iaload, 1) := by decide +kernel
theorem dL_made_225 : decode cL_made 225 = .ok (.if_icmp .ne 7, 3) := by decide +kernel
theorem dL_made_228 : decode cL_made 228 = .ok (.iconst 1, 1) := by decide +kernel
theorem dL_made_229 : decode cL_made 229 = .ok (.goto 4, 3) := by decide +kernel
theorem dL_made_232 : decode cL_made 232 = .ok (.iconst 0, 1) := by decide +kernel
theorem dL_made_233 : decode cL_made 233 = .ok (.ireturn, 1) := by decide +kernel
theorem dL_bits_0 : decode cL_bits 0 = .ok (.iconst 0, 1) := by decide +kernel
theorem dL_bits_1 : decode cL_bits 1 = .ok (.istore_n 1, 1) := by decide +kernel
theorem dL_bits_2 : decode cL_bits 2 = .ok (.iload_n 0, 1) := by decide +kernel
theorem dL_bits_3 : decode cL_bits 3 = .ok (.istore_n 2, 1) := by decide +kernel
theorem dL_bits_4 : decode cL_bits 4 = .ok (.iload_n 2, 1) := by decide +kernel
theorem dL_bits_5 : decode cL_bits 5 = .ok (.ifCond .le 16, 3) := by decide +kernel
theorem dL_bits_8 : decode cL_bits 8 = .ok (.iload_n 1, 1) := by decide +kernel
theorem dL_bits_9 : decode cL_bits 9 = .ok (.iload_n 2, 1) := by decide +kernel
theorem dL_bits_10 : decode cL_bits 10 = .ok (.iconst 1, 1) := by decide +kernel
theorem dL_bits_11 : decode cL_bits 11 = .ok (.iand, 1) := by decide +kernel
theorem dL_bits_12 : decode cL_bits 12 = .ok (.iadd, 1) := by decide +kernel
theorem dL_bits_13 : decode cL_bits 13 = .ok (.istore_n 1, 1) := by decide +kernel
theorem dL_bits_14 : decode cL_bits 14 = .ok (.iload_n 2, 1) := by decide +kernel
theorem dL_bits_15 : decode cL_bits 15 = .ok (.iconst 1, 1) := by decide +kernel
theorem dL_bits_16 : decode cL_bits 16 = .ok (.ishr, 1) := by decide +kernel
theorem dL_bits_17 : decode cL_bits 17 = .ok (.istore_n 2, 1) := by decide +kernel
theorem dL_bits_18 : decode cL_bits 18 = .ok (.goto (-14), 3) := by decide +kernel
theorem dL_bits_21 : decode cL_bits 21 = .ok (.iload_n 1, 1) := by decide +kernel
theorem dL_bits_22 : decode cL_bits 22 = .ok (.ireturn, 1) := by decide +kernel
theorem dL_told_0 : decode cL_told 0 = .ok (.aload_n 0, 1) := by decide +kernel
theorem dL_told_1 : decode cL_told 1 = .ok (.iload_n 1, 1) := by decide +kernel
theorem dL_told_2 : decode cL_told 2 = .ok (.iload_n 2, 1) := by decide +kernel
theorem dL_told_3 : decode cL_told 3 = .ok (.invokevirtual 39, 3) := by decide +kernel
theorem dL_told_6 : decode cL_told 6 = .ok (.iconst 1, 1) := by decide +kernel
theorem dL_told_7 : decode cL_told 7 = .ok (.if_icmp .ne 10, 3) := by decide +kernel
theorem dL_told_10 : decode cL_told 10 = .ok (.aload_n 0, 1) := by decide +kernel
theorem dL_told_11 : decode cL_told 11 = .ok (.invokevirtual 42, 3) := by decide +kernel
theorem dL_told_14 : decode cL_told 14 = .ok (.goto 5, 3) := by decide +kernel
theorem dL_told_17 : decode cL_told 17 = .ok (.bipush (-100), 2) := by decide +kernel
theorem dL_told_19 : decode cL_told 19 = .ok (.ireturn, 1) := by decide +kernel
theorem dL_asked_0 : decode cL_asked 0 = .ok (.iload_n 1, 1) := by decide +kernel
theorem dL_asked_1 : decode cL_asked 1 = .ok (.ifCond .ge 8, 3) := by decide +kernel
theorem dL_asked_4 : decode cL_asked 4 = .ok (.bipush (-100), 2) := by decide +kernel
theorem dL_asked_6 : decode cL_asked 6 = .ok (.goto 7, 3) := by decide +kernel
theorem dL_asked_9 : decode cL_asked 9 = .ok (.aload_n 0, 1) := by decide +kernel
theorem dL_asked_10 : decode cL_asked 10 = .ok (.invokevirtual 42, 3) := by decide +kernel
theorem dL_asked_13 : decode cL_asked 13 = .ok (.ireturn, 1) := by decide +kernel
theorem dL_law_0 : decode cL_law 0 = .ok (.new 20, 3) := by decide +kernel
theorem dL_law_3 : decode cL_law 3 = .ok (.dup, 1) := by decide +kernel
theorem dL_law_4 : decode cL_law 4 = .ok (.invokespecial 46, 3) := by decide +kernel
theorem dL_law_7 : decode cL_law 7 = .ok (.astore_n 1, 1) := by decide +kernel
theorem dL_law_8 : decode cL_law 8 = .ok (.bipush 28, 2) := by decide +kernel
theorem dL_law_10 : decode cL_law 10 = .ok (.newarray .int, 2) := by decide +kernel
theorem dL_law_12 : decode cL_law 12 = .ok (.astore_n 2, 1) := by decide +kernel
theorem dL_law_13 : decode cL_law 13 = .ok (.aload_n 0, 1) := by decide +kernel
theorem dL_law_14 : decode cL_law 14 = .ok (.aload_n 2, 1) := by decide +kernel
theorem dL_law_15 : decode cL_law 15 = .ok (.invokestatic 47, 3) := by decide +kernel
theorem dL_law_18 : decode cL_law 18 = .ok (.aload_n 1, 1) := by decide +kernel
theorem dL_law_19 : decode cL_law 19 = .ok (.aload_n 2, 1) := by decide +kernel
theorem dL_law_20 : decode cL_law 20 = .ok (.invokestatic 51, 3) := by decide +kernel
theorem dL_law_23 : decode cL_law 23 = .ok (.ifCond .ne 5, 3) := by decide +kernel
theorem dL_law_26 : decode cL_law 26 = .ok (.iconst 0, 1) := by decide +kernel
theorem dL_law_27 : decode cL_law 27 = .ok (.ireturn, 1) := by decide +kernel
theorem dL_law_28 : decode cL_law 28 = .ok (.aload_n 2, 1) := by decide +kernel
theorem dL_law_29 : decode cL_law 29 = .ok (.iconst 0, 1) := by decide +kernel
theorem dL_law_30 : decode cL_law 30 = .ok (.iaload, 1) := by decide +kernel
theorem dL_law_31 : decode cL_law 31 = .ok (.istore_n 3, 1) := by decide +kernel
theorem dL_law_32 : decode cL_law 32 = .ok (.iconst 1, 1) := by decide +kernel
theorem dL_law_33 : decode cL_law 33 = .ok (.iload_n 3, 1) := by decide +kernel
theorem dL_law_34 : decode cL_law 34 = .ok (.ishl, 1) := by decide +kernel
theorem dL_law_35 : decode cL_law 35 = .ok (.iconst 1, 1) := by decide +kernel
theorem dL_law_36 : decode cL_law 36 = .ok (.isub, 1) := by decide +kernel
theorem dL_law_37 : decode cL_law 37 = .ok (.istore 4, 2) := by decide +kernel
theorem dL_law_39 : decode cL_law 39 = .ok (.aload_n 1, 1) := by decide +kernel
theorem dL_law_40 : decode cL_law 40 = .ok (.iconst 1, 1) := by decide +kernel
theorem dL_law_41 : decode cL_law 41 = .ok (.aload_n 0, 1) := by decide +kernel
theorem dL_law_42 : decode cL_law 42 = .ok (.bipush 7, 2) := by decide +kernel
theorem dL_law_44 : decode cL_law 44 = .ok (.invokestatic 9, 3) := by decide +kernel
theorem dL_law_47 : decode cL_law 47 = .ok (.bipush 9, 2) := by decide +kernel
theorem dL_law_49 : decode cL_law 49 = .ok (.invokestatic 15, 3) := by decide +kernel
theorem dL_law_52 : decode cL_law 52 = .ok (.iadd, 1) := by decide +kernel
theorem dL_law_53 : decode cL_law 53 = .ok (.iconst 1, 1) := by decide +kernel
theorem dL_law_54 : decode cL_law 54 = .ok (.aload_n 0, 1) := by decide +kernel
theorem dL_law_55 : decode cL_law 55 = .ok (.bipush 8, 2) := by decide +kernel
theorem dL_law_57 : decode cL_law 57 = .ok (.invokestatic 9, 3) := by decide +kernel
theorem dL_law_60 : decode cL_law 60 = .ok (.ldc 55, 2) := by decide +kernel
theorem dL_law_62 : decode cL_law 62 = .ok (.invokestatic 15, 3) := by decide +kernel
theorem dL_law_65 : decode cL_law 65 = .ok (.iadd, 1) := by decide +kernel
theorem dL_law_66 : decode cL_law 66 = .ok (.invokevirtual 56, 3) := by decide +kernel
theorem dL_law_69 : decode cL_law 69 = .ok (.aload_n 1, 1) := by decide +kernel
theorem dL_law_70 : decode cL_law 70 = .ok (.iconst 4, 1) := by decide +kernel
theorem dL_law_71 : decode cL_law 71 = .ok (.invokevirtual 59, 3) := by decide +kernel
theorem dL_law_74 : decode cL_law 74 = .ok (.invokestatic 62, 3) := by decide +kernel
theorem dL_law_77 : decode cL_law 77 = .ok (.if_icmp .ne 16, 3) := by decide +kernel
theorem dL_law_80 : decode cL_law 80 = .ok (.aload_n 1, 1) := by decide +kernel
theorem dL_law_81 : decode cL_law 81 = .ok (.iconst 0, 1) := by decide +kernel
theorem dL_law_82 : decode cL_law 82 = .ok (.invokevirtual 65, 3) := by decide +kernel
theorem dL_law_85 : decode cL_law 85 = .ok (.aload_n 1, 1) := by decide +kernel
theorem dL_law_86 : decode cL_law 86 = .ok (.iconst 2, 1) := by decide +kernel
theorem dL_law_87 : decode cL_law 87 = .ok (.invokevirtual 59, 3) := by decide +kernel
theorem dL_law_90 : decode cL_law 90 = .ok (.if_icmp .eq 5, 3) := by decide +kernel
theorem dL_law_93 : decode cL_law 93 = .ok (.iconst 0, 1) := by decide +kernel
theorem dL_law_94 : decode cL_law 94 = .ok (.ireturn, 1) := by decide +kernel
theorem dL_law_95 : decode cL_law 95 = .ok (.aload_n 1, 1) := by decide +kernel
theorem dL_law_96 : decode cL_law 96 = .ok (.iconst 2, 1) := by decide +kernel
theorem dL_law_97 : decode cL_law 97 = .ok (.invokevirtual 59, 3) := by decide +kernel
theorem dL_law_100 : decode cL_law 100 = .ok (.istore 5, 2) := by decide +kernel
theorem dL_law_102 : decode cL_law 102 = .ok (.aload_n 1, 1) := by decide +kernel
theorem dL_law_103 : decode cL_law 103 = .ok (.iconst 1, 1) := by decide +kernel
theorem dL_law_104 : decode cL_law 104 = .ok (.invokevirtual 59, 3) := by decide +kernel
theorem dL_law_107 : decode cL_law 107 = .ok (.istore 6, 2) := by decide +kernel
theorem dL_law_109 : decode cL_law 109 = .ok (.aload_n 1, 1) := by decide +kernel
theorem dL_law_110 : decode cL_law 110 = .ok (.iconst 3, 1) := by decide +kernel
theorem dL_law_111 : decode cL_law 111 = .ok (.invokevirtual 59, 3) := by decide +kernel
theorem dL_law_114 : decode cL_law 114 = .ok (.istore 7, 2) := by decide +kernel
theorem dL_law_116 : decode cL_law 116 = .ok (.aload_n 1, 1) := by decide +kernel
theorem dL_law_117 : decode cL_law 117 = .ok (.iconst 4, 1) := by decide +kernel
theorem dL_law_118 : decode cL_law 118 = .ok (.invokevirtual 59, 3) := by decide +kernel
theorem dL_law_121 : decode cL_law 121 = .ok (.istore 8, 2) := by decide +kernel
theorem dL_law_123 : decode cL_law 123 = .ok (.aload_n 1, 1) := by decide +kernel
theorem dL_law_124 : decode cL_law 124 = .ok (.iconst 5, 1) := by decide +kernel
theorem dL_law_125 : decode cL_law 125 = .ok (.invokevirtual 59, 3) := by decide +kernel
theorem dL_law_128 : decode cL_law 128 = .ok (.istore 9, 2) := by decide +kernel
theorem dL_law_130 : decode cL_law 130 = .ok (.iconst 0, 1) := by decide +kernel
theorem dL_law_131 : decode cL_law 131 = .ok (.istore 10, 2) := by decide +kernel
theorem dL_law_133 : decode cL_law 133 = .ok (.bipush 6, 2) := by decide +kernel
theorem dL_law_135 : decode cL_law 135 = .ok (.newarray .int, 2) := by decide +kernel
theorem dL_law_137 : decode cL_law 137 = .ok (.astore 11, 2) := by decide +kernel
theorem dL_law_139 : decode cL_law 139 = .ok (.iconst 0, 1) := by decide +kernel
theorem dL_law_140 : decode cL_law 140 = .ok (.istore 12, 2) := by decide +kernel
theorem dL_law_142 : decode cL_law 142 = .ok (.iload 12, 2) := by decide +kernel
theorem dL_law_144 : decode cL_law 144 = .ok (.iload_n 3, 1) := by decide +kernel
theorem dL_law_145 : decode cL_law 145 = .ok (.if_icmp .ge 271, 3) := by decide +kernel
theorem dL_law_148 : decode cL_law 148 = .ok (.aload 11, 2) := by decide +kernel
theorem dL_law_150 : decode cL_law 150 = .ok (.iload 12, 2) := by decide +kernel
theorem dL_law_152 : decode cL_law 152 = .ok (.aload_n 1, 1) := by decide +kernel
theorem dL_law_153 : decode cL_law 153 = .ok (.iload 12, 2) := by decide +kernel
theorem dL_law_155 : decode cL_law 155 = .ok (.iconst 5, 1) := by decide +kernel
theorem dL_law_156 : decode cL_law 156 = .ok (.invokestatic 68, 3) := by decide +kernel
theorem dL_law_159 : decode cL_law 159 = .ok (.iastore, 1) := by decide +kernel
theorem dL_law_160 : decode cL_law 160 = .ok (.iload 10, 2) := by decide +kernel
theorem dL_law_162 : decode cL_law 162 = .ok (.aload_n 1, 1) := by decide +kernel
theorem dL_law_163 : decode cL_law 163 = .ok (.iload 12, 2) := by decide +kernel
theorem dL_law_165 : decode cL_law 165 = .ok (.iconst 2, 1) := by decide +kernel
theorem dL_law_166 : decode cL_law 166 = .ok (.invokestatic 68, 3) := by decide +kernel
theorem dL_law_169 : decode cL_law 169 = .ok (.iadd, 1) := by decide +kernel
theorem dL_law_170 : decode cL_law 170 = .ok (.istore 10, 2) := by decide +kernel
theorem dL_law_172 : decode cL_law 172 = .ok (.aload_n 1, 1) := by decide +kernel
theorem dL_law_173 : decode cL_law 173 = .ok (.iload 12, 2) := by decide +kernel
theorem dL_law_175 : decode cL_law 175 = .ok (.iconst 4, 1) := by decide +kernel
theorem dL_law_176 : decode cL_law 176 = .ok (.invokestatic 68, 3) := by decide +kernel
theorem dL_law_179 : decode cL_law 179 = .ok (.iload 7, 2) := by decide +kernel
theorem dL_law_181 : decode cL_law 181 = .ok (.iload 12, 2) := by decide +kernel
theorem dL_law_183 : decode cL_law 183 = .ok (.ishr, 1) := by decide +kernel
theorem dL_law_184 : decode cL_law 184 = .ok (.iconst 1, 1) := by decide +kernel
theorem dL_law_185 : decode cL_law 185 = .ok (.iand, 1) := by decide +kernel
theorem dL_law_186 : decode cL_law 186 = .ok (.if_icmp .ne 71, 3) := by decide +kernel
theorem dL_law_189 : decode cL_law 189 = .ok (.iload 7, 2) := by decide +kernel
theorem dL_law_191 : decode cL_law 191 = .ok (.iload 12, 2) := by decide +kernel
theorem dL_law_193 : decode cL_law 193 = .ok (.ishr, 1) := by decide +kernel
theorem dL_law_194 : decode cL_law 194 = .ok (.iconst 1, 1) := by decide +kernel
theorem dL_law_195 : decode cL_law 195 = .ok (.iand, 1) := by decide +kernel
theorem dL_law_196 : decode cL_law 196 = .ok (.iconst 1, 1) := by decide +kernel
theorem dL_law_197 : decode cL_law 197 = .ok (.if_icmp .ne 11, 3) := by decide +kernel
theorem dL_law_200 : decode cL_law 200 = .ok (.aload 11, 2) := by decide +kernel
theorem dL_law_202 : decode cL_law 202 = .ok (.iload 12, 2) := by decide +kernel
theorem dL_law_204 : decode cL_law 204 = .ok (.iaload, 1) := by decide +kernel
theorem dL_law_205 : decode cL_law 205 = .ok (.ifCond .ne 52, 3) := by decide +kernel
theorem dL_law_208 : decode cL_law 208 = .ok (.aload_n 1, 1) := by decide +kernel
theorem dL_law_209 : decode cL_law 209 = .ok (.iload 12, 2) := by decide +kernel
theorem dL_law_211 : decode cL_law 211 = .ok (.iconst 2, 1) := by decide +kernel
theorem dL_law_212 : decode cL_law 212 = .ok (.invokestatic 68, 3) := by decide +kernel
theorem dL_law_215 : decode cL_law 215 = .ok (.bipush 8, 2) := by decide +kernel
theorem dL_law_217 : decode cL_law 217 = .ok (.if_icmp .le 11, 3) := by decide +kernel
theorem dL_law_220 : decode cL_law 220 = .ok (.aload 11, 2) := by decide +kernel
theorem dL_law_222 : decode cL_law 222 = .ok (.iload 12, 2) := by decide +kernel
theorem dL_law_224 : decode cL_law 224 = .ok (.iaload, 1) := by decide +kernel
theorem dL_law_225 : decode cL_law 225 = .ok (.ifCond .ne 32, 3) := by decide +kernel
theorem dL_law_228 : decode cL_law 228 = .ok (.aload_n 1, 1) := by decide +kernel
theorem dL_law_229 : decode cL_law 229 = .ok (.iload 12, 2) := by decide +kernel
theorem dL_law_231 : decode cL_law 231 = .ok (.iconst 0, 1) := by decide +kernel
theorem dL_law_232 : decode cL_law 232 = .ok (.invokestatic 68, 3) := by decide +kernel
theorem dL_law_235 : decode cL_law 235 = .ok (.iconst 1, 1) := by decide +kernel
theorem dL_law_236 : decode cL_law 236 = .ok (.if_icmp .ne 23, 3) := by decide +kernel
theorem dL_law_239 : decode cL_law 239 = .ok (.aload 11, 2) := by decide +kernel
theorem dL_law_241 : decode cL_law 241 = .ok (.iload 12, 2) := by decide +kernel
theorem dL_law_243 : decode cL_law 243 = .ok (.iaload, 1) := by decide +kernel
theorem dL_law_244 : decode cL_law 244 = .ok (.aload_n 2, 1) := by decide +kernel
theorem dL_law_245 : decode cL_law 245 = .ok (.bipush 20, 2) := by decide +kernel
theorem dL_law_247 : decode cL_law 247 = .ok (.iload 12, 2) := by decide +kernel
theorem dL_law_249 : decode cL_law 249 = .ok (.iadd, 1) := by decide +kernel
theorem dL_law_250 : decode cL_law 250 = .ok (.iaload, 1) := by decide +kernel
theorem dL_law_251 : decode cL_law 251 = .ok (.iconst (-1), 1) := by decide +kernel
theorem dL_law_252 : decode cL_law 252 = .ok (.ixor, 1) := by decide +kernel
theorem dL_law_253 : decode cL_law 253 = .ok (.iand, 1) := by decide +kernel
theorem dL_law_254 : decode cL_law 254 = .ok (.ifCond .eq 5, 3) := by decide +kernel
theorem dL_law_257 : decode cL_law 257 = .ok (.iconst 0, 1) := by decide +kernel
theorem dL_law_258 : decode cL_law 258 = .ok (.ireturn, 1) := by decide +kernel
theorem dL_law_259 : decode cL_law 259 = .ok (.iconst 0, 1) := by decide +kernel
theorem dL_law_260 : decode cL_law 260 = .ok (.istore 13, 2) := by decide +kernel
theorem dL_law_262 : decode cL_law 262 = .ok (.iload 13, 2) := by decide +kernel
theorem dL_law_264 : decode cL_law 264 = .ok (.bipush 6, 2) := by decide +kernel
theorem dL_law_266 : decode cL_law 266 = .ok (.if_icmp .ge 144, 3) := by decide +kernel
theorem dL_law_269 : decode cL_law 269 = .ok (.aload_n 1, 1) := by decide +kernel
theorem dL_law_270 : decode cL_law 270 = .ok (.iload 12, 2) := by decide +kernel
theorem dL_law_272 : decode cL_law 272 = .ok (.iload 13, 2) := by decide +kernel
theorem dL_law_274 : decode cL_law 274 = .ok (.invokevirtual 72, 3) := by decide +kernel
theorem dL_law_277 : decode cL_law 277 = .ok (.istore 14, 2) := by decide +kernel
theorem dL_law_279 : decode cL_law 279 = .ok (.aload_n 1, 1) := by decide +kernel
theorem dL_law_280 : decode cL_law 280 = .ok (.iload 12, 2) := by decide +kernel
theorem dL_law_282 : decode cL_law 282 = .ok (.iconst 0, 1) := by decide +kernel
theorem dL_law_283 : decode cL_law 283 = .ok (.invokestatic 68, 3) := by decide +kernel
theorem dL_law_286 : decode cL_law 286 = .ok (.istore 15, 2) := by decide +kernel
theorem dL_law_288 : decode cL_law 288 = .ok (.iload 15, 2) := by decide +kernel
theorem dL_law_290 : decode cL_law 290 = .ok (.iconst 4, 1) := by decide +kernel
theorem dL_law_291 : decode cL_law 291 = .ok (.if_icmp .eq 24, 3) := by decide +kernel
theorem dL_law_294 : decode cL_law 294 = .ok (.iload 15, 2) := by decide +kernel
theorem dL_law_296 : decode cL_law 296 = .ok (.iconst 3, 1) := by decide +kernel
theorem dL_law_297 : decode cL_law 297 = .ok (.if_icmp .ne 14, 3) := by decide +kernel
theorem dL_law_300 : decode cL_law 300 = .ok (.aload_n 1, 1) := by decide +kernel
theorem dL_law_301 : decode cL_law 301 = .ok (.iload 12, 2) := by decide +kernel
theorem dL_law_303 : decode cL_law 303 = .ok (.iconst 2, 1) := by decide +kernel
theorem dL_law_304 : decode cL_law 304 = .ok (.invokestatic 68, 3) := by decide +kernel
theorem dL_law_307 : decode cL_law 307 = .ok (.iconst 5, 1) := by decide +kernel
theorem dL_law_308 : decode cL_law 308 = .ok (.if_icmp .ge 7, 3) := by decide +kernel
theorem dL_law_311 : decode cL_law 311 = .ok (.iconst 1, 1) := by decide +kernel
theorem dL_law_312 : decode cL_law 312 = .ok (.goto 4, 3) := by decide +kernel
theorem dL_law_315 : decode cL_law 315 = .ok (.iconst 0, 1) := by decide +kernel
theorem dL_law_316 : decode cL_law 316 = .ok (.istore 16, 2) := by decide +kernel
theorem dL_law_318 : decode cL_law 318 = .ok (.iload 14, 2) := by decide +kernel
theorem dL_law_320 : decode cL_law 320 = .ok (.bipush (-9), 2) := by decide +kernel
theorem dL_law_322 : decode cL_law 322 = .ok (.if_icmp .eq 14, 3) := by decide +kernel
theorem dL_law_325 : decode cL_law 325 = .ok (.iload 14, 2) := by decide +kernel
theorem dL_law_327 : decode cL_law 327 = .ok (.ifCond .eq 9, 3) := by decide +kernel
theorem dL_law_330 : decode cL_law 330 = .ok (.iload 14, 2) := by decide +kernel
theorem dL_law_332 : decode cL_law 332 = .ok (.iconst 1, 1) := by decide +kernel
theorem dL_law_333 : decode cL_law 333 = .ok (.if_icmp .ne 69, 3) := by decide +kernel
theorem dL_law_336 : decode cL_law 336 = .ok (.iload 14, 2) := by decide +kernel
theorem dL_law_338 : decode cL_law 338 = .ok (.bipush (-9), 2) := by decide +kernel
theorem dL_law_340 : decode cL_law 340 = .ok (.if_icmp .ne 7, 3) := by decide +kernel
theorem dL_law_343 : decode cL_law 343 = .ok (.iconst 1, 1) := by decide +kernel
theorem dL_law_344 : decode cL_law 344 = .ok (.goto 4, 3) := by decide +kernel
theorem dL_law_347 : decode cL_law 347 = .ok (.iconst 0, 1) := by decide +kernel
theorem dL_law_348 : decode cL_law 348 = .ok (.aload 11, 2) := by decide +kernel
theorem dL_law_350 : decode cL_law 350 = .ok (.iload 12, 2) := by decide +kernel
theorem dL_law_352 : decode cL_law 352 = .ok (.iaload, 1) := by decide +kernel
theorem dL_law_353 : decode cL_law 353 = .ok (.iload 13, 2) := by decide +kernel
theorem dL_law_355 : decode cL_law 355 = .ok (.ishr, 1) := by decide +kernel
theorem dL_law_356 : decode cL_law 356 = .ok (.iconst 1, 1) := by decide +kernel
theorem dL_law_357 : decode cL_law 357 = .ok (.iand, 1) := by decide +kernel
theorem dL_law_358 : decode cL_law 358 = .ok (.ifCond .ne 7, 3) := by decide +kernel
theorem dL_law_361 : decode cL_law 361 = .ok (.iconst 1, 1) := by decide +kernel
theorem dL_law_362 : decode cL_law 362 = .ok (.goto 4, 3) := by decide +kernel
theorem dL_law_365 : decode cL_law 365 = .ok (.iconst 0, 1) := by decide +kernel
theorem dL_law_366 : decode cL_law 366 = .ok (.if_icmp .ne 36, 3) := by decide +kernel
theorem dL_law_369 : decode cL_law 369 = .ok (.iload 15, 2) := by decide +kernel
theorem dL_law_371 : decode cL_law 371 = .ok (.iconst 4, 1) := by decide +kernel
theorem dL_law_372 : decode cL_law 372 = .ok (.if_icmp .ne 8, 3) := by decide +kernel
theorem dL_law_375 : decode cL_law 375 = .ok (.iload 14, 2) := by decide +kernel
theorem dL_law_377 : decode cL_law 377 = .ok (.ifCond .eq 25, 3) := by decide +kernel
theorem dL_law_380 : decode cL_law 380 = .ok (.iload 16, 2) := by decide +kernel
theorem dL_law_382 : decode cL_law 382 = .ok (.ifCond .eq 22, 3) := by decide +kernel
theorem dL_law_385 : decode cL_law 385 = .ok (.iload 14, 2) := by decide +kernel
theorem dL_law_387 : decode cL_law 387 = .ok (.ifCond .lt 17, 3) := by decide +kernel
theorem dL_law_390 : decode cL_law 390 = .ok (.iload 14, 2) := by decide +kernel
theorem dL_law_392 : decode cL_law 392 = .ok (.iload 6, 2) := by decide +kernel
theorem dL_law_394 : decode cL_law 394 = .ok (.iload 13, 2) := by decide +kernel
theorem dL_law_396 : decode cL_law 396 = .ok (.ishr, 1) := by decide +kernel
theorem dL_law_397 : decode cL_law 397 = .ok (.iconst 1, 1) := by decide +kernel
theorem dL_law_398 : decode cL_law 398 = .ok (.iand, 1) := by decide +kernel
theorem dL_law_399 : decode cL_law 399 = .ok (.if_icmp .eq 5, 3) := by decide +kernel
theorem dL_law_402 : decode cL_law 402 = .ok (.iconst 0, 1) := by decide +kernel
theorem dL_law_403 : decode cL_law 403 = .ok (.ireturn, 1) := by decide +kernel
theorem dL_law_404 : decode cL_law 404 = .ok (.iinc 13 1, 3) := by decide +kernel
theorem dL_law_407 : decode cL_law 407 = .ok (.goto (-145), 3) := by decide +kernel
theorem dL_law_410 : decode cL_law 410 = .ok (.iinc 12 1, 3) := by decide +kernel
theorem dL_law_413 : decode cL_law 413 = .ok (.goto (-271), 3) := by decide +kernel
theorem dL_law_416 : decode cL_law 416 = .ok (.iload 6, 2) := by decide +kernel
theorem dL_law_418 : decode cL_law 418 = .ok (.aload_n 2, 1) := by decide +kernel
theorem dL_law_419 : decode cL_law 419 = .ok (.iconst 1, 1) := by decide +kernel
theorem dL_law_420 : decode cL_law 420 = .ok (.iaload, 1) := by decide +kernel
theorem dL_law_421 : decode cL_law 421 = .ok (.if_icmp .ne 36, 3) := by decide +kernel
theorem dL_law_424 : decode cL_law 424 = .ok (.iload 10, 2) := by decide +kernel
theorem dL_law_426 : decode cL_law 426 = .ok (.iload 9, 2) := by decide +kernel
theorem dL_law_428 : decode cL_law 428 = .ok (.if_icmp .ne 29, 3) := by decide +kernel
theorem dL_law_431 : decode cL_law 431 = .ok (.aload_n 1, 1) := by decide +kernel
theorem dL_law_432 : decode cL_law 432 = .ok (.iload 4, 2) := by decide +kernel
theorem dL_law_434 : decode cL_law 434 = .ok (.invokevirtual 75, 3) := by decide +kernel
theorem dL_law_437 : decode cL_law 437 = .ok (.iload 8, 2) := by decide +kernel
theorem dL_law_439 : decode cL_law 439 = .ok (.if_icmp .ne 18, 3) := by decide +kernel
theorem dL_law_442 : decode cL_law 442 = .ok (.aload_n 1, 1) := by decide +kernel
theorem dL_law_443 : decode cL_law 443 = .ok (.iconst 0, 1) := by decide +kernel
theorem dL_law_444 : decode cL_law 444 = .ok (.invokevirtual 75, 3) := by decide +kernel
theorem dL_law_447 : decode cL_law 447 = .ok (.ifCond .ne 10, 3) := by decide +kernel
theorem dL_law_450 : decode cL_law 450 = .ok (.aload_n 1, 1) := by decide +kernel
theorem dL_law_451 : decode cL_law 451 = .ok (.invokevirtual 42, 3) := by decide +kernel
theorem dL_law_454 : decode cL_law 454 = .ok (.ifCond .eq 5, 3) := by decide +kernel
theorem dL_law_457 : decode cL_law 457 = .ok (.iconst 0, 1) := by decide +kernel
theorem dL_law_458 : decode cL_law 458 = .ok (.ireturn, 1) := by decide +kernel
theorem dL_law_459 : decode cL_law 459 = .ok (.iconst 0, 1) := by decide +kernel
theorem dL_law_460 : decode cL_law 460 = .ok (.istore 12, 2) := by decide +kernel
theorem dL_law_462 : decode cL_law 462 = .ok (.iload 12, 2) := by decide +kernel
theorem dL_law_464 : decode cL_law 464 = .ok (.bipush 6, 2) := by decide +kernel
theorem dL_law_466 : decode cL_law 466 = .ok (.if_icmp .ge 252, 3) := by decide +kernel
theorem dL_law_469 : decode cL_law 469 = .ok (.iconst 0, 1) := by decide +kernel
theorem dL_law_470 : decode cL_law 470 = .ok (.istore 13, 2) := by decide +kernel
theorem dL_law_472 : decode cL_law 472 = .ok (.iconst 0, 1) := by decide +kernel
theorem dL_law_473 : decode cL_law 473 = .ok (.istore 14, 2) := by decide +kernel
theorem dL_law_475 : decode cL_law 475 = .ok (.iload 14, 2) := by decide +kernel
theorem dL_law_477 : decode cL_law 477 = .ok (.iload_n 3, 1) := by decide +kernel
theorem dL_law_478 : decode cL_law 478 = .ok (.if_icmp .ge 39, 3) := by decide +kernel
theorem dL_law_481 : decode cL_law 481 = .ok (.aload_n 1, 1) := by decide +kernel
theorem dL_law_482 : decode cL_law 482 = .ok (.iload 14, 2) := by decide +kernel
theorem dL_law_484 : decode cL_law 484 = .ok (.iload 12, 2) := by decide +kernel
theorem dL_law_486 : decode cL_law 486 = .ok (.invokevirtual 72, 3) := by decide +kernel
theorem dL_law_489 : decode cL_law 489 = .ok (.istore 15, 2) := by decide +kernel
theorem dL_law_491 : decode cL_law 491 = .ok (.iload 13, 2) := by decide +kernel
theorem dL_law_493 : decode cL_law 493 = .ok (.iload 15, 2) := by decide +kernel
theorem dL_law_495 : decode cL_law 495 = .ok (.ifCond .ge 7, 3) := by decide +kernel
theorem dL_law_498 : decode cL_law 498 = .ok (.iconst 0, 1) := by decide +kernel
theorem dL_law_499 : decode cL_law 499 = .ok (.goto 9, 3) := by decide +kernel
theorem dL_law_502 : decode cL_law 502 = .ok (.iconst 2, 1) := by decide +kernel
theorem dL_law_503 : decode cL_law 503 = .ok (.iload 15, 2) := by decide +kernel
theorem dL_law_505 : decode cL_law 505 = .ok (.imul, 1) := by decide +kernel
theorem dL_law_506 : decode cL_law 506 = .ok (.iconst 1, 1) := by decide +kernel
theorem dL_law_507 : decode cL_law 507 = .ok (.isub, 1) := by decide +kernel
theorem dL_law_508 : decode cL_law 508 = .ok (.iadd, 1) := by decide +kernel
theorem dL_law_509 : decode cL_law 509 = .ok (.istore 13, 2) := by decide +kernel
theorem dL_law_511 : decode cL_law 511 = .ok (.iinc 14 1, 3) := by decide +kernel
theorem dL_law_514 : decode cL_law 514 = .ok (.goto (-39), 3) := by decide +kernel
theorem dL_law_517 : decode cL_law 517 = .ok (.iload 13, 2) := by decide +kernel
theorem dL_law_519 : decode cL_law 519 = .ok (.ifCond .le 7, 3) := by decide +kernel
theorem dL_law_522 : decode cL_law 522 = .ok (.iconst 1, 1) := by decide +kernel
theorem dL_law_523 : decode cL_law 523 = .ok (.goto 4, 3) := by decide +kernel
theorem dL_law_526 : decode cL_law 526 = .ok (.iconst 0, 1) := by decide +kernel
theorem dL_law_527 : decode cL_law 527 = .ok (.iload 8, 2) := by decide +kernel
theorem dL_law_529 : decode cL_law 529 = .ok (.iload 12, 2) := by decide +kernel
theorem dL_law_531 : decode cL_law 531 = .ok (.ishr, 1) := by decide +kernel
theorem dL_law_532 : decode cL_law 532 = .ok (.iconst 1, 1) := by decide +kernel
theorem dL_law_533 : decode cL_law 533 = .ok (.iand, 1) := by decide +kernel
theorem dL_law_534 : decode cL_law 534 = .ok (.iconst 1, 1) := by decide +kernel
theorem dL_law_535 : decode cL_law 535 = .ok (.if_icmp .ne 7, 3) := by decide +kernel
theorem dL_law_538 : decode cL_law 538 = .ok (.iconst 1, 1) := by decide +kernel
theorem dL_law_539 : decode cL_law 539 = .ok (.goto 4, 3) := by decide +kernel
theorem dL_law_542 : decode cL_law 542 = .ok (.iconst 0, 1) := by decide +kernel
theorem dL_law_543 : decode cL_law 543 = .ok (.if_icmp .ne 23, 3) := by decide +kernel
theorem dL_law_546 : decode cL_law 546 = .ok (.aload_n 1, 1) := by decide +kernel
theorem dL_law_547 : decode cL_law 547 = .ok (.iload 12, 2) := by decide +kernel
theorem dL_law_549 : decode cL_law 549 = .ok (.iconst 0, 1) := by decide +kernel
theorem dL_law_550 : decode cL_law 550 = .ok (.invokevirtual 78, 3) := by decide +kernel
theorem dL_law_553 : decode cL_law 553 = .ok (.iconst 1, 1) := by decide +kernel
theorem dL_law_554 : decode cL_law 554 = .ok (.if_icmp .ne 12, 3) := by decide +kernel
theorem dL_law_557 : decode cL_law 557 = .ok (.aload_n 1, 1) := by decide +kernel
theorem dL_law_558 : decode cL_law 558 = .ok (.invokevirtual 42, 3) := by decide +kernel
theorem dL_law_561 : decode cL_law 561 = .ok (.iload 13, 2) := by decide +kernel
theorem dL_law_563 : decode cL_law 563 = .ok (.if_icmp .eq 5, 3) := by decide +kernel
theorem dL_law_566 : decode cL_law 566 = .ok (.iconst 0, 1) := by decide +kernel
theorem dL_law_567 : decode cL_law 567 = .ok (.ireturn, 1) := by decide +kernel
theorem dL_law_568 : decode cL_law 568 = .ok (.aload_n 1, 1) := by decide +kernel
theorem dL_law_569 : decode cL_law 569 = .ok (.iload 12, 2) := by decide +kernel
theorem dL_law_571 : decode cL_law 571 = .ok (.invokevirtual 81, 3) := by decide +kernel
theorem dL_law_574 : decode cL_law 574 = .ok (.istore 14, 2) := by decide +kernel
theorem dL_law_576 : decode cL_law 576 = .ok (.aload_n 1, 1) := by decide +kernel
theorem dL_law_577 : decode cL_law 577 = .ok (.iload 14, 2) := by decide +kernel
theorem dL_law_579 : decode cL_law 579 = .ok (.invokestatic 84, 3) := by decide +kernel
theorem dL_law_582 : decode cL_law 582 = .ok (.istore 15, 2) := by decide +kernel
theorem dL_law_584 : decode cL_law 584 = .ok (.iload 14, 2) := by decide +kernel
theorem dL_law_586 : decode cL_law 586 = .ok (.bipush (-9), 2) := by decide +kernel
theorem dL_law_588 : decode cL_law 588 = .ok (.if_icmp .ne 17, 3) := by decide +kernel
theorem dL_law_591 : decode cL_law 591 = .ok (.iload 8, 2) := by decide +kernel
theorem dL_law_593 : decode cL_law 593 = .ok (.iload 12, 2) := by decide +kernel
theorem dL_law_595 : decode cL_law 595 = .ok (.ishr, 1) := by decide +kernel
theorem dL_law_596 : decode cL_law 596 = .ok (.iconst 1, 1) := by decide +kernel
theorem dL_law_597 : decode cL_law 597 = .ok (.iand, 1) := by decide +kernel
theorem dL_law_598 : decode cL_law 598 = .ok (.iconst 1, 1) := by decide +kernel
theorem dL_law_599 : decode cL_law 599 = .ok (.if_icmp .ne 46, 3) := by decide +kernel
theorem dL_law_602 : decode cL_law 602 = .ok (.goto 41, 3) := by decide +kernel
theorem dL_law_605 : decode cL_law 605 = .ok (.iload 14, 2) := by decide +kernel
theorem dL_law_607 : decode cL_law 607 = .ok (.iconst 1, 1) := by decide +kernel
theorem dL_law_608 : decode cL_law 608 = .ok (.if_icmp .lt 35, 3) := by decide +kernel
theorem dL_law_611 : decode cL_law 611 = .ok (.iload 14, 2) := by decide +kernel
theorem dL_law_613 : decode cL_law 613 = .ok (.iload 15, 2) := by decide +kernel
theorem dL_law_615 : decode cL_law 615 = .ok (.invokestatic 62, 3) := by decide +kernel
theorem dL_law_618 : decode cL_law 618 = .ok (.if_icmp .ne 25, 3) := by decide +kernel
theorem dL_law_621 : decode cL_law 621 = .ok (.iload 15, 2) := by decide +kernel
theorem dL_law_623 : decode cL_law 623 = .ok (.iload 4, 2) := by decide +kernel
theorem dL_law_625 : decode cL_law 625 = .ok (.if_icmp .gt 18, 3) := by decide +kernel
theorem dL_law_628 : decode cL_law 628 = .ok (.aload_n 1, 1) := by decide +kernel
theorem dL_law_629 : decode cL_law 629 = .ok (.iload 15, 2) := by decide +kernel
theorem dL_law_631 : decode cL_law 631 = .ok (.invokevirtual 75, 3) := by decide +kernel
theorem dL_law_634 : decode cL_law 634 = .ok (.iload 12, 2) := by decide +kernel
theorem dL_law_636 : decode cL_law 636 = .ok (.ishr, 1) := by decide +kernel
theorem dL_law_637 : decode cL_law 637 = .ok (.iconst 1, 1) := by decide +kernel
theorem dL_law_638 : decode cL_law 638 = .ok (.iand, 1) := by decide +kernel
theorem dL_law_639 : decode cL_law 639 = .ok (.iconst 1, 1) := by decide +kernel
theorem dL_law_640 : decode cL_law 640 = .ok (.if_icmp .eq 5, 3) := by decide +kernel
theorem dL_law_643 : decode cL_law 643 = .ok (.iconst 0, 1) := by decide +kernel
theorem dL_law_644 : decode cL_law 644 = .ok (.ireturn, 1) := by decide +kernel
theorem dL_law_645 : decode cL_law 645 = .ok (.iconst 0, 1) := by decide +kernel
theorem dL_law_646 : decode cL_law 646 = .ok (.istore 16, 2) := by decide +kernel
theorem dL_law_648 : decode cL_law 648 = .ok (.iload 16, 2) := by decide +kernel
theorem dL_law_650 : decode cL_law 650 = .ok (.iload_n 3, 1) := by decide +kernel
theorem dL_law_651 : decode cL_law 651 = .ok (.if_icmp .ge 61, 3) := by decide +kernel
theorem dL_law_654 : decode cL_law 654 = .ok (.iload 14, 2) := by decide +kernel
theorem dL_law_656 : decode cL_law 656 = .ok (.ifCond .le 56, 3) := by decide +kernel
theorem dL_law_659 : decode cL_law 659 = .ok (.iload 15, 2) := by decide +kernel
theorem dL_law_661 : decode cL_law 661 = .ok (.iload 16, 2) := by decide +kernel
theorem dL_law_663 : decode cL_law 663 = .ok (.ishr, 1) := by decide +kernel
theorem dL_law_664 : decode cL_law 664 = .ok (.iconst 1, 1) := by decide +kernel
theorem dL_law_665 : decode cL_law 665 = .ok (.iand, 1) := by decide +kernel
theorem dL_law_666 : decode cL_law 666 = .ok (.iconst 1, 1) := by decide +kernel
theorem dL_law_667 : decode cL_law 667 = .ok (.if_icmp .ne 39, 3) := by decide +kernel
theorem dL_law_670 : decode cL_law 670 = .ok (.aload_n 1, 1) := by decide +kernel
theorem dL_law_671 : decode cL_law 671 = .ok (.iload 16, 2) := by decide +kernel
theorem dL_law_673 : decode cL_law 673 = .ok (.iload 12, 2) := by decide +kernel
theorem dL_law_675 : decode cL_law 675 = .ok (.invokevirtual 72, 3) := by decide +kernel
theorem dL_law_678 : decode cL_law 678 = .ok (.iconst 1, 1) := by decide +kernel
theorem dL_law_679 : decode cL_law 679 = .ok (.if_icmp .ne 25, 3) := by decide +kernel
theorem dL_law_682 : decode cL_law 682 = .ok (.aload_n 1, 1) := by decide +kernel
theorem dL_law_683 : decode cL_law 683 = .ok (.iload 15, 2) := by decide +kernel
theorem dL_law_685 : decode cL_law 685 = .ok (.iconst 1, 1) := by decide +kernel
theorem dL_law_686 : decode cL_law 686 = .ok (.iload 16, 2) := by decide +kernel
theorem dL_law_688 : decode cL_law 688 = .ok (.ishl, 1) := by decide +kernel
theorem dL_law_689 : decode cL_law 689 = .ok (.iconst (-1), 1) := by decide +kernel
theorem dL_law_690 : decode cL_law 690 = .ok (.ixor, 1) := by decide +kernel
theorem dL_law_691 : decode cL_law 691 = .ok (.iand, 1) := by decide +kernel
theorem dL_law_692 : decode cL_law 692 = .ok (.invokevirtual 75, 3) := by decide +kernel
theorem dL_law_695 : decode cL_law 695 = .ok (.iload 12, 2) := by decide +kernel
theorem dL_law_697 : decode cL_law 697 = .ok (.ishr, 1) := by decide +kernel
theorem dL_law_698 : decode cL_law 698 = .ok (.iconst 1, 1) := by decide +kernel
theorem dL_law_699 : decode cL_law 699 = .ok (.iand, 1) := by decide +kernel
theorem dL_law_700 : decode cL_law 700 = .ok (.iconst 1, 1) := by decide +kernel
theorem dL_law_701 : decode cL_law 701 = .ok (.if_icmp .ne 5, 3) := by decide +kernel
theorem dL_law_704 : decode cL_law 704 = .ok (.iconst 0, 1) := by decide +kernel
theorem dL_law_705 : decode cL_law 705 = .ok (.ireturn, 1) := by decide +kernel
theorem dL_law_706 : decode cL_law 706 = .ok (.iinc 16 1, 3) := by decide +kernel
theorem dL_law_709 : decode cL_law 709 = .ok (.goto (-61), 3) := by decide +kernel
theorem dL_law_712 : decode cL_law 712 = .ok (.iinc 12 1, 3) := by decide +kernel
theorem dL_law_715 : decode cL_law 715 = .ok (.goto (-253), 3) := by decide +kernel
theorem dL_law_718 : decode cL_law 718 = .ok (.aload_n 0, 1) := by decide +kernel
theorem dL_law_719 : decode cL_law 719 = .ok (.bipush 9, 2) := by decide +kernel
theorem dL_law_721 : decode cL_law 721 = .ok (.invokestatic 9, 3) := by decide +kernel
theorem dL_law_724 : decode cL_law 724 = .ok (.bipush 6, 2) := by decide +kernel
theorem dL_law_726 : decode cL_law 726 = .ok (.invokestatic 15, 3) := by decide +kernel
theorem dL_law_729 : decode cL_law 729 = .ok (.istore 12, 2) := by decide +kernel
theorem dL_law_731 : decode cL_law 731 = .ok (.aload_n 0, 1) := by decide +kernel
theorem dL_law_732 : decode cL_law 732 = .ok (.bipush 10, 2) := by decide +kernel
theorem dL_law_734 : decode cL_law 734 = .ok (.invokestatic 9, 3) := by decide +kernel
theorem dL_law_737 : decode cL_law 737 = .ok (.iconst 1, 1) := by decide +kernel
theorem dL_law_738 : decode cL_law 738 = .ok (.iload_n 3, 1) := by decide +kernel
theorem dL_law_739 : decode cL_law 739 = .ok (.ishl, 1) := by decide +kernel
theorem dL_law_740 : decode cL_law 740 = .ok (.invokestatic 15, 3) := by decide +kernel
theorem dL_law_743 : decode cL_law 743 = .ok (.istore 13, 2) := by decide +kernel
theorem dL_law_745 : decode cL_law 745 = .ok (.aload_n 1, 1) := by decide +kernel
theorem dL_law_746 : decode cL_law 746 = .ok (.iload 12, 2) := by decide +kernel
theorem dL_law_748 : decode cL_law 748 = .ok (.iload 13, 2) := by decide +kernel
theorem dL_law_750 : decode cL_law 750 = .ok (.iconst 5, 1) := by decide +kernel
theorem dL_law_751 : decode cL_law 751 = .ok (.invokevirtual 87, 3) := by decide +kernel
theorem dL_law_754 : decode cL_law 754 = .ok (.istore 14, 2) := by decide +kernel
theorem dL_law_756 : decode cL_law 756 = .ok (.aload_n 1, 1) := by decide +kernel
theorem dL_law_757 : decode cL_law 757 = .ok (.iload 13, 2) := by decide +kernel
theorem dL_law_759 : decode cL_law 759 = .ok (.invokevirtual 75, 3) := by decide +kernel
theorem dL_law_762 : decode cL_law 762 = .ok (.iload 12, 2) := by decide +kernel
theorem dL_law_764 : decode cL_law 764 = .ok (.ishr, 1) := by decide +kernel
theorem dL_law_765 : decode cL_law 765 = .ok (.iconst 1, 1) := by decide +kernel
theorem dL_law_766 : decode cL_law 766 = .ok (.iand, 1) := by decide +kernel
theorem dL_law_767 : decode cL_law 767 = .ok (.iconst 1, 1) := by decide +kernel
theorem dL_law_768 : decode cL_law 768 = .ok (.if_icmp .ne 7, 3) := by decide +kernel
theorem dL_law_771 : decode cL_law 771 = .ok (.iconst 1, 1) := by decide +kernel
theorem dL_law_772 : decode cL_law 772 = .ok (.goto 4, 3) := by decide +kernel
theorem dL_law_775 : decode cL_law 775 = .ok (.iconst 0, 1) := by decide +kernel
theorem dL_law_776 : decode cL_law 776 = .ok (.istore 15, 2) := by decide +kernel
theorem dL_law_778 : decode cL_law 778 = .ok (.iload 14, 2) := by decide +kernel
theorem dL_law_780 : decode cL_law 780 = .ok (.bipush (-9), 2) := by decide +kernel
theorem dL_law_782 : decode cL_law 782 = .ok (.if_icmp .lt 44, 3) := by decide +kernel
theorem dL_law_785 : decode cL_law 785 = .ok (.iload 14, 2) := by decide +kernel
theorem dL_law_787 : decode cL_law 787 = .ok (.iconst 4, 1) := by decide +kernel
theorem dL_law_788 : decode cL_law 788 = .ok (.if_icmp .gt 38, 3) := by decide +kernel
theorem dL_law_791 : decode cL_law 791 = .ok (.iload 14, 2) := by decide +kernel
theorem dL_law_793 : decode cL_law 793 = .ok (.ifCond .ge 10, 3) := by decide +kernel
theorem dL_law_796 : decode cL_law 796 = .ok (.iload 14, 2) := by decide +kernel
theorem dL_law_798 : decode cL_law 798 = .ok (.bipush (-9), 2) := by decide +kernel
theorem dL_law_800 : decode cL_law 800 = .ok (.if_icmp .ne 26, 3) := by decide +kernel
theorem dL_law_803 : decode cL_law 803 = .ok (.iload 14, 2) := by decide +kernel
theorem dL_law_805 : decode cL_law 805 = .ok (.ifCond .ne 7, 3) := by decide +kernel
theorem dL_law_808 : decode cL_law 808 = .ok (.iconst 1, 1) := by decide +kernel
theorem dL_law_809 : decode cL_law 809 = .ok (.goto 4, 3) := by decide +kernel
theorem dL_law_812 : decode cL_law 812 = .ok (.iconst 0, 1) := by decide +kernel
theorem dL_law_813 : decode cL_law 813 = .ok (.iload 15, 2) := by decide +kernel
theorem dL_law_815 : decode cL_law 815 = .ok (.ifCond .ne 7, 3) := by decide +kernel
theorem dL_law_818 : decode cL_law 818 = .ok (.iconst 1, 1) := by decide +kernel
theorem dL_law_819 : decode cL_law 819 = .ok (.goto 4, 3) := by decide +kernel
theorem dL_law_822 : decode cL_law 822 = .ok (.iconst 0, 1) := by decide +kernel
theorem dL_law_823 : decode cL_law 823 = .ok (.if_icmp .eq 5, 3) := by decide +kernel
theorem dL_law_826 : decode cL_law 826 = .ok (.iconst 0, 1) := by decide +kernel
theorem dL_law_827 : decode cL_law 827 = .ok (.ireturn, 1) := by decide +kernel
theorem dL_law_828 : decode cL_law 828 = .ok (.iconst 0, 1) := by decide +kernel
theorem dL_law_829 : decode cL_law 829 = .ok (.istore 16, 2) := by decide +kernel
theorem dL_law_831 : decode cL_law 831 = .ok (.iconst 0, 1) := by decide +kernel
theorem dL_law_832 : decode cL_law 832 = .ok (.istore 17, 2) := by decide +kernel
theorem dL_law_834 : decode cL_law 834 = .ok (.iload 17, 2) := by decide +kernel
theorem dL_law_836 : decode cL_law 836 = .ok (.iload 14, 2) := by decide +kernel
theorem dL_law_838 : decode cL_law 838 = .ok (.if_icmp .ge 79, 3) := by decide +kernel
theorem dL_law_841 : decode cL_law 841 = .ok (.aload_n 1, 1) := by decide +kernel
theorem dL_law_842 : decode cL_law 842 = .ok (.iconst 5, 1) := by decide +kernel
theorem dL_law_843 : decode cL_law 843 = .ok (.iload 17, 2) := by decide +kernel
theorem dL_law_845 : decode cL_law 845 = .ok (.invokevirtual 90, 3) := by decide +kernel
theorem dL_law_848 : decode cL_law 848 = .ok (.istore 18, 2) := by decide +kernel
theorem dL_law_850 : decode cL_law 850 = .ok (.aload_n 1, 1) := by decide +kernel
theorem dL_law_851 : decode cL_law 851 = .ok (.invokevirtual 42, 3) := by decide +kernel
theorem dL_law_854 : decode cL_law 854 = .ok (.istore 19, 2) := by decide +kernel
theorem dL_law_856 : decode cL_law 856 = .ok (.iload 18, 2) := by decide +kernel
theorem dL_law_858 : decode cL_law 858 = .ok (.iconst 1, 1) := by decide +kernel
theorem dL_law_859 : decode cL_law 859 = .ok (.if_icmp .ne 46, 3) := by decide +kernel
theorem dL_law_862 : decode cL_law 862 = .ok (.iload 19, 2) := by decide +kernel
theorem dL_law_864 : decode cL_law 864 = .ok (.iload 16, 2) := by decide +kernel
theorem dL_law_866 : decode cL_law 866 = .ok (.if_icmp .lt 39, 3) := by decide +kernel
theorem dL_law_869 : decode cL_law 869 = .ok (.iload 13, 2) := by decide +kernel
theorem dL_law_871 : decode cL_law 871 = .ok (.iload 19, 2) := by decide +kernel
theorem dL_law_873 : decode cL_law 873 = .ok (.ishr, 1) := by decide +kernel
theorem dL_law_874 : decode cL_law 874 = .ok (.iconst 1, 1) := by decide +kernel
theorem dL_law_875 : decode cL_law 875 = .ok (.iand, 1) := by decide +kernel
theorem dL_law_876 : decode cL_law 876 = .ok (.iconst 1, 1) := by decide +kernel
theorem dL_law_877 : decode cL_law 877 = .ok (.if_icmp .ne 28, 3) := by decide +kernel
theorem dL_law_880 : decode cL_law 880 = .ok (.aload_n 1, 1) := by decide +kernel
theorem dL_law_881 : decode cL_law 881 = .ok (.iload 13, 2) := by decide +kernel
theorem dL_law_883 : decode cL_law 883 = .ok (.invokevirtual 75, 3) := by decide +kernel
theorem dL_law_886 : decode cL_law 886 = .ok (.iload 12, 2) := by decide +kernel
theorem dL_law_888 : decode cL_law 888 = .ok (.ishr, 1) := by decide +kernel
theorem dL_law_889 : decode cL_law 889 = .ok (.iconst 1, 1) := by decide +kernel
theorem dL_law_890 : decode cL_law 890 = .ok (.iand, 1) := by decide +kernel
theorem dL_law_891 : decode cL_law 891 = .ok (.iconst 1, 1) := by decide +kernel
theorem dL_law_892 : decode cL_law 892 = .ok (.if_icmp .ne 13, 3) := by decide +kernel
theorem dL_law_895 : decode cL_law 895 = .ok (.aload_n 1, 1) := by decide +kernel
theorem dL_law_896 : decode cL_law 896 = .ok (.iload 19, 2) := by decide +kernel
theorem dL_law_898 : decode cL_law 898 = .ok (.invokevirtual 93, 3) := by decide +kernel
theorem dL_law_901 : decode cL_law 901 = .ok (.iconst 1, 1) := by decide +kernel
theorem dL_law_902 : decode cL_law 902 = .ok (.if_icmp .ge 5, 3) := by decide +kernel
theorem dL_law_905 : decode cL_law 905 = .ok (.iconst 0, 1) := by decide +kernel
theorem dL_law_906 : decode cL_law 906 = .ok (.ireturn, 1) := by decide +kernel
theorem dL_law_907 : decode cL_law 907 = .ok (.iload 19, 2) := by decide +kernel
theorem dL_law_909 : decode cL_law 909 = .ok (.istore 16, 2) := by decide +kernel
theorem dL_law_911 : decode cL_law 911 = .ok (.iinc 17 1, 3) := by decide +kernel
theorem dL_law_914 : decode cL_law 914 = .ok (.goto (-80), 3) := by decide +kernel
theorem dL_law_917 : decode cL_law 917 = .ok (.iload 14, 2) := by decide +kernel
theorem dL_law_919 : decode cL_law 919 = .ok (.ifCond .lt 30, 3) := by decide +kernel
theorem dL_law_922 : decode cL_law 922 = .ok (.aload_n 1, 1) := by decide +kernel
theorem dL_law_923 : decode cL_law 923 = .ok (.iload 13, 2) := by decide +kernel
theorem dL_law_925 : decode cL_law 925 = .ok (.invokevirtual 75, 3) := by decide +kernel
theorem dL_law_928 : decode cL_law 928 = .ok (.iload 12, 2) := by decide +kernel
theorem dL_law_930 : decode cL_law 930 = .ok (.ishr, 1) := by decide +kernel
theorem dL_law_931 : decode cL_law 931 = .ok (.iconst 1, 1) := by decide +kernel
theorem dL_law_932 : decode cL_law 932 = .ok (.iand, 1) := by decide +kernel
theorem dL_law_933 : decode cL_law 933 = .ok (.iconst 1, 1) := by decide +kernel
theorem dL_law_934 : decode cL_law 934 = .ok (.if_icmp .eq 25, 3) := by decide +kernel
theorem dL_law_937 : decode cL_law 937 = .ok (.aload_n 1, 1) := by decide +kernel
theorem dL_law_938 : decode cL_law 938 = .ok (.iload 12, 2) := by decide +kernel
theorem dL_law_940 : decode cL_law 940 = .ok (.iload 13, 2) := by decide +kernel
theorem dL_law_942 : decode cL_law 942 = .ok (.iconst 5, 1) := by decide +kernel
theorem dL_law_943 : decode cL_law 943 = .ok (.invokevirtual 87, 3) := by decide +kernel
theorem dL_law_946 : decode cL_law 946 = .ok (.ifCond .ne 13, 3) := by decide +kernel
theorem dL_law_949 : decode cL_law 949 = .ok (.aload_n 1, 1) := by decide +kernel
theorem dL_law_950 : decode cL_law 950 = .ok (.iconst 0, 1) := by decide +kernel
theorem dL_law_951 : decode cL_law 951 = .ok (.invokevirtual 96, 3) := by decide +kernel
theorem dL_law_954 : decode cL_law 954 = .ok (.iload 5, 2) := by decide +kernel
theorem dL_law_956 : decode cL_law 956 = .ok (.if_icmp .eq 5, 3) := by decide +kernel
theorem dL_law_959 : decode cL_law 959 = .ok (.iconst 0, 1) := by decide +kernel
theorem dL_law_960 : decode cL_law 960 = .ok (.ireturn, 1) := by decide +kernel
theorem dL_law_961 : decode cL_law 961 = .ok (.aload_n 0, 1) := by decide +kernel
theorem dL_law_962 : decode cL_law 962 = .ok (.bipush 11, 2) := by decide +kernel
theorem dL_law_964 : decode cL_law 964 = .ok (.invokestatic 9, 3) := by decide +kernel
theorem dL_law_967 : decode cL_law 967 = .ok (.bipush 64, 2) := by decide +kernel
theorem dL_law_969 : decode cL_law 969 = .ok (.invokestatic 15, 3) := by decide +kernel
theorem dL_law_972 : decode cL_law 972 = .ok (.istore 17, 2) := by decide +kernel
theorem dL_law_974 : decode cL_law 974 = .ok (.aload_n 1, 1) := by decide +kernel
theorem dL_law_975 : decode cL_law 975 = .ok (.iload 17, 2) := by decide +kernel
theorem dL_law_977 : decode cL_law 977 = .ok (.invokevirtual 99, 3) := by decide +kernel
theorem dL_law_980 : decode cL_law 980 = .ok (.istore 18, 2) := by decide +kernel
theorem dL_law_982 : decode cL_law 982 = .ok (.aload_n 1, 1) := by decide +kernel
theorem dL_law_983 : decode cL_law 983 = .ok (.iload 18, 2) := by decide +kernel
theorem dL_law_985 : decode cL_law 985 = .ok (.invokestatic 84, 3) := by decide +kernel
theorem dL_law_988 : decode cL_law 988 = .ok (.istore 19, 2) := by decide +kernel
theorem dL_law_990 : decode cL_law 990 = .ok (.iconst 0, 1) := by decide +kernel
theorem dL_law_991 : decode cL_law 991 = .ok (.istore 20, 2) := by decide +kernel
theorem dL_law_993 : decode cL_law 993 = .ok (.iconst 0, 1) := by decide +kernel
theorem dL_law_994 : decode cL_law 994 = .ok (.istore 21, 2) := by decide +kernel
theorem dL_law_996 : decode cL_law 996 = .ok (.iconst 0, 1) := by decide +kernel
theorem dL_law_997 : decode cL_law 997 = .ok (.istore 22, 2) := by decide +kernel
theorem dL_law_999 : decode cL_law 999 = .ok (.iload 22, 2) := by decide +kernel
theorem dL_law_1001 : decode cL_law 1001 = .ok (.iload_n 3, 1) := by decide +kernel
theorem dL_law_1002 : decode cL_law 1002 = .ok (.if_icmp .ge 49, 3) := by decide +kernel
theorem dL_law_1005 : decode cL_law 1005 = .ok (.iload 20, 2) := by decide +kernel
theorem dL_law_1007 : decode cL_law 1007 = .ok (.iload 18, 2) := by decide +kernel
theorem dL_law_1009 : decode cL_law 1009 = .ok (.ifCond .lt 22, 3) := by decide +kernel
theorem dL_law_1012 : decode cL_law 1012 = .ok (.iload 19, 2) := by decide +kernel
theorem dL_law_1014 : decode cL_law 1014 = .ok (.iload 22, 2) := by decide +kernel
theorem dL_law_1016 : decode cL_law 1016 = .ok (.ishr, 1) := by decide +kernel
theorem dL_law_1017 : decode cL_law 1017 = .ok (.iconst 1, 1) := by decide +kernel
theorem dL_law_1018 : decode cL_law 1018 = .ok (.iand, 1) := by decide +kernel
theorem dL_law_1019 : decode cL_law 1019 = .ok (.iconst 1, 1) := by decide +kernel
theorem dL_law_1020 : decode cL_law 1020 = .ok (.if_icmp .ne 11, 3) := by decide +kernel
theorem dL_law_1023 : decode cL_law 1023 = .ok (.aload 11, 2) := by decide +kernel
theorem dL_law_1025 : decode cL_law 1025 = .ok (.iload 22, 2) := by decide +kernel
theorem dL_law_1027 : decode cL_law 1027 = .ok (.iaload, 1) := by decide +kernel
theorem dL_law_1028 : decode cL_law 1028 = .ok (.goto 4, 3) := by decide +kernel
theorem dL_law_1031 : decode cL_law 1031 = .ok (.iconst 0, 1) := by decide +kernel
theorem dL_law_1032 : decode cL_law 1032 = .ok (.ior, 1) := by decide +kernel
theorem dL_law_1033 : decode cL_law 1033 = .ok (.istore 20, 2) := by decide +kernel
theorem dL_law_1035 : decode cL_law 1035 = .ok (.iload 21, 2) := by decide +kernel
theorem dL_law_1037 : decode cL_law 1037 = .ok (.aload 11, 2) := by decide +kernel
theorem dL_law_1039 : decode cL_law 1039 = .ok (.iload 22, 2) := by decide +kernel
theorem dL_law_1041 : decode cL_law 1041 = .ok (.iaload, 1) := by decide +kernel
theorem dL_law_1042 : decode cL_law 1042 = .ok (.ior, 1) := by decide +kernel
theorem dL_law_1043 : decode cL_law 1043 = .ok (.istore 21, 2) := by decide +kernel
theorem dL_law_1045 : decode cL_law 1045 = .ok (.iinc 22 1, 3) := by decide +kernel
theorem dL_law_1048 : decode cL_law 1048 = .ok (.goto (-49), 3) := by decide +kernel
theorem dL_law_1051 : decode cL_law 1051 = .ok (.iload 18, 2) := by decide +kernel
theorem dL_law_1053 : decode cL_law 1053 = .ok (.bipush (-9), 2) := by decide +kernel
theorem dL_law_1055 : decode cL_law 1055 = .ok (.if_icmp .ne 7, 3) := by decide +kernel
theorem dL_law_1058 : decode cL_law 1058 = .ok (.iconst 1, 1) := by decide +kernel
theorem dL_law_1059 : decode cL_law 1059 = .ok (.goto 4, 3) := by decide +kernel
theorem dL_law_1062 : decode cL_law 1062 = .ok (.iconst 0, 1) := by decide +kernel
theorem dL_law_1063 : decode cL_law 1063 = .ok (.iload 17, 2) := by decide +kernel
theorem dL_law_1065 : decode cL_law 1065 = .ok (.iload 21, 2) := by decide +kernel
theorem dL_law_1067 : decode cL_law 1067 = .ok (.iconst (-1), 1) := by decide +kernel
theorem dL_law_1068 : decode cL_law 1068 = .ok (.ixor, 1) := by decide +kernel
theorem dL_law_1069 : decode cL_law 1069 = .ok (.iand, 1) := by decide +kernel
theorem dL_law_1070 : decode cL_law 1070 = .ok (.ifCond .eq 7, 3) := by decide +kernel
theorem dL_law_1073 : decode cL_law 1073 = .ok (.iconst 1, 1) := by decide +kernel
theorem dL_law_1074 : decode cL_law 1074 = .ok (.goto 4, 3) := by decide +kernel
theorem dL_law_1077 : decode cL_law 1077 = .ok (.iconst 0, 1) := by decide +kernel
theorem dL_law_1078 : decode cL_law 1078 = .ok (.if_icmp .ne 51, 3) := by decide +kernel
theorem dL_law_1081 : decode cL_law 1081 = .ok (.iload 18, 2) := by decide +kernel
theorem dL_law_1083 : decode cL_law 1083 = .ok (.ifCond .lt 48, 3) := by decide +kernel
theorem dL_law_1086 : decode cL_law 1086 = .ok (.iload 18, 2) := by decide +kernel
theorem dL_law_1088 : decode cL_law 1088 = .ok (.iload 19, 2) := by decide +kernel
theorem dL_law_1090 : decode cL_law 1090 = .ok (.invokestatic 62, 3) := by decide +kernel
theorem dL_law_1093 : decode cL_law 1093 = .ok (.if_icmp .ne 36, 3) := by decide +kernel
theorem dL_law_1096 : decode cL_law 1096 = .ok (.iload 17, 2) := by decide +kernel
theorem dL_law_1098 : decode cL_law 1098 = .ok (.iload 20, 2) := by decide +kernel
theorem dL_law_1100 : decode cL_law 1100 = .ok (.iconst (-1), 1) := by decide +kernel
theorem dL_law_1101 : decode cL_law 1101 = .ok (.ixor, 1) := by decide +kernel
theorem dL_law_1102 : decode cL_law 1102 = .ok (.iand, 1) := by decide +kernel
theorem dL_law_1103 : decode cL_law 1103 = .ok (.ifCond .ne 26, 3) := by decide +kernel
theorem dL_law_1106 : decode cL_law 1106 = .ok (.iload 18, 2) := by decide +kernel
theorem dL_law_1108 : decode cL_law 1108 = .ok (.ifCond .ne 7, 3) := by decide +kernel
theorem dL_law_1111 : decode cL_law 1111 = .ok (.iconst 1, 1) := by decide +kernel
theorem dL_law_1112 : decode cL_law 1112 = .ok (.goto 4, 3) := by decide +kernel
theorem dL_law_1115 : decode cL_law 1115 = .ok (.iconst 0, 1) := by decide +kernel
theorem dL_law_1116 : decode cL_law 1116 = .ok (.iload 17, 2) := by decide +kernel
theorem dL_law_1118 : decode cL_law 1118 = .ok (.ifCond .ne 7, 3) := by decide +kernel
theorem dL_law_1121 : decode cL_law 1121 = .ok (.iconst 1, 1) := by decide +kernel
theorem dL_law_1122 : decode cL_law 1122 = .ok (.goto 4, 3) := by decide +kernel
theorem dL_law_1125 : decode cL_law 1125 = .ok (.iconst 0, 1) := by decide +kernel
theorem dL_law_1126 : decode cL_law 1126 = .ok (.if_icmp .eq 5, 3) := by decide +kernel
theorem dL_law_1129 : decode cL_law 1129 = .ok (.iconst 0, 1) := by decide +kernel
theorem dL_law_1130 : decode cL_law 1130 = .ok (.ireturn, 1) := by decide +kernel
theorem dL_law_1131 : decode cL_law 1131 = .ok (.aload_n 1, 1) := by decide +kernel
theorem dL_law_1132 : decode cL_law 1132 = .ok (.invokevirtual 102, 3) := by decide +kernel
theorem dL_law_1135 : decode cL_law 1135 = .ok (.istore 22, 2) := by decide +kernel
theorem dL_law_1137 : decode cL_law 1137 = .ok (.aload_n 1, 1) := by decide +kernel
theorem dL_law_1138 : decode cL_law 1138 = .ok (.invokevirtual 42, 3) := by decide +kernel
theorem dL_law_1141 : decode cL_law 1141 = .ok (.istore 23, 2) := by decide +kernel
theorem dL_law_1143 : decode cL_law 1143 = .ok (.iconst 0, 1) := by decide +kernel
theorem dL_law_1144 : decode cL_law 1144 = .ok (.istore 24, 2) := by decide +kernel
theorem dL_law_1146 : decode cL_law 1146 = .ok (.iconst 0, 1) := by decide +kernel
theorem dL_law_1147 : decode cL_law 1147 = .ok (.istore 25, 2) := by decide +kernel
theorem dL_law_1149 : decode cL_law 1149 = .ok (.iload 25, 2) := by decide +kernel
theorem dL_law_1151 : decode cL_law 1151 = .ok (.iload_n 3, 1) := by decide +kernel
theorem dL_law_1152 : decode cL_law 1152 = .ok (.if_icmp .ge 109, 3) := by decide +kernel
theorem dL_law_1155 : decode cL_law 1155 = .ok (.iconst 0, 1) := by decide +kernel
theorem dL_law_1156 : decode cL_law 1156 = .ok (.istore 26, 2) := by decide +kernel
theorem dL_law_1158 : decode cL_law 1158 = .ok (.iload 26, 2) := by decide +kernel
theorem dL_law_1160 : decode cL_law 1160 = .ok (.iload 25, 2) := by decide +kernel
theorem dL_law_1162 : decode cL_law 1162 = .ok (.if_icmp .ge 93, 3) := by decide +kernel
theorem dL_law_1165 : decode cL_law 1165 = .ok (.aload_n 1, 1) := by decide +kernel
theorem dL_law_1166 : decode cL_law 1166 = .ok (.iload 25, 2) := by decide +kernel
theorem dL_law_1168 : decode cL_law 1168 = .ok (.iload 26, 2) := by decide +kernel
theorem dL_law_1170 : decode cL_law 1170 = .ok (.invokevirtual 105, 3) := by decide +kernel
theorem dL_law_1173 : decode cL_law 1173 = .ok (.istore 27, 2) := by decide +kernel
theorem dL_law_1175 : decode cL_law 1175 = .ok (.iload 24, 2) := by decide +kernel
theorem dL_law_1177 : decode cL_law 1177 = .ok (.iload 27, 2) := by decide +kernel
theorem dL_law_1179 : decode cL_law 1179 = .ok (.ifCond .ne 7, 3) := by decide +kernel
theorem dL_law_1182 : decode cL_law 1182 = .ok (.iconst 0, 1) := by decide +kernel
theorem dL_law_1183 : decode cL_law 1183 = .ok (.goto 4, 3) := by decide +kernel
theorem dL_law_1186 : decode cL_law 1186 = .ok (.iconst 1, 1) := by decide +kernel
theorem dL_law_1187 : decode cL_law 1187 = .ok (.iadd, 1) := by decide +kernel
theorem dL_law_1188 : decode cL_law 1188 = .ok (.istore 24, 2) := by decide +kernel
theorem dL_law_1190 : decode cL_law 1190 = .ok (.iload 27, 2) := by decide +kernel
theorem dL_law_1192 : decode cL_law 1192 = .ok (.aload_n 1, 1) := by decide +kernel
theorem dL_law_1193 : decode cL_law 1193 = .ok (.iload 26, 2) := by decide +kernel
theorem dL_law_1195 : decode cL_law 1195 = .ok (.iload 25, 2) := by decide +kernel
theorem dL_law_1197 : decode cL_law 1197 = .ok (.invokevirtual 105, 3) := by decide +kernel
theorem dL_law_1200 : decode cL_law 1200 = .ok (.if_icmp .ne 47, 3) := by decide +kernel
theorem dL_law_1203 : decode cL_law 1203 = .ok (.iload 27, 2) := by decide +kernel
theorem dL_law_1205 : decode cL_law 1205 = .ok (.aload 11, 2) := by decide +kernel
theorem dL_law_1207 : decode cL_law 1207 = .ok (.iload 25, 2) := by decide +kernel
theorem dL_law_1209 : decode cL_law 1209 = .ok (.iaload, 1) := by decide +kernel
theorem dL_law_1210 : decode cL_law 1210 = .ok (.aload 11, 2) := by decide +kernel
theorem dL_law_1212 : decode cL_law 1212 = .ok (.iload 26, 2) := by decide +kernel
theorem dL_law_1214 : decode cL_law 1214 = .ok (.iaload, 1) := by decide +kernel
theorem dL_law_1215 : decode cL_law 1215 = .ok (.iand, 1) := by decide +kernel
theorem dL_law_1216 : decode cL_law 1216 = .ok (.iconst (-1), 1) := by decide +kernel
theorem dL_law_1217 : decode cL_law 1217 = .ok (.ixor, 1) := by decide +kernel
theorem dL_law_1218 : decode cL_law 1218 = .ok (.iand, 1) := by decide +kernel
theorem dL_law_1219 : decode cL_law 1219 = .ok (.ifCond .ne 28, 3) := by decide +kernel
theorem dL_law_1222 : decode cL_law 1222 = .ok (.iload 27, 2) := by decide +kernel
theorem dL_law_1224 : decode cL_law 1224 = .ok (.ifCond .eq 25, 3) := by decide +kernel
theorem dL_law_1227 : decode cL_law 1227 = .ok (.iload 23, 2) := by decide +kernel
theorem dL_law_1229 : decode cL_law 1229 = .ok (.iload 25, 2) := by decide +kernel
theorem dL_law_1231 : decode cL_law 1231 = .ok (.ishr, 1) := by decide +kernel
theorem dL_law_1232 : decode cL_law 1232 = .ok (.iconst 1, 1) := by decide +kernel
theorem dL_law_1233 : decode cL_law 1233 = .ok (.iand, 1) := by decide +kernel
theorem dL_law_1234 : decode cL_law 1234 = .ok (.ifCond .ne 15, 3) := by decide +kernel
theorem dL_law_1237 : decode cL_law 1237 = .ok (.iload 23, 2) := by decide +kernel
theorem dL_law_1239 : decode cL_law 1239 = .ok (.iload 26, 2) := by decide +kernel
theorem dL_law_1241 : decode cL_law 1241 = .ok (.ishr, 1) := by decide +kernel
theorem dL_law_1242 : decode cL_law 1242 = .ok (.iconst 1, 1) := by decide +kernel
theorem dL_law_1243 : decode cL_law 1243 = .ok (.iand, 1) := by decide +kernel
theorem dL_law_1244 : decode cL_law 1244 = .ok (.ifCond .ne 5, 3) := by decide +kernel
theorem dL_law_1247 : decode cL_law 1247 = .ok (.iconst 0, 1) := by decide +kernel
theorem dL_law_1248 : decode cL_law 1248 = .ok (.ireturn, 1) := by decide +kernel
theorem dL_law_1249 : decode cL_law 1249 = .ok (.iinc 26 1, 3) := by decide +kernel
theorem dL_law_1252 : decode cL_law 1252 = .ok (.goto (-94), 3) := by decide +kernel
theorem dL_law_1255 : decode cL_law 1255 = .ok (.iinc 25 1, 3) := by decide +kernel
theorem dL_law_1258 : decode cL_law 1258 = .ok (.goto (-109), 3) := by decide +kernel
theorem dL_law_1261 : decode cL_law 1261 = .ok (.iload 22, 2) := by decide +kernel
theorem dL_law_1263 : decode cL_law 1263 = .ok (.iload 23, 2) := by decide +kernel
theorem dL_law_1265 : decode cL_law 1265 = .ok (.invokestatic 62, 3) := by decide +kernel
theorem dL_law_1268 : decode cL_law 1268 = .ok (.if_icmp .ne 32, 3) := by decide +kernel
theorem dL_law_1271 : decode cL_law 1271 = .ok (.iload 22, 2) := by decide +kernel
theorem dL_law_1273 : decode cL_law 1273 = .ok (.iload_n 3, 1) := by decide +kernel
theorem dL_law_1274 : decode cL_law 1274 = .ok (.if_icmp .ge 26, 3) := by decide +kernel
theorem dL_law_1277 : decode cL_law 1277 = .ok (.iload 22, 2) := by decide +kernel
theorem dL_law_1279 : decode cL_law 1279 = .ok (.ifCond .ne 7, 3) := by decide +kernel
theorem dL_law_1282 : decode cL_law 1282 = .ok (.iconst 1, 1) := by decide +kernel
theorem dL_law_1283 : decode cL_law 1283 = .ok (.goto 4, 3) := by decide +kernel
theorem dL_law_1286 : decode cL_law 1286 = .ok (.iconst 0, 1) := by decide +kernel
theorem dL_law_1287 : decode cL_law 1287 = .ok (.iload 24, 2) := by decide +kernel
theorem dL_law_1289 : decode cL_law 1289 = .ok (.ifCond .ne 7, 3) := by decide +kernel
theorem dL_law_1292 : decode cL_law 1292 = .ok (.iconst 1, 1) := by decide +kernel
theorem dL_law_1293 : decode cL_law 1293 = .ok (.goto 4, 3) := by decide +kernel
theorem dL_law_1296 : decode cL_law 1296 = .ok (.iconst 0, 1) := by decide +kernel
theorem dL_law_1297 : decode cL_law 1297 = .ok (.if_icmp .eq 5, 3) := by decide +kernel
theorem dL_law_1300 : decode cL_law 1300 = .ok (.iconst 0, 1) := by decide +kernel
theorem dL_law_1301 : decode cL_law 1301 = .ok (.ireturn, 1) := by decide +kernel
theorem dL_law_1302 : decode cL_law 1302 = .ok (.aload_n 0, 1) := by decide +kernel
theorem dL_law_1303 : decode cL_law 1303 = .ok (.bipush 12, 2) := by decide +kernel
theorem dL_law_1305 : decode cL_law 1305 = .ok (.invokestatic 9, 3) := by decide +kernel
theorem dL_law_1308 : decode cL_law 1308 = .ok (.bipush 9, 2) := by decide +kernel
theorem dL_law_1310 : decode cL_law 1310 = .ok (.invokestatic 15, 3) := by decide +kernel
theorem dL_law_1313 : decode cL_law 1313 = .ok (.istore 25, 2) := by decide +kernel
theorem dL_law_1315 : decode cL_law 1315 = .ok (.aload_n 1, 1) := by decide +kernel
theorem dL_law_1316 : decode cL_law 1316 = .ok (.iconst 3, 1) := by decide +kernel
theorem dL_law_1317 : decode cL_law 1317 = .ok (.iconst 2, 1) := by decide +kernel
theorem dL_law_1318 : decode cL_law 1318 = .ok (.iload 25, 2) := by decide +kernel
theorem dL_law_1320 : decode cL_law 1320 = .ok (.imul, 1) := by decide +kernel
theorem dL_law_1321 : decode cL_law 1321 = .ok (.invokevirtual 108, 3) := by decide +kernel
theorem dL_law_1324 : decode cL_law 1324 = .ok (.iconst 2, 1) := by decide +kernel
theorem dL_law_1325 : decode cL_law 1325 = .ok (.iload 25, 2) := by decide +kernel
theorem dL_law_1327 : decode cL_law 1327 = .ok (.imul, 1) := by decide +kernel
theorem dL_law_1328 : decode cL_law 1328 = .ok (.if_icmp .eq 5, 3) := by decide +kernel
theorem dL_law_1331 : decode cL_law 1331 = .ok (.iconst 0, 1) := by decide +kernel
theorem dL_law_1332 : decode cL_law 1332 = .ok (.ireturn, 1) := by decide +kernel
theorem dL_law_1333 : decode cL_law 1333 = .ok (.iconst 0, 1) := by decide +kernel
theorem dL_law_1334 : decode cL_law 1334 = .ok (.istore 26, 2) := by decide +kernel
theorem dL_law_1336 : decode cL_law 1336 = .ok (.iconst 0, 1) := by decide +kernel
theorem dL_law_1337 : decode cL_law 1337 = .ok (.istore 27, 2) := by decide +kernel
theorem dL_law_1339 : decode cL_law 1339 = .ok (.iload 27, 2) := by decide +kernel
theorem dL_law_1341 : decode cL_law 1341 = .ok (.iload 25, 2) := by decide +kernel
theorem dL_law_1343 : decode cL_law 1343 = .ok (.if_icmp .ge 119, 3) := by decide +kernel
theorem dL_law_1346 : decode cL_law 1346 = .ok (.aload_n 0, 1) := by decide +kernel
theorem dL_law_1347 : decode cL_law 1347 = .ok (.bipush 13, 2) := by decide +kernel
theorem dL_law_1349 : decode cL_law 1349 = .ok (.iload 27, 2) := by decide +kernel
theorem dL_law_1351 : decode cL_law 1351 = .ok (.iadd, 1) := by decide +kernel
theorem dL_law_1352 : decode cL_law 1352 = .ok (.invokestatic 9, 3) := by decide +kernel
theorem dL_law_1355 : decode cL_law 1355 = .ok (.iload_n 3, 1) := by decide +kernel
theorem dL_law_1356 : decode cL_law 1356 = .ok (.invokestatic 15, 3) := by decide +kernel
theorem dL_law_1359 : decode cL_law 1359 = .ok (.istore 28, 2) := by decide +kernel
theorem dL_law_1361 : decode cL_law 1361 = .ok (.aload_n 0, 1) := by decide +kernel
theorem dL_law_1362 : decode cL_law 1362 = .ok (.bipush 13, 2) := by decide +kernel
theorem dL_law_1364 : decode cL_law 1364 = .ok (.iload 27, 2) := by decide +kernel
theorem dL_law_1366 : decode cL_law 1366 = .ok (.iadd, 1) := by decide +kernel
theorem dL_law_1367 : decode cL_law 1367 = .ok (.invokestatic 9, 3) := by decide +kernel
theorem dL_law_1370 : decode cL_law 1370 = .ok (.iconst 3, 1) := by decide +kernel
theorem dL_law_1371 : decode cL_law 1371 = .ok (.ishr, 1) := by decide +kernel
theorem dL_law_1372 : decode cL_law 1372 = .ok (.bipush 6, 2) := by decide +kernel
theorem dL_law_1374 : decode cL_law 1374 = .ok (.invokestatic 15, 3) := by decide +kernel
theorem dL_law_1377 : decode cL_law 1377 = .ok (.istore 29, 2) := by decide +kernel
theorem dL_law_1379 : decode cL_law 1379 = .ok (.aload_n 1, 1) := by decide +kernel
theorem dL_law_1380 : decode cL_law 1380 = .ok (.iload 28, 2) := by decide +kernel
theorem dL_law_1382 : decode cL_law 1382 = .ok (.iload 29, 2) := by decide +kernel
theorem dL_law_1384 : decode cL_law 1384 = .ok (.invokevirtual 72, 3) := by decide +kernel
theorem dL_law_1387 : decode cL_law 1387 = .ok (.istore 30, 2) := by decide +kernel
theorem dL_law_1389 : decode cL_law 1389 = .ok (.iload 26, 2) := by decide +kernel
theorem dL_law_1391 : decode cL_law 1391 = .ok (.iload 30, 2) := by decide +kernel
theorem dL_law_1393 : decode cL_law 1393 = .ok (.ifCond .lt 10, 3) := by decide +kernel
theorem dL_law_1396 : decode cL_law 1396 = .ok (.iconst 1, 1) := by decide +kernel
theorem dL_law_1397 : decode cL_law 1397 = .ok (.iload 28, 2) := by decide +kernel
theorem dL_law_1399 : decode cL_law 1399 = .ok (.ishl, 1) := by decide +kernel
theorem dL_law_1400 : decode cL_law 1400 = .ok (.goto 4, 3) := by decide +kernel
theorem dL_law_1403 : decode cL_law 1403 = .ok (.iconst 0, 1) := by decide +kernel
theorem dL_law_1404 : decode cL_law 1404 = .ok (.ior, 1) := by decide +kernel
theorem dL_law_1405 : decode cL_law 1405 = .ok (.istore 26, 2) := by decide +kernel
theorem dL_law_1407 : decode cL_law 1407 = .ok (.aload_n 1, 1) := by decide +kernel
theorem dL_law_1408 : decode cL_law 1408 = .ok (.iconst 3, 1) := by decide +kernel
theorem dL_law_1409 : decode cL_law 1409 = .ok (.iconst 2, 1) := by decide +kernel
theorem dL_law_1410 : decode cL_law 1410 = .ok (.iload 27, 2) := by decide +kernel
theorem dL_law_1412 : decode cL_law 1412 = .ok (.imul, 1) := by decide +kernel
theorem dL_law_1413 : decode cL_law 1413 = .ok (.bipush 8, 2) := by decide +kernel
theorem dL_law_1415 : decode cL_law 1415 = .ok (.iload 28, 2) := by decide +kernel
theorem dL_law_1417 : decode cL_law 1417 = .ok (.imul, 1) := by decide +kernel
theorem dL_law_1418 : decode cL_law 1418 = .ok (.iload 29, 2) := by decide +kernel
theorem dL_law_1420 : decode cL_law 1420 = .ok (.iadd, 1) := by decide +kernel
theorem dL_law_1421 : decode cL_law 1421 = .ok (.invokevirtual 111, 3) := by decide +kernel
theorem dL_law_1424 : decode cL_law 1424 = .ok (.iconst 1, 1) := by decide +kernel
theorem dL_law_1425 : decode cL_law 1425 = .ok (.if_icmp .ne 29, 3) := by decide +kernel
theorem dL_law_1428 : decode cL_law 1428 = .ok (.aload_n 1, 1) := by decide +kernel
theorem dL_law_1429 : decode cL_law 1429 = .ok (.iconst 3, 1) := by decide +kernel
theorem dL_law_1430 : decode cL_law 1430 = .ok (.iconst 2, 1) := by decide +kernel
theorem dL_law_1431 : decode cL_law 1431 = .ok (.iload 27, 2) := by decide +kernel
theorem dL_law_1433 : decode cL_law 1433 = .ok (.imul, 1) := by decide +kernel
theorem dL_law_1434 : decode cL_law 1434 = .ok (.iconst 1, 1) := by decide +kernel
theorem dL_law_1435 : decode cL_law 1435 = .ok (.iadd, 1) := by decide +kernel
theorem dL_law_1436 : decode cL_law 1436 = .ok (.iload 30, 2) := by decide +kernel
theorem dL_law_1438 : decode cL_law 1438 = .ok (.ifCond .ge 7, 3) := by decide +kernel
theorem dL_law_1441 : decode cL_law 1441 = .ok (.iconst 2, 1) := by decide +kernel
theorem dL_law_1442 : decode cL_law 1442 = .ok (.goto 5, 3) := by decide +kernel
theorem dL_law_1445 : decode cL_law 1445 = .ok (.iload 30, 2) := by decide +kernel
theorem dL_law_1447 : decode cL_law 1447 = .ok (.invokevirtual 111, 3) := by decide +kernel
theorem dL_law_1450 : decode cL_law 1450 = .ok (.iconst 1, 1) := by decide +kernel
theorem dL_law_1451 : decode cL_law 1451 = .ok (.if_icmp .eq 5, 3) := by decide +kernel
theorem dL_law_1454 : decode cL_law 1454 = .ok (.iconst 0, 1) := by decide +kernel
theorem dL_law_1455 : decode cL_law 1455 = .ok (.ireturn, 1) := by decide +kernel
theorem dL_law_1456 : decode cL_law 1456 = .ok (.iinc 27 1, 3) := by decide +kernel
theorem dL_law_1459 : decode cL_law 1459 = .ok (.goto (-120), 3) := by decide +kernel
theorem dL_law_1462 : decode cL_law 1462 = .ok (.aload_n 1, 1) := by decide +kernel
theorem dL_law_1463 : decode cL_law 1463 = .ok (.iconst 3, 1) := by decide +kernel
theorem dL_law_1464 : decode cL_law 1464 = .ok (.invokevirtual 113, 3) := by decide +kernel
theorem dL_law_1467 : decode cL_law 1467 = .ok (.iconst 1, 1) := by decide +kernel
theorem dL_law_1468 : decode cL_law 1468 = .ok (.if_icmp .ne 32, 3) := by decide +kernel
theorem dL_law_1471 : decode cL_law 1471 = .ok (.aload_n 1, 1) := by decide +kernel
theorem dL_law_1472 : decode cL_law 1472 = .ok (.invokevirtual 116, 3) := by decide +kernel
theorem dL_law_1475 : decode cL_law 1475 = .ok (.lconst 1, 1) := by decide +kernel
theorem dL_law_1476 : decode cL_law 1476 = .ok (.lcmp, 1) := by decide +kernel
theorem dL_law_1477 : decode cL_law 1477 = .ok (.ifCond .lt 23, 3) := by decide +kernel
theorem dL_law_1480 : decode cL_law 1480 = .ok (.aload_n 1, 1) := by decide +kernel
theorem dL_law_1481 : decode cL_law 1481 = .ok (.invokevirtual 116, 3) := by decide +kernel
theorem dL_law_1484 : decode cL_law 1484 = .ok (.ldc2_w 120, 3) := by decide +kernel
theorem dL_law_1487 : decode cL_law 1487 = .ok (.lcmp, 1) := by decide +kernel
theorem dL_law_1488 : decode cL_law 1488 = .ok (.ifCond .gt 12, 3) := by decide +kernel
theorem dL_law_1491 : decode cL_law 1491 = .ok (.aload_n 1, 1) := by decide +kernel
theorem dL_law_1492 : decode cL_law 1492 = .ok (.invokevirtual 42, 3) := by decide +kernel
theorem dL_law_1495 : decode cL_law 1495 = .ok (.iload 6, 2) := by decide +kernel
theorem dL_law_1497 : decode cL_law 1497 = .ok (.if_icmp .le 5, 3) := by decide +kernel
theorem dL_law_1500 : decode cL_law 1500 = .ok (.iconst 0, 1) := by decide +kernel
theorem dL_law_1501 : decode cL_law 1501 = .ok (.ireturn, 1) := by decide +kernel
theorem dL_law_1502 : decode cL_law 1502 = .ok (.aload_n 1, 1) := by decide +kernel
theorem dL_law_1503 : decode cL_law 1503 = .ok (.invokevirtual 116, 3) := by decide +kernel
theorem dL_law_1506 : decode cL_law 1506 = .ok (.lstore 27, 2) := by decide +kernel
theorem dL_law_1508 : decode cL_law 1508 = .ok (.aload_n 1, 1) := by decide +kernel
theorem dL_law_1509 : decode cL_law 1509 = .ok (.iconst 3, 1) := by decide +kernel
theorem dL_law_1510 : decode cL_law 1510 = .ok (.invokevirtual 122, 3) := by decide +kernel
theorem dL_law_1513 : decode cL_law 1513 = .ok (.istore 29, 2) := by decide +kernel
theorem dL_law_1515 : decode cL_law 1515 = .ok (.aload_n 1, 1) := by decide +kernel
theorem dL_law_1516 : decode cL_law 1516 = .ok (.invokevirtual 42, 3) := by decide +kernel
theorem dL_law_1519 : decode cL_law 1519 = .ok (.istore 30, 2) := by decide +kernel
theorem dL_law_1521 : decode cL_law 1521 = .ok (.aload_n 1, 1) := by decide +kernel
theorem dL_law_1522 : decode cL_law 1522 = .ok (.iconst 3, 1) := by decide +kernel
theorem dL_law_1523 : decode cL_law 1523 = .ok (.invokevirtual 125, 3) := by decide +kernel
theorem dL_law_1526 : decode cL_law 1526 = .ok (.istore 31, 2) := by decide +kernel
theorem dL_law_1528 : decode cL_law 1528 = .ok (.aload_n 1, 1) := by decide +kernel
theorem dL_law_1529 : decode cL_law 1529 = .ok (.invokevirtual 42, 3) := by decide +kernel
theorem dL_law_1532 : decode cL_law 1532 = .ok (.istore 32, 2) := by decide +kernel
theorem dL_law_1534 : decode cL_law 1534 = .ok (.aload_n 1, 1) := by decide +kernel
theorem dL_law_1535 : decode cL_law 1535 = .ok (.iconst 3, 1) := by decide +kernel
theorem dL_law_1536 : decode cL_law 1536 = .ok (.invokevirtual 128, 3) := by decide +kernel
theorem dL_law_1539 : decode cL_law 1539 = .ok (.istore 33, 2) := by decide +kernel
theorem dL_law_1541 : decode cL_law 1541 = .ok (.aload_n 1, 1) := by decide +kernel
theorem dL_law_1542 : decode cL_law 1542 = .ok (.invokevirtual 42, 3) := by decide +kernel
theorem dL_law_1545 : decode cL_law 1545 = .ok (.istore 34, 2) := by decide +kernel
theorem dL_law_1547 : decode cL_law 1547 = .ok (.iload 29, 2) := by decide +kernel
theorem dL_law_1549 : decode cL_law 1549 = .ok (.iload 6, 2) := by decide +kernel
theorem dL_law_1551 : decode cL_law 1551 = .ok (.iconst (-1), 1) := by decide +kernel
theorem dL_law_1552 : decode cL_law 1552 = .ok (.ixor, 1) := by decide +kernel
theorem dL_law_1553 : decode cL_law 1553 = .ok (.iand, 1) := by decide +kernel
theorem dL_law_1554 : decode cL_law 1554 = .ok (.ifCond .ne 87, 3) := by decide +kernel
theorem dL_law_1557 : decode cL_law 1557 = .ok (.iload 30, 2) := by decide +kernel
theorem dL_law_1559 : decode cL_law 1559 = .ok (.iload 6, 2) := by decide +kernel
theorem dL_law_1561 : decode cL_law 1561 = .ok (.iand, 1) := by decide +kernel
theorem dL_law_1562 : decode cL_law 1562 = .ok (.ifCond .ne 79, 3) := by decide +kernel
theorem dL_law_1565 : decode cL_law 1565 = .ok (.iload 31, 2) := by decide +kernel
theorem dL_law_1567 : decode cL_law 1567 = .ok (.ifCond .lt 74, 3) := by decide +kernel
theorem dL_law_1570 : decode cL_law 1570 = .ok (.iload 31, 2) := by decide +kernel
theorem dL_law_1572 : decode cL_law 1572 = .ok (.bipush 8, 2) := by decide +kernel
theorem dL_law_1574 : decode cL_law 1574 = .ok (.iload_n 3, 1) := by decide +kernel
theorem dL_law_1575 : decode cL_law 1575 = .ok (.imul, 1) := by decide +kernel
theorem dL_law_1576 : decode cL_law 1576 = .ok (.if_icmp .ge 65, 3) := by decide +kernel
theorem dL_law_1579 : decode cL_law 1579 = .ok (.iload 31, 2) := by decide +kernel
theorem dL_law_1581 : decode cL_law 1581 = .ok (.bipush 8, 2) := by decide +kernel
theorem dL_law_1583 : decode cL_law 1583 = .ok (.irem, 1) := by decide +kernel
theorem dL_law_1584 : decode cL_law 1584 = .ok (.iconst 5, 1) := by decide +kernel
theorem dL_law_1585 : decode cL_law 1585 = .ok (.if_icmp .gt 56, 3) := by decide +kernel
theorem dL_law_1588 : decode cL_law 1588 = .ok (.iload 32, 2) := by decide +kernel
theorem dL_law_1590 : decode cL_law 1590 = .ok (.iconst 1, 1) := by decide +kernel
theorem dL_law_1591 : decode cL_law 1591 = .ok (.if_icmp .lt 50, 3) := by decide +kernel
theorem dL_law_1594 : decode cL_law 1594 = .ok (.iload 32, 2) := by decide +kernel
theorem dL_law_1596 : decode cL_law 1596 = .ok (.i2l, 1) := by decide +kernel
theorem dL_law_1597 : decode cL_law 1597 = .ok (.lload 27, 2) := by decide +kernel
theorem dL_law_1599 : decode cL_law 1599 = .ok (.lcmp, 1) := by decide +kernel
theorem dL_law_1600 : decode cL_law 1600 = .ok (.ifCond .gt 41, 3) := by decide +kernel
theorem dL_law_1603 : decode cL_law 1603 = .ok (.ldc2_w 131, 3) := by decide +kernel
theorem dL_law_1606 : decode cL_law 1606 = .ok (.iload 32, 2) := by decide +kernel
theorem dL_law_1608 : decode cL_law 1608 = .ok (.i2l, 1) := by decide +kernel
theorem dL_law_1609 : decode cL_law 1609 = .ok (.lmul, 1) := by decide +kernel
theorem dL_law_1610 : decode cL_law 1610 = .ok (.lload 27, 2) := by decide +kernel
theorem dL_law_1612 : decode cL_law 1612 = .ok (.lcmp, 1) := by decide +kernel
theorem dL_law_1613 : decode cL_law 1613 = .ok (.ifCond .lt 28, 3) := by decide +kernel
theorem dL_law_1616 : decode cL_law 1616 = .ok (.iload 33, 2) := by decide +kernel
theorem dL_law_1618 : decode cL_law 1618 = .ok (.iload 7, 2) := by decide +kernel
theorem dL_law_1620 : decode cL_law 1620 = .ok (.iconst (-1), 1) := by decide +kernel
theorem dL_law_1621 : decode cL_law 1621 = .ok (.ixor, 1) := by decide +kernel
theorem dL_law_1622 : decode cL_law 1622 = .ok (.iand, 1) := by decide +kernel
theorem dL_law_1623 : decode cL_law 1623 = .ok (.ifCond .ne 18, 3) := by decide +kernel
theorem dL_law_1626 : decode cL_law 1626 = .ok (.iload 34, 2) := by decide +kernel
theorem dL_law_1628 : decode cL_law 1628 = .ok (.iload 26, 2) := by decide +kernel
theorem dL_law_1630 : decode cL_law 1630 = .ok (.if_icmp .ne 11, 3) := by decide +kernel
theorem dL_law_1633 : decode cL_law 1633 = .ok (.iload 33, 2) := by decide +kernel
theorem dL_law_1635 : decode cL_law 1635 = .ok (.iload 34, 2) := by decide +kernel
theorem dL_law_1637 : decode cL_law 1637 = .ok (.iand, 1) := by decide +kernel
theorem dL_law_1638 : decode cL_law 1638 = .ok (.ifCond .eq 5, 3) := by decide +kernel
theorem dL_law_1641 : decode cL_law 1641 = .ok (.iconst 0, 1) := by decide +kernel
theorem dL_law_1642 : decode cL_law 1642 = .ok (.ireturn, 1) := by decide +kernel
theorem dL_law_1643 : decode cL_law 1643 = .ok (.iconst 0, 1) := by decide +kernel
theorem dL_law_1644 : decode cL_law 1644 = .ok (.istore 35, 2) := by decide +kernel
theorem dL_law_1646 : decode cL_law 1646 = .ok (.iload 35, 2) := by decide +kernel
theorem dL_law_1648 : decode cL_law 1648 = .ok (.iload_n 3, 1) := by decide +kernel
theorem dL_law_1649 : decode cL_law 1649 = .ok (.if_icmp .ge 31, 3) := by decide +kernel
theorem dL_law_1652 : decode cL_law 1652 = .ok (.aload_n 1, 1) := by decide +kernel
theorem dL_law_1653 : decode cL_law 1653 = .ok (.iload 35, 2) := by decide +kernel
theorem dL_law_1655 : decode cL_law 1655 = .ok (.iconst 3, 1) := by decide +kernel
theorem dL_law_1656 : decode cL_law 1656 = .ok (.invokevirtual 133, 3) := by decide +kernel
theorem dL_law_1659 : decode cL_law 1659 = .ok (.aload_n 2, 1) := by decide +kernel
theorem dL_law_1660 : decode cL_law 1660 = .ok (.iconst 2, 1) := by decide +kernel
theorem dL_law_1661 : decode cL_law 1661 = .ok (.iload 35, 2) := by decide +kernel
theorem dL_law_1663 : decode cL_law 1663 = .ok (.iadd, 1) := by decide +kernel
theorem dL_law_1664 : decode cL_law 1664 = .ok (.iaload, 1) := by decide +kernel
theorem dL_law_1665 : decode cL_law 1665 = .ok (.ishr, 1) := by decide +kernel
theorem dL_law_1666 : decode cL_law 1666 = .ok (.iconst 1, 1) := by decide +kernel
theorem dL_law_1667 : decode cL_law 1667 = .ok (.iand, 1) := by decide +kernel
theorem dL_law_1668 : decode cL_law 1668 = .ok (.iconst 1, 1) := by decide +kernel
theorem dL_law_1669 : decode cL_law 1669 = .ok (.if_icmp .eq 5, 3) := by decide +kernel
theorem dL_law_1672 : decode cL_law 1672 = .ok (.iconst 0, 1) := by decide +kernel
theorem dL_law_1673 : decode cL_law 1673 = .ok (.ireturn, 1) := by decide +kernel
theorem dL_law_1674 : decode cL_law 1674 = .ok (.iinc 35 1, 3) := by decide +kernel
theorem dL_law_1677 : decode cL_law 1677 = .ok (.goto (-31), 3) := by decide +kernel
theorem dL_law_1680 : decode cL_law 1680 = .ok (.aload_n 0, 1) := by decide +kernel
theorem dL_law_1681 : decode cL_law 1681 = .ok (.bipush 21, 2) := by decide +kernel
theorem dL_law_1683 : decode cL_law 1683 = .ok (.invokestatic 9, 3) := by decide +kernel
theorem dL_law_1686 : decode cL_law 1686 = .ok (.bipush 13, 2) := by decide +kernel
theorem dL_law_1688 : decode cL_law 1688 = .ok (.invokestatic 15, 3) := by decide +kernel
theorem dL_law_1691 : decode cL_law 1691 = .ok (.istore 35, 2) := by decide +kernel
theorem dL_law_1693 : decode cL_law 1693 = .ok (.iload 8, 2) := by decide +kernel
theorem dL_law_1695 : decode cL_law 1695 = .ok (.invokestatic 62, 3) := by decide +kernel
theorem dL_law_1698 : decode cL_law 1698 = .ok (.istore 36, 2) := by decide +kernel
theorem dL_law_1700 : decode cL_law 1700 = .ok (.aload_n 1, 1) := by decide +kernel
theorem dL_law_1701 : decode cL_law 1701 = .ok (.iload 12, 2) := by decide +kernel
theorem dL_law_1703 : decode cL_law 1703 = .ok (.iconst 0, 1) := by decide +kernel
theorem dL_law_1704 : decode cL_law 1704 = .ok (.invokevirtual 78, 3) := by decide +kernel
theorem dL_law_1707 : decode cL_law 1707 = .ok (.iconst 1, 1) := by decide +kernel
theorem dL_law_1708 : decode cL_law 1708 = .ok (.if_icmp .ne 10, 3) := by decide +kernel
theorem dL_law_1711 : decode cL_law 1711 = .ok (.aload_n 1, 1) := by decide +kernel
theorem dL_law_1712 : decode cL_law 1712 = .ok (.invokevirtual 42, 3) := by decide +kernel
theorem dL_law_1715 : decode cL_law 1715 = .ok (.goto 5, 3) := by decide +kernel
theorem dL_law_1718 : decode cL_law 1718 = .ok (.bipush (-100), 2) := by decide +kernel
theorem dL_law_1720 : decode cL_law 1720 = .ok (.istore 37, 2) := by decide +kernel
theorem dL_law_1722 : decode cL_law 1722 = .ok (.aload_n 1, 1) := by decide +kernel
theorem dL_law_1723 : decode cL_law 1723 = .ok (.iload 12, 2) := by decide +kernel
theorem dL_law_1725 : decode cL_law 1725 = .ok (.iconst 1, 1) := by decide +kernel
theorem dL_law_1726 : decode cL_law 1726 = .ok (.invokevirtual 78, 3) := by decide +kernel
theorem dL_law_1729 : decode cL_law 1729 = .ok (.iconst 1, 1) := by decide +kernel
theorem dL_law_1730 : decode cL_law 1730 = .ok (.if_icmp .ne 10, 3) := by decide +kernel
theorem dL_law_1733 : decode cL_law 1733 = .ok (.aload_n 1, 1) := by decide +kernel
theorem dL_law_1734 : decode cL_law 1734 = .ok (.invokevirtual 42, 3) := by decide +kernel
theorem dL_law_1737 : decode cL_law 1737 = .ok (.goto 5, 3) := by decide +kernel
theorem dL_law_1740 : decode cL_law 1740 = .ok (.bipush (-100), 2) := by decide +kernel
theorem dL_law_1742 : decode cL_law 1742 = .ok (.istore 38, 2) := by decide +kernel
theorem dL_law_1744 : decode cL_law 1744 = .ok (.iload 38, 2) := by decide +kernel
theorem dL_law_1746 : decode cL_law 1746 = .ok (.iload 37, 2) := by decide +kernel
theorem dL_law_1748 : decode cL_law 1748 = .ok (.iconst 2, 1) := by decide +kernel
theorem dL_law_1749 : decode cL_law 1749 = .ok (.iadd, 1) := by decide +kernel
theorem dL_law_1750 : decode cL_law 1750 = .ok (.if_icmp .gt 157, 3) := by decide +kernel
theorem dL_law_1753 : decode cL_law 1753 = .ok (.iload 38, 2) := by decide +kernel
theorem dL_law_1755 : decode cL_law 1755 = .ok (.iload 37, 2) := by decide +kernel
theorem dL_law_1757 : decode cL_law 1757 = .ok (.iconst 2, 1) := by decide +kernel
theorem dL_law_1758 : decode cL_law 1758 = .ok (.isub, 1) := by decide +kernel
theorem dL_law_1759 : decode cL_law 1759 = .ok (.if_icmp .lt 148, 3) := by decide +kernel
theorem dL_law_1762 : decode cL_law 1762 = .ok (.aload_n 1, 1) := by decide +kernel
theorem dL_law_1763 : decode cL_law 1763 = .ok (.iload 12, 2) := by decide +kernel
theorem dL_law_1765 : decode cL_law 1765 = .ok (.iconst 0, 1) := by decide +kernel
theorem dL_law_1766 : decode cL_law 1766 = .ok (.invokevirtual 136, 3) := by decide +kernel
theorem dL_law_1769 : decode cL_law 1769 = .ok (.iconst 1, 1) := by decide +kernel
theorem dL_law_1770 : decode cL_law 1770 = .ok (.if_icmp .ne 137, 3) := by decide +kernel
theorem dL_law_1773 : decode cL_law 1773 = .ok (.aload_n 1, 1) := by decide +kernel
theorem dL_law_1774 : decode cL_law 1774 = .ok (.invokevirtual 116, 3) := by decide +kernel
theorem dL_law_1777 : decode cL_law 1777 = .ok (.iload 8, 2) := by decide +kernel
theorem dL_law_1779 : decode cL_law 1779 = .ok (.iload 12, 2) := by decide +kernel
theorem dL_law_1781 : decode cL_law 1781 = .ok (.ishr, 1) := by decide +kernel
theorem dL_law_1782 : decode cL_law 1782 = .ok (.iconst 1, 1) := by decide +kernel
theorem dL_law_1783 : decode cL_law 1783 = .ok (.iand, 1) := by decide +kernel
theorem dL_law_1784 : decode cL_law 1784 = .ok (.i2l, 1) := by decide +kernel
theorem dL_law_1785 : decode cL_law 1785 = .ok (.lcmp, 1) := by decide +kernel
theorem dL_law_1786 : decode cL_law 1786 = .ok (.ifCond .ne 121, 3) := by decide +kernel
theorem dL_law_1789 : decode cL_law 1789 = .ok (.aload_n 1, 1) := by decide +kernel
theorem dL_law_1790 : decode cL_law 1790 = .ok (.invokevirtual 139, 3) := by decide +kernel
theorem dL_law_1793 : decode cL_law 1793 = .ok (.lconst 1, 1) := by decide +kernel
theorem dL_law_1794 : decode cL_law 1794 = .ok (.lcmp, 1) := by decide +kernel
theorem dL_law_1795 : decode cL_law 1795 = .ok (.ifCond .ne 112, 3) := by decide +kernel
theorem dL_law_1798 : decode cL_law 1798 = .ok (.aload_n 1, 1) := by decide +kernel
theorem dL_law_1799 : decode cL_law 1799 = .ok (.iload 12, 2) := by decide +kernel
theorem dL_law_1801 : decode cL_law 1801 = .ok (.bipush 12, 2) := by decide +kernel
theorem dL_law_1803 : decode cL_law 1803 = .ok (.invokevirtual 136, 3) := by decide +kernel
theorem dL_law_1806 : decode cL_law 1806 = .ok (.iconst 1, 1) := by decide +kernel
theorem dL_law_1807 : decode cL_law 1807 = .ok (.if_icmp .ne 100, 3) := by decide +kernel
theorem dL_law_1810 : decode cL_law 1810 = .ok (.aload_n 1, 1) := by decide +kernel
theorem dL_law_1811 : decode cL_law 1811 = .ok (.invokevirtual 116, 3) := by decide +kernel
theorem dL_law_1814 : decode cL_law 1814 = .ok (.lconst 0, 1) := by decide +kernel
theorem dL_law_1815 : decode cL_law 1815 = .ok (.lcmp, 1) := by decide +kernel
theorem dL_law_1816 : decode cL_law 1816 = .ok (.ifCond .ne 91, 3) := by decide +kernel
theorem dL_law_1819 : decode cL_law 1819 = .ok (.aload_n 1, 1) := by decide +kernel
theorem dL_law_1820 : decode cL_law 1820 = .ok (.iload 12, 2) := by decide +kernel
theorem dL_law_1822 : decode cL_law 1822 = .ok (.iload 35, 2) := by decide +kernel
theorem dL_law_1824 : decode cL_law 1824 = .ok (.invokevirtual 136, 3) := by decide +kernel
theorem dL_law_1827 : decode cL_law 1827 = .ok (.iconst 1, 1) := by decide +kernel
theorem dL_law_1828 : decode cL_law 1828 = .ok (.if_icmp .ne 79, 3) := by decide +kernel
theorem dL_law_1831 : decode cL_law 1831 = .ok (.aload_n 1, 1) := by decide +kernel
theorem dL_law_1832 : decode cL_law 1832 = .ok (.invokevirtual 116, 3) := by decide +kernel
theorem dL_law_1835 : decode cL_law 1835 = .ok (.lconst 0, 1) := by decide +kernel
theorem dL_law_1836 : decode cL_law 1836 = .ok (.lcmp, 1) := by decide +kernel
theorem dL_law_1837 : decode cL_law 1837 = .ok (.ifCond .lt 70, 3) := by decide +kernel
theorem dL_law_1840 : decode cL_law 1840 = .ok (.aload_n 1, 1) := by decide +kernel
theorem dL_law_1841 : decode cL_law 1841 = .ok (.invokevirtual 116, 3) := by decide +kernel
theorem dL_law_1844 : decode cL_law 1844 = .ok (.aload_n 1, 1) := by decide +kernel
theorem dL_law_1845 : decode cL_law 1845 = .ok (.invokevirtual 139, 3) := by decide +kernel
theorem dL_law_1848 : decode cL_law 1848 = .ok (.lcmp, 1) := by decide +kernel
theorem dL_law_1849 : decode cL_law 1849 = .ok (.ifCond .gt 58, 3) := by decide +kernel
theorem dL_law_1852 : decode cL_law 1852 = .ok (.aload_n 1, 1) := by decide +kernel
theorem dL_law_1853 : decode cL_law 1853 = .ok (.iconst 0, 1) := by decide +kernel
theorem dL_law_1854 : decode cL_law 1854 = .ok (.invokevirtual 142, 3) := by decide +kernel
theorem dL_law_1857 : decode cL_law 1857 = .ok (.iconst 1, 1) := by decide +kernel
theorem dL_law_1858 : decode cL_law 1858 = .ok (.if_icmp .ne 49, 3) := by decide +kernel
theorem dL_law_1861 : decode cL_law 1861 = .ok (.aload_n 1, 1) := by decide +kernel
theorem dL_law_1862 : decode cL_law 1862 = .ok (.invokevirtual 116, 3) := by decide +kernel
theorem dL_law_1865 : decode cL_law 1865 = .ok (.iload 36, 2) := by decide +kernel
theorem dL_law_1867 : decode cL_law 1867 = .ok (.i2l, 1) := by decide +kernel
theorem dL_law_1868 : decode cL_law 1868 = .ok (.lcmp, 1) := by decide +kernel
theorem dL_law_1869 : decode cL_law 1869 = .ok (.ifCond .ne 38, 3) := by decide +kernel
theorem dL_law_1872 : decode cL_law 1872 = .ok (.aload_n 1, 1) := by decide +kernel
theorem dL_law_1873 : decode cL_law 1873 = .ok (.iload 35, 2) := by decide +kernel
theorem dL_law_1875 : decode cL_law 1875 = .ok (.invokevirtual 142, 3) := by decide +kernel
theorem dL_law_1878 : decode cL_law 1878 = .ok (.iconst 1, 1) := by decide +kernel
theorem dL_law_1879 : decode cL_law 1879 = .ok (.if_icmp .ne 28, 3) := by decide +kernel
theorem dL_law_1882 : decode cL_law 1882 = .ok (.aload_n 1, 1) := by decide +kernel
theorem dL_law_1883 : decode cL_law 1883 = .ok (.invokevirtual 116, 3) := by decide +kernel
theorem dL_law_1886 : decode cL_law 1886 = .ok (.ldc2_w 145, 3) := by decide +kernel
theorem dL_law_1889 : decode cL_law 1889 = .ok (.aload_n 1, 1) := by decide +kernel
theorem dL_law_1890 : decode cL_law 1890 = .ok (.invokevirtual 139, 3) := by decide +kernel
theorem dL_law_1893 : decode cL_law 1893 = .ok (.lmul, 1) := by decide +kernel
theorem dL_law_1894 : decode cL_law 1894 = .ok (.lcmp, 1) := by decide +kernel
theorem dL_law_1895 : decode cL_law 1895 = .ok (.ifCond .gt 12, 3) := by decide +kernel
theorem dL_law_1898 : decode cL_law 1898 = .ok (.aload_n 1, 1) := by decide +kernel
theorem dL_law_1899 : decode cL_law 1899 = .ok (.invokevirtual 116, 3) := by decide +kernel
theorem dL_law_1902 : decode cL_law 1902 = .ok (.lconst 0, 1) := by decide +kernel
theorem dL_law_1903 : decode cL_law 1903 = .ok (.lcmp, 1) := by decide +kernel
theorem dL_law_1904 : decode cL_law 1904 = .ok (.ifCond .ge 5, 3) := by decide +kernel
theorem dL_law_1907 : decode cL_law 1907 = .ok (.iconst 0, 1) := by decide +kernel
theorem dL_law_1908 : decode cL_law 1908 = .ok (.ireturn, 1) := by decide +kernel
theorem dL_law_1909 : decode cL_law 1909 = .ok (.aload_n 0, 1) := by decide +kernel
theorem dL_law_1910 : decode cL_law 1910 = .ok (.bipush 22, 2) := by decide +kernel
theorem dL_law_1912 : decode cL_law 1912 = .ok (.invokestatic 9, 3) := by decide +kernel
theorem dL_law_1915 : decode cL_law 1915 = .ok (.bipush 15, 2) := by decide +kernel
theorem dL_law_1917 : decode cL_law 1917 = .ok (.invokestatic 15, 3) := by decide +kernel
theorem dL_law_1920 : decode cL_law 1920 = .ok (.istore 39, 2) := by decide +kernel
theorem dL_law_1922 : decode cL_law 1922 = .ok (.bipush 16, 2) := by decide +kernel
theorem dL_law_1924 : decode cL_law 1924 = .ok (.newarray .int, 2) := by decide +kernel
theorem dL_law_1926 : decode cL_law 1926 = .ok (.astore 40, 2) := by decide +kernel
theorem dL_law_1928 : decode cL_law 1928 = .ok (.bipush 16, 2) := by decide +kernel
theorem dL_law_1930 : decode cL_law 1930 = .ok (.newarray .int, 2) := by decide +kernel
theorem dL_law_1932 : decode cL_law 1932 = .ok (.astore 41, 2) := by decide +kernel
theorem dL_law_1934 : decode cL_law 1934 = .ok (.iconst 0, 1) := by decide +kernel
theorem dL_law_1935 : decode cL_law 1935 = .ok (.istore 42, 2) := by decide +kernel
theorem dL_law_1937 : decode cL_law 1937 = .ok (.aload 40, 2) := by decide +kernel
theorem dL_law_1939 : decode cL_law 1939 = .ok (.iconst 0, 1) := by decide +kernel
theorem dL_law_1940 : decode cL_law 1940 = .ok (.iload 9, 2) := by decide +kernel
theorem dL_law_1942 : decode cL_law 1942 = .ok (.iastore, 1) := by decide +kernel
theorem dL_law_1943 : decode cL_law 1943 = .ok (.aload 41, 2) := by decide +kernel
theorem dL_law_1945 : decode cL_law 1945 = .ok (.iconst 0, 1) := by decide +kernel
theorem dL_law_1946 : decode cL_law 1946 = .ok (.iload 7, 2) := by decide +kernel
theorem dL_law_1948 : decode cL_law 1948 = .ok (.iastore, 1) := by decide +kernel
theorem dL_law_1949 : decode cL_law 1949 = .ok (.iconst 0, 1) := by decide +kernel
theorem dL_law_1950 : decode cL_law 1950 = .ok (.istore 43, 2) := by decide +kernel
theorem dL_law_1952 : decode cL_law 1952 = .ok (.iload 43, 2) := by decide +kernel
theorem dL_law_1954 : decode cL_law 1954 = .ok (.iload 39, 2) := by decide +kernel
theorem dL_law_1956 : decode cL_law 1956 = .ok (.if_icmp .ge 154, 3) := by decide +kernel
theorem dL_law_1959 : decode cL_law 1959 = .ok (.aload_n 0, 1) := by decide +kernel
theorem dL_law_1960 : decode cL_law 1960 = .ok (.bipush 23, 2) := by decide +kernel
theorem dL_law_1962 : decode cL_law 1962 = .ok (.iload 43, 2) := by decide +kernel
theorem dL_law_1964 : decode cL_law 1964 = .ok (.iadd, 1) := by decide +kernel
theorem dL_law_1965 : decode cL_law 1965 = .ok (.invokestatic 9, 3) := by decide +kernel
theorem dL_law_1968 : decode cL_law 1968 = .ok (.istore 44, 2) := by decide +kernel
theorem dL_law_1970 : decode cL_law 1970 = .ok (.iload 44, 2) := by decide +kernel
theorem dL_law_1972 : decode cL_law 1972 = .ok (.iconst 4, 1) := by decide +kernel
theorem dL_law_1973 : decode cL_law 1973 = .ok (.invokestatic 15, 3) := by decide +kernel
theorem dL_law_1976 : decode cL_law 1976 = .ok (.istore 45, 2) := by decide +kernel
theorem dL_law_1978 : decode cL_law 1978 = .ok (.iload 44, 2) := by decide +kernel
theorem dL_law_1980 : decode cL_law 1980 = .ok (.iconst 2, 1) := by decide +kernel
theorem dL_law_1981 : decode cL_law 1981 = .ok (.ishr, 1) := by decide +kernel
theorem dL_law_1982 : decode cL_law 1982 = .ok (.iload_n 3, 1) := by decide +kernel
theorem dL_law_1983 : decode cL_law 1983 = .ok (.invokestatic 15, 3) := by decide +kernel
theorem dL_law_1986 : decode cL_law 1986 = .ok (.istore 46, 2) := by decide +kernel
theorem dL_law_1988 : decode cL_law 1988 = .ok (.iload 45, 2) := by decide +kernel
theorem dL_law_1990 : decode cL_law 1990 = .ok (.ifCond .ne 12, 3) := by decide +kernel
theorem dL_law_1993 : decode cL_law 1993 = .ok (.aload_n 1, 1) := by decide +kernel
theorem dL_law_1994 : decode cL_law 1994 = .ok (.iload 46, 2) := by decide +kernel
theorem dL_law_1996 : decode cL_law 1996 = .ok (.invokevirtual 93, 3) := by decide +kernel
theorem dL_law_1999 : decode cL_law 1999 = .ok (.goto 39, 3) := by decide +kernel
theorem dL_law_2002 : decode cL_law 2002 = .ok (.iload 45, 2) := by decide +kernel
theorem dL_law_2004 : decode cL_law 2004 = .ok (.iconst 1, 1) := by decide +kernel
theorem dL_law_2005 : decode cL_law 2005 = .ok (.if_icmp .ne 12, 3) := by decide +kernel
theorem dL_law_2008 : decode cL_law 2008 = .ok (.aload_n 1, 1) := by decide +kernel
theorem dL_law_2009 : decode cL_law 2009 = .ok (.iload 46, 2) := by decide +kernel
theorem dL_law_2011 : decode cL_law 2011 = .ok (.invokevirtual 147, 3) := by decide +kernel
theorem dL_law_2014 : decode cL_law 2014 = .ok (.goto 24, 3) := by decide +kernel
theorem dL_law_2017 : decode cL_law 2017 = .ok (.iload 45, 2) := by decide +kernel
theorem dL_law_2019 : decode cL_law 2019 = .ok (.iconst 2, 1) := by decide +kernel
theorem dL_law_2020 : decode cL_law 2020 = .ok (.if_icmp .ne 12, 3) := by decide +kernel
theorem dL_law_2023 : decode cL_law 2023 = .ok (.aload_n 1, 1) := by decide +kernel
theorem dL_law_2024 : decode cL_law 2024 = .ok (.iload 46, 2) := by decide +kernel
theorem dL_law_2026 : decode cL_law 2026 = .ok (.invokevirtual 150, 3) := by decide +kernel
theorem dL_law_2029 : decode cL_law 2029 = .ok (.goto 9, 3) := by decide +kernel
theorem dL_law_2032 : decode cL_law 2032 = .ok (.aload_n 1, 1) := by decide +kernel
theorem dL_law_2033 : decode cL_law 2033 = .ok (.iload 46, 2) := by decide +kernel
theorem dL_law_2035 : decode cL_law 2035 = .ok (.invokevirtual 153, 3) := by decide +kernel
theorem dL_law_2038 : decode cL_law 2038 = .ok (.istore 47, 2) := by decide +kernel
theorem dL_law_2040 : decode cL_law 2040 = .ok (.iload 47, 2) := by decide +kernel
theorem dL_law_2042 : decode cL_law 2042 = .ok (.bipush (-4), 2) := by decide +kernel
theorem dL_law_2044 : decode cL_law 2044 = .ok (.if_icmp .eq 26, 3) := by decide +kernel
theorem dL_law_2047 : decode cL_law 2047 = .ok (.iinc 42 1, 3) := by decide +kernel
theorem dL_law_2050 : decode cL_law 2050 = .ok (.aload 40, 2) := by decide +kernel
theorem dL_law_2052 : decode cL_law 2052 = .ok (.iload 42, 2) := by decide +kernel
theorem dL_law_2054 : decode cL_law 2054 = .ok (.aload_n 1, 1) := by decide +kernel
theorem dL_law_2055 : decode cL_law 2055 = .ok (.iconst 5, 1) := by decide +kernel
theorem dL_law_2056 : decode cL_law 2056 = .ok (.invokevirtual 59, 3) := by decide +kernel
theorem dL_law_2059 : decode cL_law 2059 = .ok (.iastore, 1) := by decide +kernel
theorem dL_law_2060 : decode cL_law 2060 = .ok (.aload 41, 2) := by decide +kernel
theorem dL_law_2062 : decode cL_law 2062 = .ok (.iload 42, 2) := by decide +kernel
theorem dL_law_2064 : decode cL_law 2064 = .ok (.aload_n 1, 1) := by decide +kernel
theorem dL_law_2065 : decode cL_law 2065 = .ok (.iconst 3, 1) := by decide +kernel
theorem dL_law_2066 : decode cL_law 2066 = .ok (.invokevirtual 59, 3) := by decide +kernel
theorem dL_law_2069 : decode cL_law 2069 = .ok (.iastore, 1) := by decide +kernel
theorem dL_law_2070 : decode cL_law 2070 = .ok (.iload 47, 2) := by decide +kernel
theorem dL_law_2072 : decode cL_law 2072 = .ok (.bipush (-4), 2) := by decide +kernel
theorem dL_law_2074 : decode cL_law 2074 = .ok (.if_icmp .lt 28, 3) := by decide +kernel
theorem dL_law_2077 : decode cL_law 2077 = .ok (.iload 47, 2) := by decide +kernel
theorem dL_law_2079 : decode cL_law 2079 = .ok (.bipush (-4), 2) := by decide +kernel
theorem dL_law_2081 : decode cL_law 2081 = .ok (.if_icmp .le 8, 3) := by decide +kernel
theorem dL_law_2084 : decode cL_law 2084 = .ok (.iload 47, 2) := by decide +kernel
theorem dL_law_2086 : decode cL_law 2086 = .ok (.ifCond .lt 16, 3) := by decide +kernel
theorem dL_law_2089 : decode cL_law 2089 = .ok (.aload_n 1, 1) := by decide +kernel
theorem dL_law_2090 : decode cL_law 2090 = .ok (.iconst 2, 1) := by decide +kernel
theorem dL_law_2091 : decode cL_law 2091 = .ok (.invokevirtual 59, 3) := by decide +kernel
theorem dL_law_2094 : decode cL_law 2094 = .ok (.iload 5, 2) := by decide +kernel
theorem dL_law_2096 : decode cL_law 2096 = .ok (.iload 42, 2) := by decide +kernel
theorem dL_law_2098 : decode cL_law 2098 = .ok (.iadd, 1) := by decide +kernel
theorem dL_law_2099 : decode cL_law 2099 = .ok (.if_icmp .eq 5, 3) := by decide +kernel
theorem dL_law_2102 : decode cL_law 2102 = .ok (.iconst 0, 1) := by decide +kernel
theorem dL_law_2103 : decode cL_law 2103 = .ok (.ireturn, 1) := by decide +kernel
theorem dL_law_2104 : decode cL_law 2104 = .ok (.iinc 43 1, 3) := by decide +kernel
theorem dL_law_2107 : decode cL_law 2107 = .ok (.goto (-155), 3) := by decide +kernel
theorem dL_law_2110 : decode cL_law 2110 = .ok (.iload 42, 2) := by decide +kernel
theorem dL_law_2112 : decode cL_law 2112 = .ok (.istore 43, 2) := by decide +kernel
theorem dL_law_2114 : decode cL_law 2114 = .ok (.iload 43, 2) := by decide +kernel
theorem dL_law_2116 : decode cL_law 2116 = .ok (.ifCond .lt 61, 3) := by decide +kernel
theorem dL_law_2119 : decode cL_law 2119 = .ok (.aload_n 1, 1) := by decide +kernel
theorem dL_law_2120 : decode cL_law 2120 = .ok (.iload 5, 2) := by decide +kernel
theorem dL_law_2122 : decode cL_law 2122 = .ok (.iload 43, 2) := by decide +kernel
theorem dL_law_2124 : decode cL_law 2124 = .ok (.iadd, 1) := by decide +kernel
theorem dL_law_2125 : decode cL_law 2125 = .ok (.invokevirtual 156, 3) := by decide +kernel
theorem dL_law_2128 : decode cL_law 2128 = .ok (.iload 43, 2) := by decide +kernel
theorem dL_law_2130 : decode cL_law 2130 = .ok (.iload 42, 2) := by decide +kernel
theorem dL_law_2132 : decode cL_law 2132 = .ok (.if_icmp .ne 7, 3) := by decide +kernel
theorem dL_law_2135 : decode cL_law 2135 = .ok (.iconst 0, 1) := by decide +kernel
theorem dL_law_2136 : decode cL_law 2136 = .ok (.goto 4, 3) := by decide +kernel
theorem dL_law_2139 : decode cL_law 2139 = .ok (.iconst 1, 1) := by decide +kernel
theorem dL_law_2140 : decode cL_law 2140 = .ok (.if_icmp .ne 29, 3) := by decide +kernel
theorem dL_law_2143 : decode cL_law 2143 = .ok (.aload_n 1, 1) := by decide +kernel
theorem dL_law_2144 : decode cL_law 2144 = .ok (.iconst 5, 1) := by decide +kernel
theorem dL_law_2145 : decode cL_law 2145 = .ok (.invokevirtual 59, 3) := by decide +kernel
theorem dL_law_2148 : decode cL_law 2148 = .ok (.aload 40, 2) := by decide +kernel
theorem dL_law_2150 : decode cL_law 2150 = .ok (.iload 43, 2) := by decide +kernel
theorem dL_law_2152 : decode cL_law 2152 = .ok (.iaload, 1) := by decide +kernel
theorem dL_law_2153 : decode cL_law 2153 = .ok (.if_icmp .ne 16, 3) := by decide +kernel
theorem dL_law_2156 : decode cL_law 2156 = .ok (.aload_n 1, 1) := by decide +kernel
theorem dL_law_2157 : decode cL_law 2157 = .ok (.iconst 3, 1) := by decide +kernel
theorem dL_law_2158 : decode cL_law 2158 = .ok (.invokevirtual 59, 3) := by decide +kernel
theorem dL_law_2161 : decode cL_law 2161 = .ok (.aload 41, 2) := by decide +kernel
theorem dL_law_2163 : decode cL_law 2163 = .ok (.iload 43, 2) := by decide +kernel
theorem dL_law_2165 : decode cL_law 2165 = .ok (.iaload, 1) := by decide +kernel
theorem dL_law_2166 : decode cL_law 2166 = .ok (.if_icmp .eq 5, 3) := by decide +kernel
theorem dL_law_2169 : decode cL_law 2169 = .ok (.iconst 0, 1) := by decide +kernel
theorem dL_law_2170 : decode cL_law 2170 = .ok (.ireturn, 1) := by decide +kernel
theorem dL_law_2171 : decode cL_law 2171 = .ok (.iinc 43 (-1), 3) := by decide +kernel
theorem dL_law_2174 : decode cL_law 2174 = .ok (.goto (-60), 3) := by decide +kernel
theorem dL_law_2177 : decode cL_law 2177 = .ok (.aload_n 1, 1) := by decide +kernel
theorem dL_law_2178 : decode cL_law 2178 = .ok (.invokevirtual 159, 3) := by decide +kernel
theorem dL_law_2181 : decode cL_law 2181 = .ok (.lstore 43, 2) := by decide +kernel
theorem dL_law_2183 : decode cL_law 2183 = .ok (.aload_n 1, 1) := by decide +kernel
theorem dL_law_2184 : decode cL_law 2184 = .ok (.iconst 0, 1) := by decide +kernel
theorem dL_law_2185 : decode cL_law 2185 = .ok (.invokevirtual 156, 3) := by decide +kernel
theorem dL_law_2188 : decode cL_law 2188 = .ok (.iload 5, 2) := by decide +kernel
theorem dL_law_2190 : decode cL_law 2190 = .ok (.if_icmp .ne 62, 3) := by decide +kernel
theorem dL_law_2193 : decode cL_law 2193 = .ok (.aload_n 1, 1) := by decide +kernel
theorem dL_law_2194 : decode cL_law 2194 = .ok (.iconst 3, 1) := by decide +kernel
theorem dL_law_2195 : decode cL_law 2195 = .ok (.invokevirtual 59, 3) := by decide +kernel
theorem dL_law_2198 : decode cL_law 2198 = .ok (.ifCond .ne 54, 3) := by decide +kernel
theorem dL_law_2201 : decode cL_law 2201 = .ok (.aload_n 1, 1) := by decide +kernel
theorem dL_law_2202 : decode cL_law 2202 = .ok (.iconst 0, 1) := by decide +kernel
theorem dL_law_2203 : decode cL_law 2203 = .ok (.invokevirtual 96, 3) := by decide +kernel
theorem dL_law_2206 : decode cL_law 2206 = .ok (.iload 5, 2) := by decide +kernel
theorem dL_law_2208 : decode cL_law 2208 = .ok (.if_icmp .ne 44, 3) := by decide +kernel
theorem dL_law_2211 : decode cL_law 2211 = .ok (.aload_n 1, 1) := by decide +kernel
theorem dL_law_2212 : decode cL_law 2212 = .ok (.invokevirtual 159, 3) := by decide +kernel
theorem dL_law_2215 : decode cL_law 2215 = .ok (.lload 43, 2) := by decide +kernel
theorem dL_law_2217 : decode cL_law 2217 = .ok (.lcmp, 1) := by decide +kernel
theorem dL_law_2218 : decode cL_law 2218 = .ok (.ifCond .ne 34, 3) := by decide +kernel
theorem dL_law_2221 : decode cL_law 2221 = .ok (.aload_n 1, 1) := by decide +kernel
theorem dL_law_2222 : decode cL_law 2222 = .ok (.iconst 0, 1) := by decide +kernel
theorem dL_law_2223 : decode cL_law 2223 = .ok (.invokevirtual 36, 3) := by decide +kernel
theorem dL_law_2226 : decode cL_law 2226 = .ok (.iload_n 3, 1) := by decide +kernel
theorem dL_law_2227 : decode cL_law 2227 = .ok (.if_icmp .ne 25, 3) := by decide +kernel
theorem dL_law_2230 : decode cL_law 2230 = .ok (.aload_n 1, 1) := by decide +kernel
theorem dL_law_2231 : decode cL_law 2231 = .ok (.iconst 0, 1) := by decide +kernel
theorem dL_law_2232 : decode cL_law 2232 = .ok (.invokevirtual 96, 3) := by decide +kernel
theorem dL_law_2235 : decode cL_law 2235 = .ok (.bipush (-3), 2) := by decide +kernel
theorem dL_law_2237 : decode cL_law 2237 = .ok (.if_icmp .ne 15, 3) := by decide +kernel
theorem dL_law_2240 : decode cL_law 2240 = .ok (.aload_n 1, 1) := by decide +kernel
theorem dL_law_2241 : decode cL_law 2241 = .ok (.iconst 2, 1) := by decide +kernel
theorem dL_law_2242 : decode cL_law 2242 = .ok (.invokevirtual 59, 3) := by decide +kernel
theorem dL_law_2245 : decode cL_law 2245 = .ok (.ifCond .ne 7, 3) := by decide +kernel
theorem dL_law_2248 : decode cL_law 2248 = .ok (.iconst 1, 1) := by decide +kernel
theorem dL_law_2249 : decode cL_law 2249 = .ok (.goto 4, 3) := by decide +kernel
theorem dL_law_2252 : decode cL_law 2252 = .ok (.iconst 0, 1) := by decide +kernel
theorem dL_law_2253 : decode cL_law 2253 = .ok (.ireturn, 1) := by decide +kernel
end
section
/-! A small machine of its own: places instead of addresses, contents as functions; what it runs, the JVM runs (part 'sound') -/
abbrev bw_K : Type := Nat ⊕ (FieldType × Nat)
abbrev bw_H : Type := (Nat × Nat) × (Nat → bw_K) × (Nat → Nat → Int32) × (Nat → Nat → Int64) × (Nat → Nat → Option Nat)
abbrev bw_L : Type := List (Nat × Value)
abbrev bw_C : Type := Nat × bw_L × List Value × bw_H
def bw_up {α : Type} (f : Nat → α) (p : Nat) (v : α) : Nat → α := fun a => if a = p then v else f a
def bw_up2 {α : Type} (f : Nat → Nat → α) (p k : Nat) (v : α) : Nat → Nat → α := bw_up f p (bw_up (f p) k v)
def bw_n (h : bw_H) : Nat := h.1.1
def bw_s (h : bw_H) : Nat := h.1.2
def bw_k (h : bw_H) : Nat → bw_K := h.2.1
def bw_i (h : bw_H) : Nat → Nat → Int32 := h.2.2.1
def bw_l (h : bw_H) : Nat → Nat → Int64 := h.2.2.2.1
def bw_r (h : bw_H) : Nat → Nat → Option Nat := h.2.2.2.2
def bw_si (h : bw_H) (p k : Nat) (v : Int32) : bw_H := (h.1, h.2.1, bw_up2 h.2.2.1 p k v, h.2.2.2)
def bw_sl (h : bw_H) (p k : Nat) (v : Int64) : bw_H := (h.1, h.2.1, h.2.2.1, bw_up2 h.2.2.2.1 p k v, h.2.2.2.2)
def bw_sr (h : bw_H) (p k : Nat) (v : Option Nat) : bw_H := (h.1, h.2.1, h.2.2.1, h.2.2.2.1, bw_up2 h.2.2.2.2 p k v)
def bw_sa (h : bw_H) (p : Nat) (f : Nat → Int32) : bw_H := (h.1, h.2.1, bw_up h.2.2.1 p f, h.2.2.2)
/-- a new cell: ints 0, longs 0, references null -/
def bw_nw (h : bw_H) (kd : bw_K) (N : Nat) : bw_H := ((h.1.1 + 1, h.1.2 + N), bw_up h.2.1 h.1.1 kd, bw_up h.2.2.1 h.1.1 (fun _ => 0), bw_up h.2.2.2.1 h.1.1 (fun _ => 0), bw_up h.2.2.2.2 h.1.1 (fun _ => none))
def bw_ty (c k : Nat) : FieldType := match c with
  | 0 => tyX0 k
  | 1 => tyX1 k
  | 2 => tyX2 k
  | 3 => tyX3 k
  | 4 => tyX4 k
  | 5 => tyX5 k
  | 6 => tyX6 k
  | 7 => tyX7 k
  | _ => tyX0 k
def bw_T (c : Nat) : u_T := match c with
  | 0 => TX0
  | 1 => TX1
  | 2 => TX2
  | 3 => TX3
  | 4 => TX4
  | 5 => TX5
  | 6 => TX6
  | 7 => TX7
  | _ => TX0
def bw_N (c : Nat) : Nat := match c with
  | 0 => 1
  | 1 => 10
  | 2 => 4
  | 3 => 4
  | 4 => 4
  | 5 => 3
  | 6 => 6
  | 7 => 14
  | _ => 1
def bw_R (o : Nat) : String := match o with
  | 0 => RX0
  | 1 => RX1
  | 2 => RX2
  | 3 => RX3
  | 4 => RX4
  | 5 => RX5
  | 6 => RX6
  | 7 => RX7
  | 8 => RX0
  | 9 => RL
  | 10 => RJ6
  | 11 => RJ13
  | _ => RJ9
def bw_rf (r : Option Nat) : Value := match r with
  | none => .null
  | some a => .ref a
/-- a field's value: by its type -/
def bw_fv (h : bw_H) (p c k : Nat) : Value := match bw_ty c k with
  | .int => .int (bw_i h p k)
  | .long => .long (bw_l h p k)
  | _ => bw_rf (bw_r h p k)
def bw_lg (ls : bw_L) (i : Nat) : Option Value := (ls.find? (fun q => q.1 == i)).map (fun q => q.2)
def bw_s1 (ls : bw_L) (i : Nat) (v : Value) : bw_L := (i, v) :: ls.filter (fun q => !(q.1 == i) && !(q.1 + 1 == i && q.2.category == 2))
def bw_s2 (ls : bw_L) (i : Nat) (v : Value) : bw_L := (i, v) :: ls.filter (fun q => !(q.1 == i) && (!(q.1 == i + 1) && !(q.1 + 1 == i && q.2.category == 2)))
def bw_jp (pc : Nat) (off : Int) : Option Nat := if 0 ≤ (pc : Int) + off then some ((pc : Int) + off).toNat else none
-- what single instructions do
def bq_il (w k pc : Nat) (ls : bw_L) (st : List Value) (h : bw_H) : Option bw_C := match bw_lg ls k with
  | some (.int x) => some (pc + w, ls, .int x :: st, h)
  | _ => none
def bq_ll (w k pc : Nat) (ls : bw_L) (st : List Value) (h : bw_H) : Option bw_C := match bw_lg ls k with
  | some (.long x) => some (pc + w, ls, .long x :: st, h)
  | _ => none
def bq_al (w k pc : Nat) (ls : bw_L) (st : List Value) (h : bw_H) : Option bw_C := match bw_lg ls k with
  | some (.ref x) => some (pc + w, ls, .ref x :: st, h)
  | some (.retAddr x) => some (pc + w, ls, .retAddr x :: st, h)
  | some .null => some (pc + w, ls, .null :: st, h)
  | _ => none
def bq_is (nL w k pc : Nat) (ls : bw_L) (st : List Value) (h : bw_H) : Option bw_C := match st with
  | .int x :: r => if k < nL then some (pc + w, bw_s1 ls k (.int x), r, h) else none
  | _ => none
def bq_ls (nL w k pc : Nat) (ls : bw_L) (st : List Value) (h : bw_H) : Option bw_C := match st with
  | .long x :: r => if k + 1 < nL then some (pc + w, bw_s2 ls k (.long x), r, h) else none
  | _ => none
def bq_as (nL w k pc : Nat) (ls : bw_L) (st : List Value) (h : bw_H) : Option bw_C := match st with
  | .ref x :: r => if k < nL then some (pc + w, bw_s1 ls k (.ref x), r, h) else none
  | .null :: r => if k < nL then some (pc + w, bw_s1 ls k .null, r, h) else none
  | _ => none
def bq_ic (nL k : Nat) (n : Int) (pc : Nat) (ls : bw_L) (st : List Value) (h : bw_H) : Option bw_C := match bw_lg ls k with
  | some (.int x) => if k < nL then some (pc + 3, bw_s1 ls k (.int (x + Int32.ofInt n)), st, h) else none
  | _ => none
def bq_ii (f : Int32 → Int32 → Int32) (pc : Nat) (ls : bw_L) (st : List Value) (h : bw_H) : Option bw_C := match st with
  | .int y :: .int x :: r => some (pc + 1, ls, .int (f x y) :: r, h)
  | _ => none
def bq_id (f : Int32 → Int32 → Int32) (pc : Nat) (ls : bw_L) (st : List Value) (h : bw_H) : Option bw_C := match st with
  | .int y :: .int x :: r => if y = 0 then none else some (pc + 1, ls, .int (f x y) :: r, h)
  | _ => none
def bq_jj (f : Int64 → Int64 → Int64) (pc : Nat) (ls : bw_L) (st : List Value) (h : bw_H) : Option bw_C := match st with
  | .long y :: .long x :: r => some (pc + 1, ls, .long (f x y) :: r, h)
  | _ => none
def bq_jd (f : Int64 → Int64 → Int64) (pc : Nat) (ls : bw_L) (st : List Value) (h : bw_H) : Option bw_C := match st with
  | .long y :: .long x :: r => if y = 0 then none else some (pc + 1, ls, .long (f x y) :: r, h)
  | _ => none
def bq_i1 (f : Int32 → Value) (pc : Nat) (ls : bw_L) (st : List Value) (h : bw_H) : Option bw_C := match st with
  | .int x :: r => some (pc + 1, ls, f x :: r, h)
  | _ => none
def bq_j1 (f : Int64 → Value) (pc : Nat) (ls : bw_L) (st : List Value) (h : bw_H) : Option bw_C := match st with
  | .long x :: r => some (pc + 1, ls, f x :: r, h)
  | _ => none
def bq_ju (pc : Nat) (ls : bw_L) (st : List Value) (h : bw_H) : Option bw_C := match st with
  | .int y :: .long x :: r => some (pc + 1, ls, .long ((x.toUInt64 >>> (y.toInt64.toUInt64 &&& Int64.toUInt64 63)).toInt64) :: r, h)
  | _ => none
def bq_cm (pc : Nat) (ls : bw_L) (st : List Value) (h : bw_H) : Option bw_C := match st with
  | .long y :: .long x :: r => some (pc + 1, ls, .int (lg_cmp x y) :: r, h)
  | _ => none
def bq_du (pc : Nat) (ls : bw_L) (st : List Value) (h : bw_H) : Option bw_C := match st with
  | v :: r => if v.category = 1 then some (pc + 1, ls, v :: v :: r, h) else none
  | _ => none
def bq_d2 (pc : Nat) (ls : bw_L) (st : List Value) (h : bw_H) : Option bw_C := match st with
  | v :: w :: r => if v.category = 1 ∧ w.category = 1 then some (pc + 1, ls, v :: w :: v :: w :: r, h) else none
  | _ => none
def bq_cn (w : Nat) (v : Value) (pc : Nat) (ls : bw_L) (st : List Value) (h : bw_H) : Option bw_C := some (pc + w, ls, v :: st, h)
def bq_go (off : Int) (pc : Nat) (ls : bw_L) (st : List Value) (h : bw_H) : Option bw_C := match bw_jp pc off with
  | some q => some (q, ls, st, h)
  | none => none
def bq_if (d : Int32 → Bool) (off : Int) (pc : Nat) (ls : bw_L) (st : List Value) (h : bw_H) : Option bw_C := match st with
  | .int x :: r => match bw_jp pc off with
    | some q => some (if d x = true then q else pc + 3, ls, r, h)
    | none => none
  | _ => none
def bq_cp (d : Int32 → Int32 → Bool) (off : Int) (pc : Nat) (ls : bw_L) (st : List Value) (h : bw_H) : Option bw_C := match st with
  | .int y :: .int x :: r => match bw_jp pc off with
    | some q => some (if d x y = true then q else pc + 3, ls, r, h)
    | none => none
  | _ => none
def bq_nu (off : Int) (pc : Nat) (ls : bw_L) (st : List Value) (h : bw_H) : Option bw_C := match st with
  | .null :: r => match bw_jp pc off with
    | some q => some (q, ls, r, h)
    | none => none
  | .ref _ :: r => some (pc + 3, ls, r, h)
  | _ => none
def bq_nn (off : Int) (pc : Nat) (ls : bw_L) (st : List Value) (h : bw_H) : Option bw_C := match st with
  | .ref _ :: r => match bw_jp pc off with
    | some q => some (q, ls, r, h)
    | none => none
  | .null :: r => some (pc + 3, ls, r, h)
  | _ => none
def bq_ts (df lo hi : Int) (offs : Array Int) (pc : Nat) (ls : bw_L) (st : List Value) (h : bw_H) : Option bw_C := match st with
  | .int x :: r => if x.toInt < lo ∨ hi < x.toInt then (match bw_jp pc df with
      | some q => some (q, ls, r, h)
      | none => none)
    else match offs[(x.toInt - lo).toNat]? with
      | some off => (match bw_jp pc off with
        | some q => some (q, ls, r, h)
        | none => none)
      | none => none
  | _ => none
-- the heap's
def bq_gf (f : Option (Nat × Nat)) (pc : Nat) (ls : bw_L) (st : List Value) (h : bw_H) : Option bw_C := match f, st with
  | some (c, k), .ref a :: r => if a < bw_n h ∧ bw_k h a = .inl c then some (pc + 3, ls, bw_fv h a c k :: r, h) else none
  | _, _ => none
def bq_pf (o : Nat) (ini : Bool) (f : Option (Nat × Nat)) (pc : Nat) (ls : bw_L) (st : List Value) (h : bw_H) : Option bw_C := match f, st with
  | some (c, k), v :: .ref a :: r => if a < bw_n h ∧ bw_k h a = .inl c ∧ k < bw_N c ∧ (bw_T c k).2.2.2 = false then (match bw_ty c k, v with
      | .int, .int x => some (pc + 3, ls, r, bw_si h a k x)
      | .long, .long x => some (pc + 3, ls, r, bw_sl h a k x)
      | _, _ => none)
    else if a < bw_n h ∧ bw_k h a = .inl c ∧ k < bw_N c ∧ (bw_T c k).2.2.2 = true ∧ ini = true ∧ c = o then (match bw_ty c k, v with
      | .int, .int x => some (pc + 3, ls, r, bw_si h a k x)
      | .object _, .ref x => some (pc + 3, ls, r, bw_sr h a k (some x))
      | .array _, .ref x => some (pc + 3, ls, r, bw_sr h a k (some x))
      | _, _ => none)
    else none
  | _, _ => none
def bq_gs (b : Bool) (pc : Nat) (ls : bw_L) (st : List Value) (h : bw_H) : Option bw_C := if b = true then some (pc + 3, ls, .retAddr 0 :: st, h) else none
def bw_set6 (j : Nat) : Int64 := match j with
  | 0 => 0xAAAAAAAAAAAAAAAA
  | 1 => 0xCCCCCCCCCCCCCCCC
  | 2 => 0xF0F0F0F0F0F0F0F0
  | 3 => 0xFF00FF00FF00FF00
  | 4 => 0xFFFF0000FFFF0000
  | _ => 0xFFFFFFFF00000000
def bq_la (pc : Nat) (ls : bw_L) (st : List Value) (h : bw_H) : Option bw_C := match st with
  | .int i :: .retAddr 0 :: r => if 0 ≤ i.toInt ∧ i.toInt < 6 then some (pc + 1, ls, .long (bw_set6 i.toNatClampNeg) :: r, h) else none
  | _ => none
def bq_ia (X : Nat × (Nat → Int32)) (pc : Nat) (ls : bw_L) (st : List Value) (h : bw_H) : Option bw_C := match st with
  | .int i :: .retAddr 1 :: r => if 0 ≤ i.toInt ∧ i.toInt < X.1 then some (pc + 1, ls, .int (X.2 i.toNatClampNeg) :: r, h) else none
  | .int i :: .ref a :: r => (match bw_k h a with
    | .inr (ty, N) => if a < bw_n h ∧ ty = .int ∧ 0 ≤ i.toInt ∧ i.toInt < N then some (pc + 1, ls, .int (bw_i h a i.toNatClampNeg) :: r, h) else none
    | _ => none)
  | _ => none
def bq_ba (_pc : Nat) (_ls : bw_L) (_st : List Value) (_h : bw_H) : Option bw_C := none
def bq_aa (pc : Nat) (ls : bw_L) (st : List Value) (h : bw_H) : Option bw_C := match st with
  | .int i :: .ref a :: r => (match bw_k h a with
    | .inr (ty, N) => if a < bw_n h ∧ ty = .object RX1 ∧ 0 ≤ i.toInt ∧ i.toInt < N then some (pc + 1, ls, bw_rf (bw_r h a i.toNatClampNeg) :: r, h) else none
    | _ => none)
  | _ => none
def bq_ist (pc : Nat) (ls : bw_L) (st : List Value) (h : bw_H) : Option bw_C := match st with
  | .int x :: .int i :: .ref a :: r => (match bw_k h a with
    | .inr (ty, N) => if a < bw_n h ∧ ty = .int ∧ 0 ≤ i.toInt ∧ i.toInt < N then some (pc + 1, ls, r, bw_si h a i.toNatClampNeg x) else none
    | _ => none)
  | _ => none
def bq_bst (_pc : Nat) (_ls : bw_L) (_st : List Value) (_h : bw_H) : Option bw_C := none
def bq_ast (pc : Nat) (ls : bw_L) (st : List Value) (h : bw_H) : Option bw_C := match st with
  | .ref x :: .int i :: .ref a :: r => (match bw_k h a with
    | .inr (ty, N) => if a < bw_n h ∧ ty = .object RX1 ∧ x < bw_n h ∧ bw_k h x = .inl 1 ∧ 0 ≤ i.toInt ∧ i.toInt < N then some (pc + 1, ls, r, bw_sr h a i.toNatClampNeg (some x)) else none
    | _ => none)
  | _ => none
def bq_len (X : Nat × (Nat → Int32)) (pc : Nat) (ls : bw_L) (st : List Value) (h : bw_H) : Option bw_C := match st with
  | .retAddr 0 :: r => some (pc + 1, ls, .int 6 :: r, h)
  | .retAddr 1 :: r => some (pc + 1, ls, .int (Int32.ofNat X.1) :: r, h)
  | .ref a :: r => (match bw_k h a with
    | .inr (ty, N) => if a < bw_n h ∧ (ty = .int ∨ ty = .long ∨ ty = .object RX1) then some (pc + 1, ls, .int (Int32.ofNat N) :: r, h) else none
    | _ => none)
  | _ => none
def bq_new (c : Option Nat) (pc : Nat) (ls : bw_L) (st : List Value) (h : bw_H) : Option bw_C := match c with
  | some c => if c < 9 then some (pc + 3, ls, .ref (bw_n h) :: st, bw_nw h (.inl c) (bw_N c)) else none
  | none => none
def bq_na (t : ArrayType) (pc : Nat) (ls : bw_L) (st : List Value) (h : bw_H) : Option bw_C := match t, st with
  | .int, .int n :: r => if 0 ≤ n.toInt ∧ n.toInt < 60000 then some (pc + 2, ls, .ref (bw_n h) :: r, bw_nw h (.inr (.int, n.toNatClampNeg)) n.toNatClampNeg) else none
  | _, _ => none
def bq_an (b : Bool) (pc : Nat) (ls : bw_L) (st : List Value) (h : bw_H) : Option bw_C := match st with
  | .int n :: r => if b = true ∧ 0 ≤ n.toInt ∧ n.toInt < 60000 then some (pc + 3, ls, .ref (bw_n h) :: r, bw_nw h (.inr (.object RX1, n.toNatClampNeg)) n.toNatClampNeg) else none
  | _ => none
def bq_oi (b : Bool) (pc : Nat) (ls : bw_L) (st : List Value) (h : bw_H) : Option bw_C := match st with
  | .ref _ :: r => if b = true ∧ (r.map fun v => v.category).sum ≤ 8 then some (pc + 3, ls, r, h) else none
  | _ => none
def bq_ac (b : Bool) (pc : Nat) (ls : bw_L) (st : List Value) (h : bw_H) : Option bw_C := match st with
  | .int n :: .int dp :: .ref a :: .int sp :: .ref a0 :: r => (match bw_k h a0, bw_k h a with
    | .inr (t0, n0), .inr (t1, n1) => if b = true ∧ (r.map fun v => v.category).sum ≤ 8 ∧ a0 < bw_n h ∧ a < bw_n h ∧ t0 = .int ∧ t1 = .int ∧ 0 ≤ sp.toInt ∧ 0 ≤ dp.toInt ∧ 0 ≤ n.toInt ∧ sp.toInt + n.toInt ≤ n0 ∧ dp.toInt + n.toInt ≤ n1
        then some (pc + 3, ls, r, bw_sa h a (va_cpy (bw_i h a0) (bw_i h a) sp.toNatClampNeg dp.toNatClampNeg n.toNatClampNeg)) else none
    | _, _ => none)
  | _ => none
def bq_mx (b : Bool) (pc : Nat) (ls : bw_L) (st : List Value) (h : bw_H) : Option bw_C := match st with
  | .int y :: .int x :: r => if (r.map fun v => v.category).sum ≤ 8 then some (pc + 3, ls, .int (if b = true then (if x < y then y else x) else (if y < x then y else x)) :: r, h) else none
  | _ => none
end
section
/-! what the constant pools link: by class number and index; with the words' places -/
abbrev bw_M : Type := Nat × MethodName × ByteArray × Nat × Option FieldType × Nat
def bm_X4_init : bw_M := (4, yX4_init, cX4_init, 4, none, 2)
def bm_X1_init : bw_M := (1, yX1_init, cX1_init, 1, none, 0)
def bm_X3_init : bw_M := (3, yX3_init, cX3_init, 1, none, 0)
def bm_X2_init : bw_M := (2, yX2_init, cX2_init, 1, none, 0)
def bm_X5_init : bw_M := (5, yX5_init, cX5_init, 1, none, 0)
def bm_X6_init : bw_M := (6, yX6_init, cX6_init, 1, none, 0)
def bm_X0_init : bw_M := (0, yX0_init, cX0_init, 2, none, 1)
def bm_X7_missingPlace : bw_M := (7, yX7_missingPlace, cX7_missingPlace, 3, (some .int), 3)
def bm_X7_isThing : bw_M := (7, yX7_isThing, cX7_isThing, 1, (some .boolean), 1)
def bm_J6_bitCount_0f7a4 : bw_M := (10, yJ6_bitCount_0f7a4, cJ6_bitCount_0f7a4, 1, (some .int), 1)
def bm_X7_isIn : bw_M := (7, yX7_isIn, cX7_isIn, 2, (some .boolean), 2)
def bm_X7_isFewer : bw_M := (7, yX7_isFewer, cX7_isFewer, 2, (some .boolean), 2)
def bm_X7_leastOf : bw_M := (7, yX7_leastOf, cX7_leastOf, 2, (some .int), 1)
def bm_J13_bitCount_95d88 : bw_M := (11, yJ13_bitCount_95d88, cJ13_bitCount_95d88, 2, (some .int), 1)
def bm_X2_setsWith : bw_M := (2, yX2_setsWith, cX2_setsWith, 1, (some .long), 1)
def bm_X7_isChance : bw_M := (7, yX7_isChance, cX7_isChance, 1, (some .boolean), 1)
def bm_X7_actOfLot : bw_M := (7, yX7_actOfLot, cX7_actOfLot, 1, (some .int), 1)
def bm_X7_commonDivisor : bw_M := (7, yX7_commonDivisor, cX7_commonDivisor, 7, (some .long), 2)
def bm_X4_isNumber : bw_M := (4, yX4_isNumber, cX4_isNumber, 2, (some .boolean), 1)
def bm_X7_found : bw_M := (7, yX7_found, cX7_found, 2, (some .int), 1)
def bm_X4_make : bw_M := (4, yX4_make, cX4_make, 5, none, 3)
def bm_X4_get : bw_M := (4, yX4_get, cX4_get, 3, (some .int), 2)
def bm_X4_set : bw_M := (4, yX4_set, cX4_set, 4, none, 3)
def bm_X4_has : bw_M := (4, yX4_has, cX4_has, 2, (some .boolean), 1)
def bm_X3_readInto : bw_M := (3, yX3_readInto, cX3_readInto, 5, (some .int), 3)
def bm_X1_take : bw_M := (1, yX1_take, cX1_take, 2, none, 1)
def bm_X7_forgetKept : bw_M := (7, yX7_forgetKept, cX7_forgetKept, 3, none, 1)
def bm_X1_hasBear : bw_M := (1, yX1_hasBear, cX1_hasBear, 2, (some .boolean), 1)
def bm_X7_ofBear : bw_M := (7, yX7_ofBear, cX7_ofBear, 3, (some .int), 2)
def bm_X0_get : bw_M := (0, yX0_get, cX0_get, 2, (some .int), 1)
def bm_X7_answerDeed : bw_M := (7, yX7_answerDeed, cX7_answerDeed, 3, (some .int), 2)
def bm_X1_takeBackTo : bw_M := (1, yX1_takeBackTo, cX1_takeBackTo, 3, none, 1)
def bm_X7_keptIn : bw_M := (7, yX7_keptIn, cX7_keptIn, 3, (some (.object "BearWitness$Court")), 1)
def bm_X1_answerOf : bw_M := (1, yX1_answerOf, cX1_answerOf, 3, (some .int), 2)
def bm_X1_isSet : bw_M := (1, yX1_isSet, cX1_isSet, 2, (some .boolean), 1)
def bm_X5_hear : bw_M := (5, yX5_hear, cX5_hear, 7, none, 1)
def bm_X5_tiedBy : bw_M := (5, yX5_tiedBy, cX5_tiedBy, 4, (some .int), 1)
def bm_X5_shownBy : bw_M := (5, yX5_shownBy, cX5_shownBy, 4, (some .int), 1)
def bm_X1_allBears : bw_M := (1, yX1_allBears, cX1_allBears, 1, (some .int), 0)
def bm_X6_open : bw_M := (6, yX6_open, cX6_open, 6, none, 3)
def bm_X6_fewestPresses : bw_M := (6, yX6_fewestPresses, cX6_fewestPresses, 2, (some .int), 0)
def bm_X5_toldBy : bw_M := (5, yX5_toldBy, cX5_toldBy, 4, (some .int), 1)
def bm_X5_clash : bw_M := (5, yX5_clash, cX5_clash, 3, (some .int), 2)
def bm_X5_hasRivals : bw_M := (5, yX5_hasRivals, cX5_hasRivals, 5, (some .boolean), 1)
def bm_X7_readLooks : bw_M := (7, yX7_readLooks, cX7_readLooks, 3, (some .int), 1)
def bm_X2_fittingSets : bw_M := (2, yX2_fittingSets, cX2_fittingSets, 8, (some .long), 1)
def bm_X7_tellPart : bw_M := (7, yX7_tellPart, cX7_tellPart, 7, none, 2)
def bm_X7_greatestPart : bw_M := (7, yX7_greatestPart, cX7_greatestPart, 8, (some .int), 3)
def bm_X2_fitKind : bw_M := (2, yX2_fitKind, cX2_fitKind, 5, (some .boolean), 3)
def bm_X2_whoSpoke : bw_M := (2, yX2_whoSpoke, cX2_whoSpoke, 3, (some .int), 0)
def bm_X2_whoKeptBack : bw_M := (2, yX2_whoKeptBack, cX2_whoKeptBack, 6, (some .int), 1)
def bm_X6_playOut : bw_M := (6, yX6_playOut, cX6_playOut, 7, (some .int), 1)
def bm_X7_weightOf : bw_M := (7, yX7_weightOf, cX7_weightOf, 6, (some .long), 2)
def bm_X7_allWeight : bw_M := (7, yX7_allWeight, cX7_allWeight, 4, (some .long), 0)
def bm_X1_canBe : bw_M := (1, yX1_canBe, cX1_canBe, 3, (some .boolean), 2)
def bm_X1_commit : bw_M := (1, yX1_commit, cX1_commit, 3, none, 2)
def bm_X7_shownByAll : bw_M := (7, yX7_shownByAll, cX7_shownByAll, 1, (some .int), 0)
def bm_X0_sum : bw_M := (0, yX0_sum, cX0_sum, 4, (some .int), 1)
def bm_X1_thoseOfKind : bw_M := (1, yX1_thoseOfKind, cX1_thoseOfKind, 4, (some .int), 1)
def bm_X4_thoseThere : bw_M := (4, yX4_thoseThere, cX4_thoseThere, 3, (some .int), 0)
def bm_X7_keptCourts : bw_M := (7, yX7_keptCourts, cX7_keptCourts, 3, (some .int), 0)
def bm_X7_count : bw_M := (7, yX7_count, cX7_count, 2, (some .int), 1)
def bm_X4_digestFrom : bw_M := (4, yX4_digestFrom, cX4_digestFrom, 5, (some .long), 1)
def bm_X0_set : bw_M := (0, yX0_set, cX0_set, 3, none, 2)
def bm_X4_hasPlace : bw_M := (4, yX4_hasPlace, cX4_hasPlace, 3, (some .boolean), 2)
def bm_X1_toldOf : bw_M := (1, yX1_toldOf, cX1_toldOf, 4, (some .int), 3)
def bm_X1_clear : bw_M := (1, yX1_clear, cX1_clear, 1, none, 0)
def bm_X2_readFrom : bw_M := (2, yX2_readFrom, cX2_readFrom, 8, (some .int), 3)
def bm_X1_answerIf : bw_M := (1, yX1_answerIf, cX1_answerIf, 7, (some .int), 4)
def bm_X7_isOfKind : bw_M := (7, yX7_isOfKind, cX7_isOfKind, 2, (some .boolean), 2)
def bm_X1_onesOf : bw_M := (1, yX1_onesOf, cX1_onesOf, 4, (some .int), 4)
def bm_X0_take : bw_M := (0, yX0_take, cX0_take, 3, none, 1)
def bm_X1_change : bw_M := (1, yX1_change, cX1_change, 4, none, 3)
def bm_X1_seenBy : bw_M := (1, yX1_seenBy, cX1_seenBy, 5, (some .int), 3)
def bm_X4_sizeOf : bw_M := (4, yX4_sizeOf, cX4_sizeOf, 2, (some .int), 1)
def bm_X2_fits : bw_M := (2, yX2_fits, cX2_fits, 5, (some .boolean), 4)
def bm_X3_kindOfLetter : bw_M := (3, yX3_kindOfLetter, cX3_kindOfLetter, 1, (some .int), 1)
def bm_X3_open : bw_M := (3, yX3_open, cX3_open, 4, none, 2)
def bm_X3_skipBlanks : bw_M := (3, yX3_skipBlanks, cX3_skipBlanks, 1, none, 0)
def bm_X3_byteHere : bw_M := (3, yX3_byteHere, cX3_byteHere, 1, (some .int), 0)
def bm_X3_twoFigures : bw_M := (3, yX3_twoFigures, cX3_twoFigures, 4, (some .int), 0)
def bm_X3_readBear : bw_M := (3, yX3_readBear, cX3_readBear, 6, none, 1)
def bm_X3_fail : bw_M := (3, yX3_fail, cX3_fail, 2, none, 1)
def bm_X3_oneFigure : bw_M := (3, yX3_oneFigure, cX3_oneFigure, 3, (some .int), 1)
def bm_X1_seat : bw_M := (1, yX1_seat, cX1_seat, 5, none, 4)
def bm_X5_balance : bw_M := (5, yX5_balance, cX5_balance, 5, (some .int), 2)
def bm_X6_worthIf : bw_M := (6, yX6_worthIf, cX6_worthIf, 6, (some .int), 4)
def bm_X6_worthNow : bw_M := (6, yX6_worthNow, cX6_worthNow, 2, (some .int), 1)
def bm_X6_pressOn : bw_M := (6, yX6_pressOn, cX6_pressOn, 6, (some .boolean), 3)
def bm_X6_canWear : bw_M := (6, yX6_canWear, cX6_canWear, 4, (some .boolean), 2)
def bm_X6_wearBy : bw_M := (6, yX6_wearBy, cX6_wearBy, 3, none, 2)
def bm_X7_init : bw_M := (7, yX7_init, cX7_init, 1, none, 0)
def bm_L_cell : bw_M := (9, yL_cell, cL_cell, 2, (some .int), 2)
def bm_L_up : bw_M := (9, yL_up, cL_up, 2, (some .int), 2)
def bm_L_sign : bw_M := (9, yL_sign, cL_sign, 3, (some .boolean), 3)
def bm_L_letter : bw_M := (9, yL_letter, cL_letter, 1, (some .int), 1)
def bm_L_lay : bw_M := (9, yL_lay, cL_lay, 4, none, 2)
def bm_L_made : bw_M := (9, yL_made, cL_made, 6, (some .boolean), 2)
def bm_L_bits : bw_M := (9, yL_bits, cL_bits, 3, (some .int), 1)
def bm_L_told : bw_M := (9, yL_told, cL_told, 3, (some .int), 3)
def bm_L_asked : bw_M := (9, yL_asked, cL_asked, 2, (some .int), 2)
def bm_X7_put : bw_M := (7, yX7_put, cX7_put, 6, (some .int), 3)
def bm_X7_text : bw_M := (7, yX7_text, cX7_text, 3, (some .int), 2)
def bm_X7_court : bw_M := (7, yX7_court, cX7_court, 3, (some .int), 1)
def bm_X7_bear : bw_M := (7, yX7_bear, cX7_bear, 3, (some .int), 2)
def bm_X7_asked : bw_M := (7, yX7_asked, cX7_asked, 1, (some .int), 0)
def bm_X7_lots : bw_M := (7, yX7_lots, cX7_lots, 9, (some .int), 2)
def bm_X7_keep : bw_M := (7, yX7_keep, cX7_keep, 3, (some .int), 1)
def bm_X7_tells : bw_M := (7, yX7_tells, cX7_tells, 3, (some .int), 2)
def bm_X7_shown : bw_M := (7, yX7_shown, cX7_shown, 2, (some .int), 1)
def bm_X7_duel : bw_M := (7, yX7_duel, cX7_duel, 3, (some .int), 2)
def bm_X7_call : bw_M := (7, yX7_call, cX7_call, 7, (some .int), 1)
def bm_X7_shake : bw_M := (7, yX7_shake, cX7_shake, 6, (some .int), 3)
def bm_X7_at : bw_M := (7, yX7_at, cX7_at, 4, (some .int), 2)
def bm_X7_press : bw_M := (7, yX7_press, cX7_press, 2, (some .int), 1)
def bm_X7_on : bw_M := (7, yX7_on, cX7_on, 3, (some .int), 1)
def bm_X7_cover : bw_M := (7, yX7_cover, cX7_cover, 5, (some .int), 1)
def bm_X7_apart : bw_M := (7, yX7_apart, cX7_apart, 4, (some .int), 0)
def bm_X7_rivals : bw_M := (7, yX7_rivals, cX7_rivals, 3, (some .int), 2)
def bm_X7_row : bw_M := (7, yX7_row, cX7_row, 3, (some .int), 2)
def bm_X7_lay : bw_M := (7, yX7_lay, cX7_lay, 5, (some .int), 3)
def bm_X7_truths : bw_M := (7, yX7_truths, cX7_truths, 5, (some .int), 1)
def bm_X7_upper : bw_M := (7, yX7_upper, cX7_upper, 1, (some .long), 0)
def bm_X7_sure : bw_M := (7, yX7_sure, cX7_sure, 8, (some .int), 1)
def bm_X7_next : bw_M := (7, yX7_next, cX7_next, 10, (some .int), 1)
def bm_X7_walls : bw_M := (7, yX7_walls, cX7_walls, 4, (some .int), 1)
def bm_X7_kinds : bw_M := (7, yX7_kinds, cX7_kinds, 6, (some .int), 2)
def bm_X7_odds : bw_M := (7, yX7_odds, cX7_odds, 6, (some .int), 2)
def bm_X7_lower : bw_M := (7, yX7_lower, cX7_lower, 1, (some .long), 0)
def bm_X7_mid : bw_M := (7, yX7_mid, cX7_mid, 5, (some .int), 1)
def bm_X7_mend : bw_M := (7, yX7_mend, cX7_mend, 2, (some .int), 1)
def bm_X7_eye : bw_M := (7, yX7_eye, cX7_eye, 2, (some .int), 1)
def bm_X7_turn : bw_M := (7, yX7_turn, cX7_turn, 2, (some .int), 1)
def bm_X7_undo : bw_M := (7, yX7_undo, cX7_undo, 3, (some .int), 1)
def bm_X7_digest : bw_M := (7, yX7_digest, cX7_digest, 5, (some .long), 0)
def bw_FT : List (Nat × Nat × Nat × Nat × Bool × Nat) := [(0, 7, 0, 0, false, 100), (1, 9, 1, 0, false, 130), (1, 15, 1, 1, false, 135), (1, 18, 1, 2, false, 141), (1, 21, 1, 3, false, 143), (1, 29, 1, 4, false, 145), (1, 33, 1, 5, false, 150), (1, 36, 1, 6, false, 152), (1, 39, 1, 7, false, 157), (1, 42, 1, 8, false, 159), (1, 45, 1, 9, false, 160), (2, 9, 2, 0, false, 212), (2, 20, 2, 1, false, 213), (2, 24, 2, 2, false, 214), (2, 27, 2, 3, false, 215), (2, 62, 1, 4, true, 148), (2, 73, 1, 1, true, 139), (2, 76, 1, 6, true, 155), (3, 14, 3, 0, false, 191), (3, 20, 3, 1, false, 192), (3, 24, 3, 2, false, 193), (3, 27, 3, 3, false, 194), (3, 49, 1, 1, true, 136), (3, 70, 1, 0, true, 133), (4, 7, 4, 0, false, 109), (4, 13, 4, 1, false, 110), (4, 21, 4, 2, false, 111), (4, 25, 4, 3, false, 112), (5, 9, 5, 0, false, 233), (5, 20, 5, 1, false, 234), (5, 24, 5, 2, false, 235), (5, 27, 1, 0, true, 131), (5, 30, 1, 4, true, 146), (5, 37, 1, 6, true, 153), (5, 44, 1, 1, true, 137), (6, 9, 6, 0, false, 251), (6, 15, 6, 1, false, 252), (6, 18, 6, 2, false, 253), (6, 26, 6, 3, false, 254), (6, 30, 6, 4, false, 255), (6, 33, 6, 5, false, 256), (6, 36, 1, 0, true, 132), (6, 39, 1, 6, true, 154), (6, 59, 1, 4, true, 147), (6, 66, 1, 1, true, 138), (7, 14, 7, 0, false, 273), (7, 18, 7, 1, false, 274), (7, 24, 7, 2, false, 275), (7, 28, 7, 3, false, 276), (7, 31, 7, 4, false, 277), (7, 38, 7, 5, false, 278), (7, 45, 7, 6, false, 279), (7, 52, 7, 7, false, 280), (7, 59, 7, 8, false, 281), (7, 68, 7, 9, false, 282), (7, 72, 7, 10, false, 283), (7, 76, 7, 11, false, 284), (7, 79, 7, 12, false, 285), (7, 83, 7, 13, false, 286), (7, 141, 1, 0, true, 134), (7, 150, 1, 4, true, 149), (7, 165, 1, 3, true, 144), (7, 212, 6, 5, true, 257), (7, 299, 1, 1, true, 140), (7, 302, 1, 2, true, 142), (7, 305, 1, 6, true, 156), (7, 311, 1, 5, true, 151), (7, 339, 1, 7, true, 158)]
def bw_fl (o ix : Nat) : Option (Nat × Nat) := (bw_FT.find? (fun e => e.1 == o && e.2.1 == ix)).map (fun e => (e.2.2.1, e.2.2.2.1))
def bw_MT : List (Nat × Nat × Nat × bw_M × Nat × Nat × Nat × Nat × Nat) := [(0, 13, 2, bm_X0_get, 431, 330, 3, 71, 331),
  (1, 26, 5, bm_X0_init, 129, 97, 0, 71, 98),
  (1, 48, 3, bm_X0_take, 427, 429, 21, 71, 430),
  (1, 52, 3, bm_X0_set, 422, 107, 0, 71, 108),
  (1, 56, 2, bm_X1_allBears, 535, 537, 35, 72, 538),
  (1, 60, 3, bm_X0_get, 457, 330, 3, 71, 331),
  (1, 64, 1, bm_X7_isOfKind, 521, 522, 0, 69, 523),
  (1, 68, 2, bm_X1_change, 462, 464, 28, 72, 465),
  (1, 72, 1, bm_X7_isIn, 516, 467, 0, 69, 468),
  (1, 75, 2, bm_X1_seenBy, 517, 519, 33, 72, 520),
  (1, 79, 2, bm_X1_toldOf, 512, 514, 32, 72, 515),
  (1, 82, 0, bm_X1_onesOf, 524, 525, 0, 72, 526),
  (1, 86, 2, bm_X1_answerIf, 508, 510, 31, 72, 511),
  (2, 17, 5, bm_X0_init, 211, 97, 0, 71, 98),
  (2, 34, 3, bm_X4_has, 647, 347, 5, 70, 348),
  (2, 40, 3, bm_X4_sizeOf, 648, 351, 6, 70, 352),
  (2, 44, 3, bm_X4_get, 649, 360, 8, 70, 361),
  (2, 48, 3, bm_X0_set, 650, 107, 0, 71, 108),
  (2, 52, 3, bm_X0_get, 656, 330, 3, 71, 331),
  (2, 54, 3, bm_X1_answerIf, 666, 510, 31, 72, 511),
  (2, 65, 0, bm_X2_setsWith, 657, 658, 0, 74, 659),
  (2, 69, 2, bm_X2_fits, 662, 664, 52, 74, 665),
  (2, 79, 3, bm_X1_seenBy, 721, 519, 33, 72, 520),
  (2, 83, 1, bm_X7_isIn, 722, 467, 0, 69, 468),
  (3, 11, 5, bm_X0_init, 190, 97, 0, 71, 98),
  (3, 30, 2, bm_X3_open, 379, 381, 11, 73, 382),
  (3, 34, 3, bm_X1_clear, 386, 388, 12, 72, 389),
  (3, 39, 2, bm_X3_skipBlanks, 390, 392, 13, 73, 393),
  (3, 42, 2, bm_X3_byteHere, 395, 397, 14, 73, 398),
  (3, 46, 2, bm_X3_twoFigures, 399, 401, 15, 73, 402),
  (3, 52, 2, bm_X3_readBear, 411, 413, 18, 73, 414),
  (3, 56, 3, bm_X4_sizeOf, 383, 351, 6, 70, 352),
  (3, 62, 3, bm_X4_get, 384, 360, 8, 70, 361),
  (3, 66, 3, bm_X0_set, 385, 107, 0, 71, 108),
  (3, 73, 0, bm_X3_kindOfLetter, 415, 416, 0, 73, 417),
  (3, 76, 2, bm_X3_fail, 407, 409, 17, 73, 410),
  (3, 79, 2, bm_X3_oneFigure, 403, 405, 16, 73, 406),
  (3, 82, 3, bm_X1_seat, 418, 420, 19, 72, 421),
  (3, 86, 3, bm_X0_get, 394, 330, 3, 71, 331),
  (4, 18, 5, bm_X0_init, 96, 97, 0, 71, 98),
  (4, 28, 3, bm_X0_set, 105, 107, 0, 71, 108),
  (4, 32, 2, bm_X4_isNumber, 337, 322, 1, 70, 323),
  (4, 36, 3, bm_X0_get, 353, 330, 3, 71, 331),
  (4, 40, 2, bm_X4_sizeOf, 349, 351, 6, 70, 352),
  (4, 43, 2, bm_X4_hasPlace, 362, 356, 7, 70, 357),
  (4, 55, 2, bm_X4_get, 821, 360, 8, 70, 361),
  (4, 58, 2, bm_X4_has, 799, 347, 5, 70, 348),
  (5, 17, 5, bm_X0_init, 232, 97, 0, 71, 98),
  (5, 33, 3, bm_X0_get, 543, 330, 3, 71, 331),
  (5, 40, 3, bm_X1_toldOf, 544, 514, 32, 72, 515),
  (5, 47, 1, bm_X1_onesOf, 545, 525, 0, 72, 526),
  (5, 51, 3, bm_X0_set, 546, 107, 0, 71, 108),
  (5, 55, 1, bm_X7_isIn, 555, 467, 0, 69, 468),
  (5, 59, 2, bm_X5_balance, 551, 553, 38, 75, 554),
  (5, 63, 2, bm_X5_toldBy, 556, 558, 39, 75, 559),
  (6, 23, 5, bm_X0_init, 250, 97, 0, 71, 98),
  (6, 40, 3, bm_X0_get, 583, 330, 3, 71, 331),
  (6, 44, 3, bm_X0_set, 584, 107, 0, 71, 108),
  (6, 48, 1, bm_X7_isIn, 585, 467, 0, 69, 468),
  (6, 52, 0, bm_X6_worthIf, 586, 587, 0, 76, 588),
  (6, 56, 2, bm_X6_worthNow, 591, 593, 42, 76, 594),
  (6, 62, 3, bm_X1_toldOf, 589, 514, 32, 72, 515),
  (6, 69, 1, bm_X1_onesOf, 590, 525, 0, 72, 526),
  (6, 73, 2, bm_X6_pressOn, 599, 601, 44, 76, 602),
  (6, 77, 2, bm_X6_canWear, 603, 605, 45, 76, 606),
  (6, 80, 2, bm_X6_wearBy, 607, 609, 46, 76, 610),
  (6, 83, 2, bm_X6_playOut, 731, 729, 58, 76, 730),
  (7, 11, 5, bm_X4_init, 90, 91, 0, 70, 92),
  (7, 23, 5, bm_X1_init, 124, 125, 0, 72, 126),
  (7, 37, 5, bm_X3_init, 185, 186, 0, 73, 187),
  (7, 44, 5, bm_X2_init, 206, 207, 0, 74, 208),
  (7, 51, 5, bm_X5_init, 227, 228, 0, 75, 229),
  (7, 58, 5, bm_X6_init, 245, 246, 0, 76, 247),
  (7, 65, 5, bm_X0_init, 272, 97, 0, 71, 98),
  (7, 86, 3, bm_X4_isNumber, 320, 322, 1, 70, 323),
  (7, 90, 2, bm_X7_found, 324, 326, 2, 69, 327),
  (7, 94, 3, bm_X4_make, 333, 335, 4, 70, 336),
  (7, 98, 0, bm_X7_missingPlace, 342, 343, 0, 69, 344),
  (7, 102, 3, bm_X4_get, 358, 360, 8, 70, 361),
  (7, 106, 3, bm_X4_set, 363, 365, 9, 70, 366),
  (7, 109, 3, bm_X4_has, 345, 347, 5, 70, 348),
  (7, 130, 3, bm_X3_readInto, 375, 377, 10, 73, 378),
  (7, 134, 3, bm_X1_take, 423, 425, 20, 72, 426),
  (7, 138, 2, bm_X7_forgetKept, 432, 434, 22, 69, 435),
  (7, 144, 3, bm_X1_hasBear, 449, 451, 25, 72, 452),
  (7, 147, 2, bm_X7_ofBear, 811, 813, 66, 69, 814),
  (7, 153, 3, bm_X0_get, 328, 330, 3, 71, 331),
  (7, 162, 2, bm_X7_answerDeed, 445, 447, 24, 69, 448),
  (7, 168, 3, bm_X1_takeBackTo, 485, 487, 29, 72, 488),
  (7, 171, 2, bm_X7_keptIn, 436, 438, 23, 69, 439),
  (7, 175, 0, bm_X7_isThing, 501, 502, 0, 69, 503),
  (7, 178, 3, bm_X1_answerOf, 504, 506, 30, 72, 507),
  (7, 181, 3, bm_X1_isSet, 531, 533, 34, 72, 534),
  (7, 184, 3, bm_X5_hear, 539, 541, 36, 75, 542),
  (7, 187, 3, bm_X5_tiedBy, 547, 549, 37, 75, 550),
  (7, 190, 3, bm_X5_shownBy, 560, 562, 40, 75, 563),
  (7, 193, 3, bm_X1_allBears, 568, 537, 35, 72, 538),
  (7, 197, 0, bm_J6_bitCount_0f7a4, 569, 570, 0, 77, 571),
  (7, 202, 0, bm_X7_isIn, 466, 467, 0, 69, 468),
  (7, 205, 3, bm_X6_open, 579, 581, 41, 76, 582),
  (7, 209, 3, bm_X6_fewestPresses, 595, 597, 43, 76, 598),
  (7, 215, 3, bm_X5_toldBy, 615, 558, 39, 75, 559),
  (7, 218, 0, bm_X7_isFewer, 616, 617, 0, 69, 618),
  (7, 221, 3, bm_X5_clash, 623, 625, 47, 75, 626),
  (7, 224, 3, bm_X5_hasRivals, 631, 633, 48, 75, 634),
  (7, 227, 2, bm_X7_readLooks, 639, 641, 49, 69, 642),
  (7, 230, 3, bm_X2_fittingSets, 651, 653, 51, 74, 654),
  (7, 234, 0, bm_X7_leastOf, 667, 668, 0, 69, 669),
  (7, 238, 0, bm_J13_bitCount_95d88, 670, 671, 0, 79, 672),
  (7, 242, 2, bm_X7_tellPart, 676, 678, 53, 69, 679),
  (7, 246, 1, bm_X2_setsWith, 687, 658, 0, 74, 659),
  (7, 251, 2, bm_X7_greatestPart, 693, 695, 54, 69, 696),
  (7, 255, 3, bm_X2_fitKind, 705, 707, 55, 74, 708),
  (7, 259, 3, bm_X2_whoSpoke, 713, 715, 56, 74, 716),
  (7, 262, 3, bm_X2_whoKeptBack, 717, 719, 57, 74, 720),
  (7, 266, 3, bm_X6_playOut, 727, 729, 58, 76, 730),
  (7, 269, 0, bm_X7_isChance, 740, 741, 0, 69, 742),
  (7, 272, 2, bm_X7_weightOf, 743, 745, 59, 69, 746),
  (7, 276, 2, bm_X7_allWeight, 747, 749, 60, 69, 750),
  (7, 287, 0, bm_X7_actOfLot, 764, 765, 0, 69, 766),
  (7, 290, 3, bm_X1_canBe, 453, 455, 26, 72, 456),
  (7, 293, 3, bm_X1_commit, 458, 460, 27, 72, 461),
  (7, 296, 2, bm_X7_shownByAll, 767, 769, 61, 69, 770),
  (7, 308, 3, bm_X0_sum, 787, 789, 62, 71, 790),
  (7, 314, 3, bm_X1_thoseOfKind, 791, 793, 63, 72, 794),
  (7, 317, 3, bm_X4_thoseThere, 795, 797, 64, 70, 798),
  (7, 320, 2, bm_X7_keptCourts, 800, 802, 65, 69, 803),
  (7, 327, 2, bm_X7_count, 810, 784, 785, 69, 786),
  (7, 330, 3, bm_X4_digestFrom, 816, 818, 67, 70, 819),
  (7, 334, 3, bm_X0_set, 332, 107, 0, 71, 108),
  (7, 336, 3, bm_X4_hasPlace, 354, 356, 7, 70, 357),
  (7, 342, 3, bm_X1_toldOf, 815, 514, 32, 72, 515),
  (7, 346, 3, bm_X1_clear, 440, 388, 12, 72, 389),
  (7, 349, 3, bm_X2_readFrom, 643, 645, 50, 74, 646),
  (7, 352, 3, bm_X1_answerIf, 697, 510, 31, 72, 511),
  (7, 363, 0, bm_X7_commonDivisor, 680, 681, 0, 69, 682),
  (9, 9, 0, bm_L_cell, 822, 823, 0, 68, 824),
  (9, 15, 0, bm_L_up, 826, 827, 0, 68, 828),
  (9, 19, 2, bm_X7_put, 843, 844, 845, 69, 846),
  (9, 25, 2, bm_X7_text, 836, 837, 838, 69, 839),
  (9, 28, 0, bm_L_sign, 840, 841, 0, 68, 842),
  (9, 32, 0, bm_L_letter, 847, 848, 0, 68, 849),
  (9, 36, 2, bm_X7_court, 371, 372, 373, 69, 374),
  (9, 39, 2, bm_X7_bear, 856, 857, 858, 69, 859),
  (9, 42, 2, bm_X7_asked, 771, 772, 773, 69, 774),
  (9, 46, 4, bm_X7_init, 82, 83, 0, 69, 84),
  (9, 47, 0, bm_L_lay, 830, 831, 0, 68, 832),
  (9, 51, 0, bm_L_made, 833, 834, 0, 68, 835),
  (9, 56, 2, bm_X7_lots, 756, 757, 758, 69, 759),
  (9, 59, 2, bm_X7_count, 783, 784, 785, 69, 786),
  (9, 62, 0, bm_L_bits, 850, 851, 0, 68, 852),
  (9, 65, 2, bm_X7_keep, 489, 490, 491, 69, 492),
  (9, 68, 0, bm_L_told, 853, 854, 0, 68, 855),
  (9, 72, 2, bm_X7_tells, 497, 498, 499, 69, 500),
  (9, 75, 2, bm_X7_shown, 527, 528, 529, 69, 530),
  (9, 78, 2, bm_X7_duel, 723, 724, 725, 69, 726),
  (9, 81, 2, bm_X7_call, 564, 565, 566, 69, 567),
  (9, 84, 0, bm_L_asked, 860, 861, 0, 68, 862),
  (9, 87, 2, bm_X7_shake, 575, 576, 577, 69, 578),
  (9, 90, 2, bm_X7_at, 367, 368, 369, 69, 370),
  (9, 93, 2, bm_X7_press, 441, 442, 443, 69, 444),
  (9, 96, 2, bm_X7_on, 493, 494, 495, 69, 496),
  (9, 99, 2, bm_X7_cover, 611, 612, 613, 69, 614),
  (9, 102, 2, bm_X7_apart, 627, 628, 629, 69, 630),
  (9, 105, 2, bm_X7_rivals, 619, 620, 621, 69, 622),
  (9, 108, 2, bm_X7_row, 316, 317, 318, 69, 319),
  (9, 111, 2, bm_X7_lay, 338, 339, 340, 69, 341),
  (9, 113, 2, bm_X7_truths, 635, 636, 637, 69, 638),
  (9, 116, 2, bm_X7_upper, 775, 776, 777, 69, 778),
  (9, 122, 2, bm_X7_sure, 683, 684, 685, 69, 686),
  (9, 125, 2, bm_X7_next, 689, 690, 691, 69, 692),
  (9, 128, 2, bm_X7_walls, 709, 710, 711, 69, 712),
  (9, 133, 2, bm_X7_kinds, 701, 702, 703, 69, 704),
  (9, 136, 2, bm_X7_odds, 736, 737, 738, 69, 739),
  (9, 139, 2, bm_X7_lower, 779, 780, 781, 69, 782),
  (9, 142, 2, bm_X7_mid, 752, 753, 754, 69, 755),
  (9, 147, 2, bm_X7_mend, 469, 470, 471, 69, 472),
  (9, 150, 2, bm_X7_eye, 473, 474, 475, 69, 476),
  (9, 153, 2, bm_X7_turn, 477, 478, 479, 69, 480),
  (9, 156, 2, bm_X7_undo, 481, 482, 483, 69, 484),
  (9, 159, 2, bm_X7_digest, 804, 805, 806, 69, 807)]
def bw_mt (o ix : Nat) : Option (Nat × bw_M) := (bw_MT.find? (fun e => e.1 == o && e.2.1 == ix)).map (fun e => (e.2.2.1, e.2.2.2.1))
def bw_KT : List (Nat × Nat × Value × Nat) := [(2, 60, .long (-1), 655), (4, 61, .long (31), 820), (7, 249, .long (-1), 688), (7, 280, .int (2147483646), 760), (7, 281, .long (48271), 761), (7, 283, .long (2147483647), 762), (7, 285, .long (8), 763), (7, 323, .long (17), 808), (7, 325, .long (31), 809), (7, 361, .long (12), 751), (9, 7, .int (-1894007587), 825), (9, 8, .int (2147483647), 829), (9, 55, .int (2000000), 863), (9, 120, .long (64), 864), (9, 131, .long (2), 865), (9, 145, .long (6), 866), (10, 265, .int (1431655765), 572), (10, 266, .int (858993459), 573), (10, 267, .int (252645135), 574), (11, 314, .long (6148914691236517205), 673), (11, 316, .long (3689348814741910323), 674), (11, 318, .long (1085102592571150095), 675)]
def bw_kc (o ix : Nat) : Option Value := (bw_KT.find? (fun e => e.1 == o && e.2.1 == ix)).map (fun e => e.2.2.1)
def bw_NT : List (Nat × Nat × Nat × Nat × Nat × Nat) := [(1, 24, 0, 128, 95, 71), (2, 15, 0, 210, 95, 71), (3, 9, 0, 189, 95, 71), (4, 16, 0, 94, 95, 71), (5, 15, 0, 231, 95, 71), (6, 21, 0, 249, 95, 71), (7, 7, 4, 88, 89, 70), (7, 21, 1, 122, 123, 72), (7, 35, 3, 183, 184, 73), (7, 42, 2, 204, 205, 74), (7, 49, 5, 225, 226, 75), (7, 56, 6, 243, 244, 76), (7, 63, 0, 271, 95, 71), (9, 20, 7, 80, 81, 69)]
def bw_cl (o ix : Nat) : Option Nat := (bw_NT.find? (fun e => e.1 == o && e.2.1 == ix)).map (fun e => e.2.2.1)
def bw_anT : List (Nat × Nat × Nat) := [(7, 21, 122)]
def bw_an (o ix : Nat) : Bool := (bw_anT.find? (fun e => e.1 == o && e.2.1 == ix)).isSome
def bw_stT : List (Nat × Nat × Nat) := [(2, 30, 660)]
def bw_st (o ix : Nat) : Bool := (bw_stT.find? (fun e => e.1 == o && e.2.1 == ix)).isSome
def bw_oiT : List (Nat × Nat × Nat) := [(0, 1, 99), (1, 3, 127), (2, 3, 209), (3, 3, 188), (4, 1, 93), (5, 3, 230), (6, 3, 248), (7, 1, 85)]
def bw_oi (o ix : Nat) : Bool := (bw_oiT.find? (fun e => e.1 == o && e.2.1 == ix)).isSome
def bw_acT : List (Nat × Nat × Nat) := []
def bw_ac (o ix : Nat) : Bool := (bw_acT.find? (fun e => e.1 == o && e.2.1 == ix)).isSome
def bw_mxT : List (Nat × Nat × Bool × Nat) := [(6, 86, true, 732), (6, 92, false, 733), (7, 356, true, 698)]
def bw_mx (o ix : Nat) : Option Bool := (bw_mxT.find? (fun e => e.1 == o && e.2.1 == ix)).map (fun e => e.2.2.1)
end
section
/-- one instruction that is neither a call nor an end -/
def bw_x (X : Nat × (Nat → Int32)) (o nL : Nat) (ini : Bool) (i : Instr) : Nat → bw_L → List Value → bw_H → Option bw_C := match i with
  | .iload_n k => bq_il 1 (k : Nat)
  | .iload k => bq_il 2 k
  | .lload_n k => bq_ll 1 (k : Nat)
  | .lload k => bq_ll 2 k
  | .aload_n k => bq_al 1 (k : Nat)
  | .aload k => bq_al 2 k
  | .istore_n k => bq_is nL 1 (k : Nat)
  | .istore k => bq_is nL 2 k
  | .lstore_n k => bq_ls nL 1 (k : Nat)
  | .lstore k => bq_ls nL 2 k
  | .astore_n k => bq_as nL 1 (k : Nat)
  | .astore k => bq_as nL 2 k
  | .iinc k n => bq_ic nL k n
  | .iconst n => bq_cn 1 (.int (Int32.ofInt n))
  | .bipush n => bq_cn 2 (.int (Int8.ofInt n).toInt32)
  | .sipush n => bq_cn 3 (.int (Int16.ofInt n).toInt32)
  | .lconst n => bq_cn 1 (.long (Int64.ofNat (n : Nat)))
  | .aconst_null => bq_cn 1 .null
  | .ldc ix => match bw_kc o ix with
    | some (.int v) => bq_cn 2 (.int v)
    | _ => fun _ _ _ _ => none
  | .ldc_w ix => match bw_kc o ix with
    | some (.int v) => bq_cn 3 (.int v)
    | _ => fun _ _ _ _ => none
  | .ldc2_w ix => match bw_kc o ix with
    | some (.long v) => bq_cn 3 (.long v)
    | _ => fun _ _ _ _ => none
  | .iadd => bq_ii (fun x y => x + y)
  | .isub => bq_ii (fun x y => x - y)
  | .imul => bq_ii (fun x y => x * y)
  | .iand => bq_ii (fun x y => x &&& y)
  | .ior => bq_ii (fun x y => x ||| y)
  | .ixor => bq_ii (fun x y => x ^^^ y)
  | .ishl => bq_ii (fun x y => x <<< (y &&& 31))
  | .ishr => bq_ii (fun x y => x >>> (y &&& 31))
  | .iushr => bq_ii (fun x y => (x.toUInt32 >>> (y.toUInt32 &&& Int32.toUInt32 31)).toInt32)
  | .idiv => bq_id (fun x y => x / y)
  | .irem => bq_id (fun x y => x - x / y * y)
  | .ladd => bq_jj (fun x y => x + y)
  | .lsub => bq_jj (fun x y => x - y)
  | .lmul => bq_jj (fun x y => x * y)
  | .land => bq_jj (fun x y => x &&& y)
  | .lor => bq_jj (fun x y => x ||| y)
  | .lxor => bq_jj (fun x y => x ^^^ y)
  | .ldiv => bq_jd (fun x y => x / y)
  | .lrem => bq_jd (fun x y => x - x / y * y)
  | .lushr => bq_ju
  | .ineg => bq_i1 (fun x => .int (-x))
  | .i2l => bq_i1 (fun x => .long x.toInt64)
  | .i2b => bq_i1 (fun x => .int x.toInt8.toInt32)
  | .lneg => bq_j1 (fun x => .long (-x))
  | .l2i => bq_j1 (fun x => .int x.toInt32)
  | .lcmp => bq_cm
  | .dup => bq_du
  | .dup2 => bq_d2
  | .goto off => bq_go off
  | .ifCond .eq off => bq_if (fun x => decide (x = 0)) off
  | .ifCond .ne off => bq_if (fun x => decide (¬ x = 0)) off
  | .ifCond .lt off => bq_if (fun x => decide (x < 0)) off
  | .ifCond .ge off => bq_if (fun x => decide (0 ≤ x)) off
  | .ifCond .gt off => bq_if (fun x => decide (0 < x)) off
  | .ifCond .le off => bq_if (fun x => decide (x ≤ 0)) off
  | .if_icmp .eq off => bq_cp (fun x y => decide (x = y)) off
  | .if_icmp .ne off => bq_cp (fun x y => decide (¬ x = y)) off
  | .if_icmp .lt off => bq_cp (fun x y => decide (x < y)) off
  | .if_icmp .ge off => bq_cp (fun x y => decide (y ≤ x)) off
  | .if_icmp .gt off => bq_cp (fun x y => decide (y < x)) off
  | .if_icmp .le off => bq_cp (fun x y => decide (x ≤ y)) off
  | .ifnull off => bq_nu off
  | .ifnonnull off => bq_nn off
  | .tableswitch df lo hi offs => bq_ts df lo hi offs
  | .getfield ix => bq_gf (bw_fl o ix)
  | .putfield ix => bq_pf o ini (bw_fl o ix)
  | .getstatic ix => bq_gs (bw_st o ix)
  | .laload => bq_la
  | .iaload => bq_ia X
  | .baload => bq_ba
  | .aaload => bq_aa
  | .iastore => bq_ist
  | .bastore => bq_bst
  | .aastore => bq_ast
  | .arraylength => bq_len X
  | .new ix => bq_new (bw_cl o ix)
  | .newarray t => bq_na t
  | .anewarray ix => bq_an (bw_an o ix)
  | .invokespecial ix => bq_oi (bw_oi o ix)
  | .invokestatic ix => (match bw_mx o ix with
    | some b => bq_mx b
    | none => bq_ac (bw_ac o ix))
  | _ => fun _ _ _ _ => none
/-- an end: what is returned -/
def bw_e (rt : Option FieldType) (i : Instr) (st : List Value) : Option (Option Value) := match i, st with
  | .ireturn, [.int v] => (match rt with
    | some ty => if narrow ty (.int v) = .int v then some (some (.int v)) else none
    | none => none)
  | .lreturn, [.long v] => if rt = some .long then some (some (.long v)) else none
  | .areturn, [.ref a] => (match rt with
    | some (.object _) => some (some (.ref a))
    | _ => none)
  | .areturn, [.null] => (match rt with
    | some (.object _) => some (some .null)
    | _ => none)
  | .return_, [] => if rt = none then some none else none
  | _, _ => none
/-- a call: by its kind (0 static, 2 virtual, 4 init; 1 more: of a nest mate), the method, its arguments (receiver first), the rest -/
def bw_c (o : Nat) (i : Instr) (st : List Value) (h : bw_H) : Option (bw_M × Bool × List Value × List Value) := match i with
  | .invokestatic ix => (match bw_mt o ix with
    | some (kd, M) => if kd ≤ 1 ∧ M.2.2.2.2.2 ≤ st.length ∧ ((st.drop M.2.2.2.2.2).map fun v => v.category).sum ≤ 8 ∧ (lg_sl (st.take M.2.2.2.2.2).reverse).length ≤ M.2.2.2.1 ∧ M.2.2.2.1 ≤ 30
        then some (M, false, (st.take M.2.2.2.2.2).reverse, st.drop M.2.2.2.2.2) else none
    | none => none)
  | .invokevirtual ix => (match bw_mt o ix with
    | some (kd, M) => (match st.drop M.2.2.2.2.2 with
      | .ref a :: r => if (kd = 2 ∨ kd = 3) ∧ M.2.2.2.2.2 ≤ st.length ∧ a < bw_n h ∧ bw_k h a = .inl M.1 ∧ M.1 < 9 ∧ (r.map fun v => v.category).sum ≤ 8 ∧ (lg_sl (.ref a :: (st.take M.2.2.2.2.2).reverse)).length ≤ M.2.2.2.1 ∧ M.2.2.2.1 ≤ 30
        then some (M, false, .ref a :: (st.take M.2.2.2.2.2).reverse, r) else none
      | _ => none)
    | none => none)
  | .invokespecial ix => (match bw_mt o ix with
    | some (kd, M) => (match st.drop M.2.2.2.2.2 with
      | .ref a :: r => if (kd = 4 ∨ kd = 5) ∧ M.2.2.2.2.2 ≤ st.length ∧ M.2.1.name = "<init>" ∧ M.2.2.2.2.1 = none ∧ (r.map fun v => v.category).sum ≤ 8 ∧ (lg_sl (.ref a :: (st.take M.2.2.2.2.2).reverse)).length ≤ M.2.2.2.1 ∧ M.2.2.2.1 ≤ 30
        then some (M, true, .ref a :: (st.take M.2.2.2.2.2).reverse, r) else none
      | _ => none)
    | none => none)
  | _ => none
/-- how long an instruction is (0: by its table) -/
def bw_w (i : Instr) : Nat := match i with
  | .iload _ | .lload _ | .aload _ | .istore _ | .lstore _ | .astore _ | .bipush _ | .ldc _ | .newarray _ => 2
  | .sipush _ | .ldc_w _ | .ldc2_w _ | .iinc _ _ | .goto _ | .ifCond _ _ | .if_icmp _ _ | .ifnull _ | .ifnonnull _ | .getfield _ | .putfield _ | .getstatic _ | .new _ | .anewarray _ | .invokestatic _ | .invokevirtual _ | .invokespecial _ => 3
  | .tableswitch _ _ _ _ => 0
  | _ => 1
/-- runs n steps at most (of the method and of all that it calls), at most d calls deep -/
def bw_run (X : Nat × (Nat → Int32)) : Nat → Nat → Nat → Nat → Bool → Option FieldType → ByteArray → Nat → bw_L → List Value → bw_H → Option (Option Value × bw_H)
  | 0, _, _, _, _, _, _, _, _, _, _ => none
  | n + 1, d, o, nL, ini, rt, cc, pc, ls, st, h => match decode cc pc with
    | .error _ => none
    | .ok (i, len) => if ¬ (len = bw_w i ∨ bw_w i = 0) then none else match bw_x X o nL ini i pc ls st h with
      | some (pc', ls', st', h') => bw_run X n d o nL ini rt cc pc' ls' st' h'
      | none => match bw_e rt i st with
        | some v => some (v, h)
        | none => match d with
          | 0 => none
          | d' + 1 => match bw_c o i st h with
            | some (M, im, as, r) => (match bw_run X n d' M.1 M.2.2.2.1 im M.2.2.2.2.1 M.2.2.1 0 (lv_args 0 as) [] h with
              | some (v, h1) => bw_run X n d o nL ini rt cc (pc + 3) ls (v.toList ++ r) h1
              | none => none)
            | none => none
end
section
/-! single entries of the tables -/
theorem fl_0_7 : bw_fl 0 7 = some (0, 0) := by decide +kernel
theorem fl_1_9 : bw_fl 1 9 = some (1, 0) := by decide +kernel
theorem fl_1_15 : bw_fl 1 15 = some (1, 1) := by decide +kernel
theorem fl_1_18 : bw_fl 1 18 = some (1, 2) := by decide +kernel
theorem fl_1_21 : bw_fl 1 21 = some (1, 3) := by decide +kernel
theorem fl_1_29 : bw_fl 1 29 = some (1, 4) := by decide +kernel
theorem fl_1_33 : bw_fl 1 33 = some (1, 5) := by decide +kernel
theorem fl_1_36 : bw_fl 1 36 = some (1, 6) := by decide +kernel
theorem fl_1_39 : bw_fl 1 39 = some (1, 7) := by decide +kernel
theorem fl_1_42 : bw_fl 1 42 = some (1, 8) := by decide +kernel
theorem fl_1_45 : bw_fl 1 45 = some (1, 9) := by decide +kernel
theorem fl_2_9 : bw_fl 2 9 = some (2, 0) := by decide +kernel
theorem fl_2_20 : bw_fl 2 20 = some (2, 1) := by decide +kernel
theorem fl_2_24 : bw_fl 2 24 = some (2, 2) := by decide +kernel
theorem fl_2_27 : bw_fl 2 27 = some (2, 3) := by decide +kernel
theorem fl_2_62 : bw_fl 2 62 = some (1, 4) := by decide +kernel
theorem fl_2_73 : bw_fl 2 73 = some (1, 1) := by decide +kernel
theorem fl_2_76 : bw_fl 2 76 = some (1, 6) := by decide +kernel
theorem fl_3_14 : bw_fl 3 14 = some (3, 0) := by decide +kernel
theorem fl_3_20 : bw_fl 3 20 = some (3, 1) := by decide +kernel
theorem fl_3_24 : bw_fl 3 24 = some (3, 2) := by decide +kernel
theorem fl_3_27 : bw_fl 3 27 = some (3, 3) := by decide +kernel
theorem fl_3_49 : bw_fl 3 49 = some (1, 1) := by decide +kernel
theorem fl_3_70 : bw_fl 3 70 = some (1, 0) := by decide +kernel
theorem fl_4_7 : bw_fl 4 7 = some (4, 0) := by decide +kernel
theorem fl_4_13 : bw_fl 4 13 = some (4, 1) := by decide +kernel
theorem fl_4_21 : bw_fl 4 21 = some (4, 2) := by decide +kernel
theorem fl_4_25 : bw_fl 4 25 = some (4, 3) := by decide +kernel
theorem fl_5_9 : bw_fl 5 9 = some (5, 0) := by decide +kernel
theorem fl_5_20 : bw_fl 5 20 = some (5, 1) := by decide +kernel
theorem fl_5_24 : bw_fl 5 24 = some (5, 2) := by decide +kernel
theorem fl_5_27 : bw_fl 5 27 = some (1, 0) := by decide +kernel
theorem fl_5_30 : bw_fl 5 30 = some (1, 4) := by decide +kernel
theorem fl_5_37 : bw_fl 5 37 = some (1, 6) := by decide +kernel
theorem fl_5_44 : bw_fl 5 44 = some (1, 1) := by decide +kernel
theorem fl_6_9 : bw_fl 6 9 = some (6, 0) := by decide +kernel
theorem fl_6_15 : bw_fl 6 15 = some (6, 1) := by decide +kernel
theorem fl_6_18 : bw_fl 6 18 = some (6, 2) := by decide +kernel
theorem fl_6_26 : bw_fl 6 26 = some (6, 3) := by decide +kernel
theorem fl_6_30 : bw_fl 6 30 = some (6, 4) := by decide +kernel
theorem fl_6_33 : bw_fl 6 33 = some (6, 5) := by decide +kernel
theorem fl_6_36 : bw_fl 6 36 = some (1, 0) := by decide +kernel
theorem fl_6_39 : bw_fl 6 39 = some (1, 6) := by decide +kernel
theorem fl_6_59 : bw_fl 6 59 = some (1, 4) := by decide +kernel
theorem fl_6_66 : bw_fl 6 66 = some (1, 1) := by decide +kernel
theorem fl_7_14 : bw_fl 7 14 = some (7, 0) := by decide +kernel
theorem fl_7_18 : bw_fl 7 18 = some (7, 1) := by decide +kernel
theorem fl_7_24 : bw_fl 7 24 = some (7, 2) := by decide +kernel
theorem fl_7_28 : bw_fl 7 28 = some (7, 3) := by decide +kernel
theorem fl_7_31 : bw_fl 7 31 = some (7, 4) := by decide +kernel
theorem fl_7_38 : bw_fl 7 38 = some (7, 5) := by decide +kernel
theorem fl_7_45 : bw_fl 7 45 = some (7, 6) := by decide +kernel
theorem fl_7_52 : bw_fl 7 52 = some (7, 7) := by decide +kernel
theorem fl_7_59 : bw_fl 7 59 = some (7, 8) := by decide +kernel
theorem fl_7_68 : bw_fl 7 68 = some (7, 9) := by decide +kernel
theorem fl_7_72 : bw_fl 7 72 = some (7, 10) := by decide +kernel
theorem fl_7_76 : bw_fl 7 76 = some (7, 11) := by decide +kernel
theorem fl_7_79 : bw_fl 7 79 = some (7, 12) := by decide +kernel
theorem fl_7_83 : bw_fl 7 83 = some (7, 13) := by decide +kernel
theorem fl_7_141 : bw_fl 7 141 = some (1, 0) := by decide +kernel
theorem fl_7_150 : bw_fl 7 150 = some (1, 4) := by decide +kernel
theorem fl_7_165 : bw_fl 7 165 = some (1, 3) := by decide +kernel
theorem fl_7_212 : bw_fl 7 212 = some (6, 5) := by decide +kernel
theorem fl_7_299 : bw_fl 7 299 = some (1, 1) := by decide +kernel
theorem fl_7_302 : bw_fl 7 302 = some (1, 2) := by decide +kernel
theorem fl_7_305 : bw_fl 7 305 = some (1, 6) := by decide +kernel
theorem fl_7_311 : bw_fl 7 311 = some (1, 5) := by decide +kernel
theorem fl_7_339 : bw_fl 7 339 = some (1, 7) := by decide +kernel
set_option maxRecDepth 20000 in
theorem mt_0_13 : bw_mt 0 13 = some (2, bm_X0_get) := rfl
set_option maxRecDepth 20000 in
theorem mt_1_26 : bw_mt 1 26 = some (5, bm_X0_init) := rfl
set_option maxRecDepth 20000 in
theorem mt_1_48 : bw_mt 1 48 = some (3, bm_X0_take) := rfl
set_option maxRecDepth 20000 in
theorem mt_1_52 : bw_mt 1 52 = some (3, bm_X0_set) := rfl
set_option maxRecDepth 20000 in
theorem mt_1_56 : bw_mt 1 56 = some (2, bm_X1_allBears) := rfl
set_option maxRecDepth 20000 in
theorem mt_1_60 : bw_mt 1 60 = some (3, bm_X0_get) := rfl
set_option maxRecDepth 20000 in
theorem mt_1_64 : bw_mt 1 64 = some (1, bm_X7_isOfKind) := rfl
set_option maxRecDepth 20000 in
theorem mt_1_68 : bw_mt 1 68 = some (2, bm_X1_change) := rfl
set_option maxRecDepth 20000 in
theorem mt_1_72 : bw_mt 1 72 = some (1, bm_X7_isIn) := rfl
set_option maxRecDepth 20000 in
theorem mt_1_75 : bw_mt 1 75 = some (2, bm_X1_seenBy) := rfl
set_option maxRecDepth 20000 in
theorem mt_1_79 : bw_mt 1 79 = some (2, bm_X1_toldOf) := rfl
set_option maxRecDepth 20000 in
theorem mt_1_82 : bw_mt 1 82 = some (0, bm_X1_onesOf) := rfl
set_option maxRecDepth 20000 in
theorem mt_1_86 : bw_mt 1 86 = some (2, bm_X1_answerIf) := rfl
set_option maxRecDepth 20000 in
theorem mt_2_17 : bw_mt 2 17 = some (5, bm_X0_init) := rfl
set_option maxRecDepth 20000 in
theorem mt_2_34 : bw_mt 2 34 = some (3, bm_X4_has) := rfl
set_option maxRecDepth 20000 in
theorem mt_2_40 : bw_mt 2 40 = some (3, bm_X4_sizeOf) := rfl
set_option maxRecDepth 20000 in
theorem mt_2_44 : bw_mt 2 44 = some (3, bm_X4_get) := rfl
set_option maxRecDepth 20000 in
theorem mt_2_48 : bw_mt 2 48 = some (3, bm_X0_set) := rfl
set_option maxRecDepth 20000 in
theorem mt_2_52 : bw_mt 2 52 = some (3, bm_X0_get) := rfl
set_option maxRecDepth 20000 in
theorem mt_2_54 : bw_mt 2 54 = some (3, bm_X1_answerIf) := rfl
set_option maxRecDepth 20000 in
theorem mt_2_65 : bw_mt 2 65 = some (0, bm_X2_setsWith) := rfl
set_option maxRecDepth 20000 in
theorem mt_2_69 : bw_mt 2 69 = some (2, bm_X2_fits) := rfl
set_option maxRecDepth 20000 in
theorem mt_2_79 : bw_mt 2 79 = some (3, bm_X1_seenBy) := rfl
set_option maxRecDepth 20000 in
theorem mt_2_83 : bw_mt 2 83 = some (1, bm_X7_isIn) := rfl
set_option maxRecDepth 20000 in
theorem mt_3_11 : bw_mt 3 11 = some (5, bm_X0_init) := rfl
set_option maxRecDepth 20000 in
theorem mt_3_30 : bw_mt 3 30 = some (2, bm_X3_open) := rfl
set_option maxRecDepth 20000 in
theorem mt_3_34 : bw_mt 3 34 = some (3, bm_X1_clear) := rfl
set_option maxRecDepth 20000 in
theorem mt_3_39 : bw_mt 3 39 = some (2, bm_X3_skipBlanks) := rfl
set_option maxRecDepth 20000 in
theorem mt_3_42 : bw_mt 3 42 = some (2, bm_X3_byteHere) := rfl
set_option maxRecDepth 20000 in
theorem mt_3_46 : bw_mt 3 46 = some (2, bm_X3_twoFigures) := rfl
set_option maxRecDepth 20000 in
theorem mt_3_52 : bw_mt 3 52 = some (2, bm_X3_readBear) := rfl
set_option maxRecDepth 20000 in
theorem mt_3_56 : bw_mt 3 56 = some (3, bm_X4_sizeOf) := rfl
set_option maxRecDepth 20000 in
theorem mt_3_62 : bw_mt 3 62 = some (3, bm_X4_get) := rfl
set_option maxRecDepth 20000 in
theorem mt_3_66 : bw_mt 3 66 = some (3, bm_X0_set) := rfl
set_option maxRecDepth 20000 in
theorem mt_3_73 : bw_mt 3 73 = some (0, bm_X3_kindOfLetter) := rfl
set_option maxRecDepth 20000 in
theorem mt_3_76 : bw_mt 3 76 = some (2, bm_X3_fail) := rfl
set_option maxRecDepth 20000 in
theorem mt_3_79 : bw_mt 3 79 = some (2, bm_X3_oneFigure) := rfl
set_option maxRecDepth 20000 in
theorem mt_3_82 : bw_mt 3 82 = some (3, bm_X1_seat) := rfl
set_option maxRecDepth 20000 in
theorem mt_3_86 : bw_mt 3 86 = some (3, bm_X0_get) := rfl
set_option maxRecDepth 20000 in
theorem mt_4_18 : bw_mt 4 18 = some (5, bm_X0_init) := rfl
set_option maxRecDepth 20000 in
theorem mt_4_28 : bw_mt 4 28 = some (3, bm_X0_set) := rfl
set_option maxRecDepth 20000 in
theorem mt_4_32 : bw_mt 4 32 = some (2, bm_X4_isNumber) := rfl
set_option maxRecDepth 20000 in
theorem mt_4_36 : bw_mt 4 36 = some (3, bm_X0_get) := rfl
set_option maxRecDepth 20000 in
theorem mt_4_40 : bw_mt 4 40 = some (2, bm_X4_sizeOf) := rfl
set_option maxRecDepth 20000 in
theorem mt_4_43 : bw_mt 4 43 = some (2, bm_X4_hasPlace) := rfl
set_option maxRecDepth 20000 in
theorem mt_4_55 : bw_mt 4 55 = some (2, bm_X4_get) := rfl
set_option maxRecDepth 20000 in
theorem mt_4_58 : bw_mt 4 58 = some (2, bm_X4_has) := rfl
set_option maxRecDepth 20000 in
theorem mt_5_17 : bw_mt 5 17 = some (5, bm_X0_init) := rfl
set_option maxRecDepth 20000 in
theorem mt_5_33 : bw_mt 5 33 = some (3, bm_X0_get) := rfl
set_option maxRecDepth 20000 in
theorem mt_5_40 : bw_mt 5 40 = some (3, bm_X1_toldOf) := rfl
set_option maxRecDepth 20000 in
theorem mt_5_47 : bw_mt 5 47 = some (1, bm_X1_onesOf) := rfl
set_option maxRecDepth 20000 in
theorem mt_5_51 : bw_mt 5 51 = some (3, bm_X0_set) := rfl
set_option maxRecDepth 20000 in
theorem mt_5_55 : bw_mt 5 55 = some (1, bm_X7_isIn) := rfl
set_option maxRecDepth 20000 in
theorem mt_5_59 : bw_mt 5 59 = some (2, bm_X5_balance) := rfl
set_option maxRecDepth 20000 in
theorem mt_5_63 : bw_mt 5 63 = some (2, bm_X5_toldBy) := rfl
set_option maxRecDepth 20000 in
theorem mt_6_23 : bw_mt 6 23 = some (5, bm_X0_init) := rfl
set_option maxRecDepth 20000 in
theorem mt_6_40 : bw_mt 6 40 = some (3, bm_X0_get) := rfl
set_option maxRecDepth 20000 in
theorem mt_6_44 : bw_mt 6 44 = some (3, bm_X0_set) := rfl
set_option maxRecDepth 20000 in
theorem mt_6_48 : bw_mt 6 48 = some (1, bm_X7_isIn) := rfl
set_option maxRecDepth 20000 in
theorem mt_6_52 : bw_mt 6 52 = some (0, bm_X6_worthIf) := rfl
set_option maxRecDepth 20000 in
theorem mt_6_56 : bw_mt 6 56 = some (2, bm_X6_worthNow) := rfl
set_option maxRecDepth 20000 in
theorem mt_6_62 : bw_mt 6 62 = some (3, bm_X1_toldOf) := rfl
set_option maxRecDepth 20000 in
theorem mt_6_69 : bw_mt 6 69 = some (1, bm_X1_onesOf) := rfl
set_option maxRecDepth 20000 in
theorem mt_6_73 : bw_mt 6 73 = some (2, bm_X6_pressOn) := rfl
set_option maxRecDepth 20000 in
theorem mt_6_77 : bw_mt 6 77 = some (2, bm_X6_canWear) := rfl
set_option maxRecDepth 20000 in
theorem mt_6_80 : bw_mt 6 80 = some (2, bm_X6_wearBy) := rfl
set_option maxRecDepth 20000 in
theorem mt_6_83 : bw_mt 6 83 = some (2, bm_X6_playOut) := rfl
set_option maxRecDepth 20000 in
theorem mt_7_11 : bw_mt 7 11 = some (5, bm_X4_init) := rfl
set_option maxRecDepth 20000 in
theorem mt_7_23 : bw_mt 7 23 = some (5, bm_X1_init) := rfl
set_option maxRecDepth 20000 in
theorem mt_7_37 : bw_mt 7 37 = some (5, bm_X3_init) := rfl
set_option maxRecDepth 20000 in
theorem mt_7_44 : bw_mt 7 44 = some (5, bm_X2_init) := rfl
set_option maxRecDepth 20000 in
theorem mt_7_51 : bw_mt 7 51 = some (5, bm_X5_init) := rfl
set_option maxRecDepth 20000 in
theorem mt_7_58 : bw_mt 7 58 = some (5, bm_X6_init) := rfl
set_option maxRecDepth 20000 in
theorem mt_7_65 : bw_mt 7 65 = some (5, bm_X0_init) := rfl
set_option maxRecDepth 20000 in
theorem mt_7_86 : bw_mt 7 86 = some (3, bm_X4_isNumber) := rfl
set_option maxRecDepth 20000 in
theorem mt_7_90 : bw_mt 7 90 = some (2, bm_X7_found) := rfl
set_option maxRecDepth 20000 in
theorem mt_7_94 : bw_mt 7 94 = some (3, bm_X4_make) := rfl
set_option maxRecDepth 20000 in
theorem mt_7_98 : bw_mt 7 98 = some (0, bm_X7_missingPlace) := rfl
set_option maxRecDepth 20000 in
theorem mt_7_102 : bw_mt 7 102 = some (3, bm_X4_get) := rfl
set_option maxRecDepth 20000 in
theorem mt_7_106 : bw_mt 7 106 = some (3, bm_X4_set) := rfl
set_option maxRecDepth 20000 in
theorem mt_7_109 : bw_mt 7 109 = some (3, bm_X4_has) := rfl
set_option maxRecDepth 20000 in
theorem mt_7_130 : bw_mt 7 130 = some (3, bm_X3_readInto) := rfl
set_option maxRecDepth 20000 in
theorem mt_7_134 : bw_mt 7 134 = some (3, bm_X1_take) := rfl
set_option maxRecDepth 20000 in
theorem mt_7_138 : bw_mt 7 138 = some (2, bm_X7_forgetKept) := rfl
set_option maxRecDepth 20000 in
theorem mt_7_144 : bw_mt 7 144 = some (3, bm_X1_hasBear) := rfl
set_option maxRecDepth 20000 in
theorem mt_7_147 : bw_mt 7 147 = some (2, bm_X7_ofBear) := rfl
set_option maxRecDepth 20000 in
theorem mt_7_153 : bw_mt 7 153 = some (3, bm_X0_get) := rfl
set_option maxRecDepth 20000 in
theorem mt_7_162 : bw_mt 7 162 = some (2, bm_X7_answerDeed) := rfl
set_option maxRecDepth 20000 in
theorem mt_7_168 : bw_mt 7 168 = some (3, bm_X1_takeBackTo) := rfl
set_option maxRecDepth 20000 in
theorem mt_7_171 : bw_mt 7 171 = some (2, bm_X7_keptIn) := rfl
set_option maxRecDepth 20000 in
theorem mt_7_175 : bw_mt 7 175 = some (0, bm_X7_isThing) := rfl
set_option maxRecDepth 20000 in
theorem mt_7_178 : bw_mt 7 178 = some (3, bm_X1_answerOf) := rfl
set_option maxRecDepth 20000 in
theorem mt_7_181 : bw_mt 7 181 = some (3, bm_X1_isSet) := rfl
set_option maxRecDepth 20000 in
theorem mt_7_184 : bw_mt 7 184 = some (3, bm_X5_hear) := rfl
set_option maxRecDepth 20000 in
theorem mt_7_187 : bw_mt 7 187 = some (3, bm_X5_tiedBy) := rfl
set_option maxRecDepth 20000 in
theorem mt_7_190 : bw_mt 7 190 = some (3, bm_X5_shownBy) := rfl
set_option maxRecDepth 20000 in
theorem mt_7_193 : bw_mt 7 193 = some (3, bm_X1_allBears) := rfl
set_option maxRecDepth 20000 in
theorem mt_7_197 : bw_mt 7 197 = some (0, bm_J6_bitCount_0f7a4) := rfl
set_option maxRecDepth 20000 in
theorem mt_7_202 : bw_mt 7 202 = some (0, bm_X7_isIn) := rfl
set_option maxRecDepth 20000 in
theorem mt_7_205 : bw_mt 7 205 = some (3, bm_X6_open) := rfl
set_option maxRecDepth 20000 in
theorem mt_7_209 : bw_mt 7 209 = some (3, bm_X6_fewestPresses) := rfl
set_option maxRecDepth 20000 in
theorem mt_7_215 : bw_mt 7 215 = some (3, bm_X5_toldBy) := rfl
set_option maxRecDepth 20000 in
theorem mt_7_218 : bw_mt 7 218 = some (0, bm_X7_isFewer) := rfl
set_option maxRecDepth 20000 in
theorem mt_7_221 : bw_mt 7 221 = some (3, bm_X5_clash) := rfl
set_option maxRecDepth 20000 in
theorem mt_7_224 : bw_mt 7 224 = some (3, bm_X5_hasRivals) := rfl
set_option maxRecDepth 20000 in
theorem mt_7_227 : bw_mt 7 227 = some (2, bm_X7_readLooks) := rfl
set_option maxRecDepth 20000 in
theorem mt_7_230 : bw_mt 7 230 = some (3, bm_X2_fittingSets) := rfl
set_option maxRecDepth 20000 in
theorem mt_7_234 : bw_mt 7 234 = some (0, bm_X7_leastOf) := rfl
set_option maxRecDepth 20000 in
theorem mt_7_238 : bw_mt 7 238 = some (0, bm_J13_bitCount_95d88) := rfl
set_option maxRecDepth 20000 in
theorem mt_7_242 : bw_mt 7 242 = some (2, bm_X7_tellPart) := rfl
set_option maxRecDepth 20000 in
theorem mt_7_246 : bw_mt 7 246 = some (1, bm_X2_setsWith) := rfl
set_option maxRecDepth 20000 in
theorem mt_7_251 : bw_mt 7 251 = some (2, bm_X7_greatestPart) := rfl
set_option maxRecDepth 20000 in
theorem mt_7_255 : bw_mt 7 255 = some (3, bm_X2_fitKind) := rfl
set_option maxRecDepth 20000 in
theorem mt_7_259 : bw_mt 7 259 = some (3, bm_X2_whoSpoke) := rfl
set_option maxRecDepth 20000 in
theorem mt_7_262 : bw_mt 7 262 = some (3, bm_X2_whoKeptBack) := rfl
set_option maxRecDepth 20000 in
theorem mt_7_266 : bw_mt 7 266 = some (3, bm_X6_playOut) := rfl
set_option maxRecDepth 20000 in
theorem mt_7_269 : bw_mt 7 269 = some (0, bm_X7_isChance) := rfl
set_option maxRecDepth 20000 in
theorem mt_7_272 : bw_mt 7 272 = some (2, bm_X7_weightOf) := rfl
set_option maxRecDepth 20000 in
theorem mt_7_276 : bw_mt 7 276 = some (2, bm_X7_allWeight) := rfl
set_option maxRecDepth 20000 in
theorem mt_7_287 : bw_mt 7 287 = some (0, bm_X7_actOfLot) := rfl
set_option maxRecDepth 20000 in
theorem mt_7_290 : bw_mt 7 290 = some (3, bm_X1_canBe) := rfl
set_option maxRecDepth 20000 in
theorem mt_7_293 : bw_mt 7 293 = some (3, bm_X1_commit) := rfl
set_option maxRecDepth 20000 in
theorem mt_7_296 : bw_mt 7 296 = some (2, bm_X7_shownByAll) := rfl
set_option maxRecDepth 20000 in
theorem mt_7_308 : bw_mt 7 308 = some (3, bm_X0_sum) := rfl
set_option maxRecDepth 20000 in
theorem mt_7_314 : bw_mt 7 314 = some (3, bm_X1_thoseOfKind) := rfl
set_option maxRecDepth 20000 in
theorem mt_7_317 : bw_mt 7 317 = some (3, bm_X4_thoseThere) := rfl
set_option maxRecDepth 20000 in
theorem mt_7_320 : bw_mt 7 320 = some (2, bm_X7_keptCourts) := rfl
set_option maxRecDepth 20000 in
theorem mt_7_327 : bw_mt 7 327 = some (2, bm_X7_count) := rfl
set_option maxRecDepth 20000 in
theorem mt_7_330 : bw_mt 7 330 = some (3, bm_X4_digestFrom) := rfl
set_option maxRecDepth 20000 in
theorem mt_7_334 : bw_mt 7 334 = some (3, bm_X0_set) := rfl
set_option maxRecDepth 20000 in
theorem mt_7_336 : bw_mt 7 336 = some (3, bm_X4_hasPlace) := rfl
set_option maxRecDepth 20000 in
theorem mt_7_342 : bw_mt 7 342 = some (3, bm_X1_toldOf) := rfl
set_option maxRecDepth 20000 in
theorem mt_7_346 : bw_mt 7 346 = some (3, bm_X1_clear) := rfl
set_option maxRecDepth 20000 in
theorem mt_7_349 : bw_mt 7 349 = some (3, bm_X2_readFrom) := rfl
set_option maxRecDepth 20000 in
theorem mt_7_352 : bw_mt 7 352 = some (3, bm_X1_answerIf) := rfl
set_option maxRecDepth 20000 in
theorem mt_7_363 : bw_mt 7 363 = some (0, bm_X7_commonDivisor) := rfl
set_option maxRecDepth 20000 in
theorem mt_9_9 : bw_mt 9 9 = some (0, bm_L_cell) := rfl
set_option maxRecDepth 20000 in
theorem mt_9_15 : bw_mt 9 15 = some (0, bm_L_up) := rfl
set_option maxRecDepth 20000 in
theorem mt_9_19 : bw_mt 9 19 = some (2, bm_X7_put) := rfl
set_option maxRecDepth 20000 in
theorem mt_9_25 : bw_mt 9 25 = some (2, bm_X7_text) := rfl
set_option maxRecDepth 20000 in
theorem mt_9_28 : bw_mt 9 28 = some (0, bm_L_sign) := rfl
set_option maxRecDepth 20000 in
theorem mt_9_32 : bw_mt 9 32 = some (0, bm_L_letter) := rfl
set_option maxRecDepth 20000 in
theorem mt_9_36 : bw_mt 9 36 = some (2, bm_X7_court) := rfl
set_option maxRecDepth 20000 in
theorem mt_9_39 : bw_mt 9 39 = some (2, bm_X7_bear) := rfl
set_option maxRecDepth 20000 in
theorem mt_9_42 : bw_mt 9 42 = some (2, bm_X7_asked) := rfl
set_option maxRecDepth 20000 in
theorem mt_9_46 : bw_mt 9 46 = some (4, bm_X7_init) := rfl
set_option maxRecDepth 20000 in
theorem mt_9_47 : bw_mt 9 47 = some (0, bm_L_lay) := rfl
set_option maxRecDepth 20000 in
theorem mt_9_51 : bw_mt 9 51 = some (0, bm_L_made) := rfl
set_option maxRecDepth 20000 in
theorem mt_9_56 : bw_mt 9 56 = some (2, bm_X7_lots) := rfl
set_option maxRecDepth 20000 in
theorem mt_9_59 : bw_mt 9 59 = some (2, bm_X7_count) := rfl
set_option maxRecDepth 20000 in
theorem mt_9_62 : bw_mt 9 62 = some (0, bm_L_bits) := rfl
set_option maxRecDepth 20000 in
theorem mt_9_65 : bw_mt 9 65 = some (2, bm_X7_keep) := rfl
set_option maxRecDepth 20000 in
theorem mt_9_68 : bw_mt 9 68 = some (0, bm_L_told) := rfl
set_option maxRecDepth 20000 in
theorem mt_9_72 : bw_mt 9 72 = some (2, bm_X7_tells) := rfl
set_option maxRecDepth 20000 in
theorem mt_9_75 : bw_mt 9 75 = some (2, bm_X7_shown) := rfl
set_option maxRecDepth 20000 in
theorem mt_9_78 : bw_mt 9 78 = some (2, bm_X7_duel) := rfl
set_option maxRecDepth 20000 in
theorem mt_9_81 : bw_mt 9 81 = some (2, bm_X7_call) := rfl
set_option maxRecDepth 20000 in
theorem mt_9_84 : bw_mt 9 84 = some (0, bm_L_asked) := rfl
set_option maxRecDepth 20000 in
theorem mt_9_87 : bw_mt 9 87 = some (2, bm_X7_shake) := rfl
set_option maxRecDepth 20000 in
theorem mt_9_90 : bw_mt 9 90 = some (2, bm_X7_at) := rfl
set_option maxRecDepth 20000 in
theorem mt_9_93 : bw_mt 9 93 = some (2, bm_X7_press) := rfl
set_option maxRecDepth 20000 in
theorem mt_9_96 : bw_mt 9 96 = some (2, bm_X7_on) := rfl
set_option maxRecDepth 20000 in
theorem mt_9_99 : bw_mt 9 99 = some (2, bm_X7_cover) := rfl
set_option maxRecDepth 20000 in
theorem mt_9_102 : bw_mt 9 102 = some (2, bm_X7_apart) := rfl
set_option maxRecDepth 20000 in
theorem mt_9_105 : bw_mt 9 105 = some (2, bm_X7_rivals) := rfl
set_option maxRecDepth 20000 in
theorem mt_9_108 : bw_mt 9 108 = some (2, bm_X7_row) := rfl
set_option maxRecDepth 20000 in
theorem mt_9_111 : bw_mt 9 111 = some (2, bm_X7_lay) := rfl
set_option maxRecDepth 20000 in
theorem mt_9_113 : bw_mt 9 113 = some (2, bm_X7_truths) := rfl
set_option maxRecDepth 20000 in
theorem mt_9_116 : bw_mt 9 116 = some (2, bm_X7_upper) := rfl
set_option maxRecDepth 20000 in
theorem mt_9_122 : bw_mt 9 122 = some (2, bm_X7_sure) := rfl
set_option maxRecDepth 20000 in
theorem mt_9_125 : bw_mt 9 125 = some (2, bm_X7_next) := rfl
set_option maxRecDepth 20000 in
theorem mt_9_128 : bw_mt 9 128 = some (2, bm_X7_walls) := rfl
set_option maxRecDepth 20000 in
theorem mt_9_133 : bw_mt 9 133 = some (2, bm_X7_kinds) := rfl
set_option maxRecDepth 20000 in
theorem mt_9_136 : bw_mt 9 136 = some (2, bm_X7_odds) := rfl
set_option maxRecDepth 20000 in
theorem mt_9_139 : bw_mt 9 139 = some (2, bm_X7_lower) := rfl
set_option maxRecDepth 20000 in
theorem mt_9_142 : bw_mt 9 142 = some (2, bm_X7_mid) := rfl
set_option maxRecDepth 20000 in
theorem mt_9_147 : bw_mt 9 147 = some (2, bm_X7_mend) := rfl
set_option maxRecDepth 20000 in
theorem mt_9_150 : bw_mt 9 150 = some (2, bm_X7_eye) := rfl
set_option maxRecDepth 20000 in
theorem mt_9_153 : bw_mt 9 153 = some (2, bm_X7_turn) := rfl
set_option maxRecDepth 20000 in
theorem mt_9_156 : bw_mt 9 156 = some (2, bm_X7_undo) := rfl
set_option maxRecDepth 20000 in
theorem mt_9_159 : bw_mt 9 159 = some (2, bm_X7_digest) := rfl
theorem kc_2_60 : bw_kc 2 60 = some (.long (-1)) := by decide +kernel
theorem kc_4_61 : bw_kc 4 61 = some (.long (31)) := by decide +kernel
theorem kc_7_249 : bw_kc 7 249 = some (.long (-1)) := by decide +kernel
theorem kc_7_280 : bw_kc 7 280 = some (.int (2147483646)) := by decide +kernel
theorem kc_7_281 : bw_kc 7 281 = some (.long (48271)) := by decide +kernel
theorem kc_7_283 : bw_kc 7 283 = some (.long (2147483647)) := by decide +kernel
theorem kc_7_285 : bw_kc 7 285 = some (.long (8)) := by decide +kernel
theorem kc_7_323 : bw_kc 7 323 = some (.long (17)) := by decide +kernel
theorem kc_7_325 : bw_kc 7 325 = some (.long (31)) := by decide +kernel
theorem kc_7_361 : bw_kc 7 361 = some (.long (12)) := by decide +kernel
theorem kc_9_7 : bw_kc 9 7 = some (.int (-1894007587)) := by decide +kernel
theorem kc_9_8 : bw_kc 9 8 = some (.int (2147483647)) := by decide +kernel
theorem kc_9_55 : bw_kc 9 55 = some (.int (2000000)) := by decide +kernel
theorem kc_9_120 : bw_kc 9 120 = some (.long (64)) := by decide +kernel
theorem kc_9_131 : bw_kc 9 131 = some (.long (2)) := by decide +kernel
theorem kc_9_145 : bw_kc 9 145 = some (.long (6)) := by decide +kernel
theorem kc_10_265 : bw_kc 10 265 = some (.int (1431655765)) := by decide +kernel
theorem kc_10_266 : bw_kc 10 266 = some (.int (858993459)) := by decide +kernel
theorem kc_10_267 : bw_kc 10 267 = some (.int (252645135)) := by decide +kernel
theorem kc_11_314 : bw_kc 11 314 = some (.long (6148914691236517205)) := by decide +kernel
theorem kc_11_316 : bw_kc 11 316 = some (.long (3689348814741910323)) := by decide +kernel
theorem kc_11_318 : bw_kc 11 318 = some (.long (1085102592571150095)) := by decide +kernel
end
section
/-! what the small machine does with locals and stack, the JVM does -/
def bw_tr (g : Nat × Nat × Nat) (v : Value) : Value := match v with
  | .ref a => .ref (g.1 + a)
  | .retAddr a => .ref (if a = 0 then g.2.1 else g.2.2)
  | .int x => .int x
  | .long x => .long x
  | .float x => .float x
  | .double x => .double x
  | .null => .null
def bw_tl (g : Nat × Nat × Nat) (ls : bw_L) : bw_L := ls.map (fun q => (q.1, bw_tr g q.2))
theorem bw_tr_cat (g : Nat × Nat × Nat) (v : Value) : (bw_tr g v).category = v.category := by cases v <;> rfl
def bw_en (cA : FieldType → ClassId) (g : Nat × Nat × Nat) (h : bw_H) (p : Nat) : va_E := match bw_k h p with
  | .inl c => .inr (c, (List.range (bw_N c)).map (fun k => bw_tr g (bw_fv h p c k)))
  | .inr (ty, N) => .inl (cA ty, N, match ty with
    | .object _ => .inr (.inr (.inr (.inr (fun j => (bw_r h p j).map (fun a => g.1 + a)))))
    | _ => .inl (bw_i h p))
def bw_ws (cA : FieldType → ClassId) (g : Nat × Nat × Nat) (h : bw_H) : va_W := (List.range (bw_n h)).map (fun p => (g.1 + p, bw_en cA g h p))
def bw_A (g : Nat × Nat × Nat) : Nat → Prop := fun q => g.1 ≤ q
abbrev bw_tys (cA : FieldType → ClassId) : List (ClassId × FieldType) := [(cA .int, .int), (cA .long, .long), (cA (.object RX1), .object RX1)]
theorem bw_ws_get {cA : FieldType → ClassId} {g : Nat × Nat × Nat} {h : bw_H} {p : Nat} (hp : p < bw_n h) : (bw_ws cA g h)[p]? = some (g.1 + p, bw_en cA g h p) := by
  unfold bw_ws
  rw [List.getElem?_map, List.getElem?_range hp]
  rfl
theorem bw_ws_lt {cA : FieldType → ClassId} {g : Nat × Nat × Nat} {h : bw_H} {p : Nat} {q : Nat × va_E} (hq : (bw_ws cA g h)[p]? = some q) : p < bw_n h ∧ q = (g.1 + p, bw_en cA g h p) := by
  have hp : p < bw_n h := by
    have := (List.getElem?_eq_some_iff.mp hq).1
    unfold bw_ws at this
    simpa using this
  refine ⟨hp, ?_⟩
  rw [bw_ws_get hp] at hq
  exact (Option.some.inj hq).symm
theorem bw_ws_D (cA : FieldType → ClassId) (g : Nat × Nat × Nat) (h : bw_H) : va_D (bw_A g) (bw_ws cA g h) := by
  refine ⟨fun i j p q hi hj e => ?_, fun k q hq => ?_⟩
  · have h1 := (bw_ws_lt hi).2
    have h2 := (bw_ws_lt hj).2
    subst h1 h2
    have e : g.1 + i = g.1 + j := e
    omega
  · have h1 := (bw_ws_lt hq).2
    subst h1
    exact Nat.le_add_right _ _
theorem bw_ws_set {cA : FieldType → ClassId} {g : Nat × Nat × Nat} {h h' : bw_H} {p : Nat} (hn : bw_n h' = bw_n h) (ho : ∀ q, q ≠ p → bw_en cA g h' q = bw_en cA g h q) : (bw_ws cA g h).set p (g.1 + p, bw_en cA g h' p) = bw_ws cA g h' := by
  refine List.ext_getElem? fun i => ?_
  rw [List.getElem?_set]
  by_cases hi : i < bw_n h
  · rw [bw_ws_get (h := h') (by omega)]
    by_cases hp : p = i
    · subst hp
      rw [if_pos rfl, if_pos (by unfold bw_ws; simpa using hi)]
    · rw [if_neg hp, bw_ws_get hi, ho i (fun q => hp q.symm)]
  · have h1 : (bw_ws cA g h).length ≤ i := by unfold bw_ws; simpa using hi
    have h2 : (bw_ws cA g h').length ≤ i := by unfold bw_ws; simp; omega
    rw [List.getElem?_eq_none h2, List.getElem?_eq_none h1]
    by_cases hp : p = i
    · rw [if_pos hp, if_neg (by omega)]
    · rw [if_neg hp]
theorem bw_ws_push {cA : FieldType → ClassId} {g : Nat × Nat × Nat} {h h' : bw_H} (hn : bw_n h' = bw_n h + 1) (ho : ∀ q, q < bw_n h → bw_en cA g h' q = bw_en cA g h q) : bw_ws cA g h ++ [(g.1 + bw_n h, bw_en cA g h' (bw_n h))] = bw_ws cA g h' := by
  unfold bw_ws
  rw [hn, List.range_succ, List.map_append]
  congr 1
  refine List.map_congr_left fun q hq => ?_
  rw [ho q (List.mem_range.mp hq)]
def bw_inv (D : va_G) (cA : FieldType → ClassId) (g : Nat × Nat × Nat) (s : State) (cells : Nat) (h : bw_H) (H : Heap) (locs : List Loc) : Prop :=
  va_P D vwCl (bw_ws cA g h) H ∧ va_S (bw_A g) s.heap H locs ∧ s.heap.size + cells ≤ g.1 + bw_n h
def bw_at (p : Program) (l : Launch) (e : Env) (R : Room) (s : State) (m : MethodId) (args : Array Value) (below : List Frame) (meth : Method) (c : Code) (Q : State → Prop) (D : va_G) (cA : FieldType → ClassId) (g : Nat × Nat × Nat) (nL cells slots : Nat) (k : bw_C) : Prop :=
  ∀ (H : Heap) (locs : List Loc) (la : Array Slot), bw_inv D cA g s cells k.2.2.2 H locs → lv_has la nL (bw_tl g k.2.1) → W p l e R s m args below meth c H locs cells slots Q (F0 m k.1 la (k.2.2.1.map (bw_tr g)))
theorem bw_lg_mem {ls : bw_L} {i : Nat} {v : Value} (h : bw_lg ls i = some v) : (i, v) ∈ ls := by
  unfold bw_lg at h
  cases hf : ls.find? (fun q => q.1 == i) with
  | none => rw [hf] at h; cases h
  | some q =>
    rw [hf] at h
    have h1 := List.mem_of_find?_eq_some hf
    have h2 := List.find?_some hf
    have h3 : q.1 = i := by simpa using h2
    have h4 : q.2 = v := Option.some.inj h
    have : q = (i, v) := by rw [← h3, ← h4]
    rw [← this]
    exact h1
theorem bw_lg_at {g : Nat × Nat × Nat} {ls : bw_L} {i nL : Nat} {v : Value} {la : Array Slot} (h : bw_lg ls i = some v) (hl : lv_has la nL (bw_tl g ls)) : la[i]? = some (.val (bw_tr g v)) :=
  hl.2.2 (i, bw_tr g v) (List.mem_map.mpr ⟨(i, v), bw_lg_mem h, rfl⟩)
theorem bw_tl_s1 (g : Nat × Nat × Nat) (ls : bw_L) (i : Nat) (v : Value) : bw_tl g (bw_s1 ls i v) = (i, bw_tr g v) :: (bw_tl g ls).filter (fun q => !(q.1 == i) && !(q.1 + 1 == i && q.2.category == 2)) := by
  unfold bw_tl bw_s1
  rw [List.map_cons, List.filter_map]
  congr 2
  refine List.filter_congr fun q _ => ?_
  simp only [Function.comp, bw_tr_cat]
theorem bw_tl_s2 (g : Nat × Nat × Nat) (ls : bw_L) (i : Nat) (v : Value) : bw_tl g (bw_s2 ls i v) = (i, bw_tr g v) :: (bw_tl g ls).filter (fun q => !(q.1 == i) && (!(q.1 == i + 1) && !(q.1 + 1 == i && q.2.category == 2))) := by
  unfold bw_tl bw_s2
  rw [List.map_cons, List.filter_map]
  congr 2
  refine List.filter_congr fun q _ => ?_
  simp only [Function.comp, bw_tr_cat]
theorem bw_jp_ok {pc q : Nat} {off : Int} (h : bw_jp pc off = some q) : (pc : Int) + off = (q : Int) := by
  unfold bw_jp at h
  split at h
  · cases h; omega
  · cases h
section BO
variable {p : Program} {l : Launch} {e : Env} {R : Room} {s : State} {m : MethodId} {args : Array Value} {below : List Frame} {meth : Method} {c : Code} {Q : State → Prop} {D : va_G} {cA : FieldType → ClassId} {g : Nat × Nat × Nat} {nL cells slots : Nat} {pc : Nat} {ls : bw_L} {st : List Value} {h : bw_H} {k : bw_C} {cc : ByteArray}
theorem bo_il {w i : Nat} (row : ∀ (H : Heap) (locs : List Loc) (la : Array Slot) (x : Int32) (r : List Value), la[i]? = some (.val (.int x)) → W p l e R s m args below meth c H locs cells slots Q (F0 m (pc + w) la (.int x :: r)) → W p l e R s m args below meth c H locs cells slots Q (F0 m pc la r))
    (hq : bq_il w i pc ls st h = some k) (K : bw_at p l e R s m args below meth c Q D cA g nL cells slots k) : bw_at p l e R s m args below meth c Q D cA g nL cells slots (pc, ls, st, h) := by
  unfold bq_il at hq
  split at hq
  · rename_i x hx
    cases hq
    intro H locs la hi hl
    exact row H locs la x _ (bw_lg_at hx hl) (K H locs la hi hl)
  · cases hq
theorem bo_ll {w i : Nat} (row : ∀ (H : Heap) (locs : List Loc) (la : Array Slot) (x : Int64) (r : List Value), la[i]? = some (.val (.long x)) → W p l e R s m args below meth c H locs cells slots Q (F0 m (pc + w) la (.long x :: r)) → W p l e R s m args below meth c H locs cells slots Q (F0 m pc la r))
    (hq : bq_ll w i pc ls st h = some k) (K : bw_at p l e R s m args below meth c Q D cA g nL cells slots k) : bw_at p l e R s m args below meth c Q D cA g nL cells slots (pc, ls, st, h) := by
  unfold bq_ll at hq
  split at hq
  · rename_i x hx
    cases hq
    intro H locs la hi hl
    exact row H locs la x _ (bw_lg_at hx hl) (K H locs la hi hl)
  · cases hq
theorem bo_al {w i : Nat} (row : ∀ (H : Heap) (locs : List Loc) (la : Array Slot) (x : Nat) (r : List Value), la[i]? = some (.val (.ref x)) → W p l e R s m args below meth c H locs cells slots Q (F0 m (pc + w) la (.ref x :: r)) → W p l e R s m args below meth c H locs cells slots Q (F0 m pc la r))
    (rowN : ∀ (H : Heap) (locs : List Loc) (la : Array Slot) (r : List Value), la[i]? = some (.val .null) → W p l e R s m args below meth c H locs cells slots Q (F0 m (pc + w) la (.null :: r)) → W p l e R s m args below meth c H locs cells slots Q (F0 m pc la r))
    (hq : bq_al w i pc ls st h = some k) (K : bw_at p l e R s m args below meth c Q D cA g nL cells slots k) : bw_at p l e R s m args below meth c Q D cA g nL cells slots (pc, ls, st, h) := by
  unfold bq_al at hq
  split at hq
  · rename_i x hx
    cases hq
    intro H locs la hi hl
    exact row H locs la (g.1 + x) _ (bw_lg_at hx hl) (K H locs la hi hl)
  · rename_i x hx
    cases hq
    intro H locs la hi hl
    exact row H locs la (if x = 0 then g.2.1 else g.2.2) _ (bw_lg_at hx hl) (K H locs la hi hl)
  · rename_i hx
    cases hq
    intro H locs la hi hl
    exact rowN H locs la _ (bw_lg_at hx hl) (K H locs la hi hl)
  · cases hq
theorem bo_is {w i : Nat} (row : ∀ (H : Heap) (locs : List Loc) (la : Array Slot) (x : Int32) (lv lv' : List (Nat × Value)) (r : List Value), lv_has la nL lv → i < nL → (i, Value.int x) :: lv.filter (fun q => !(q.1 == i) && !(q.1 + 1 == i && q.2.category == 2)) = lv' → (∀ la' : Array Slot, lv_has la' nL lv' → W p l e R s m args below meth c H locs cells slots Q (F0 m (pc + w) la' r)) → W p l e R s m args below meth c H locs cells slots Q (F0 m pc la (.int x :: r)))
    (hq : bq_is nL w i pc ls st h = some k) (K : bw_at p l e R s m args below meth c Q D cA g nL cells slots k) : bw_at p l e R s m args below meth c Q D cA g nL cells slots (pc, ls, st, h) := by
  unfold bq_is at hq
  split at hq
  · rename_i x r
    split at hq
    · rename_i hi
      cases hq
      intro H locs la hv hl
      exact row H locs la x _ _ _ hl hi rfl (fun la' hl' => K H locs la' hv (by
        have e := bw_tl_s1 g ls i (.int x)
        exact e ▸ hl'))
    · cases hq
  · cases hq
theorem bo_ls {w i : Nat} (row : ∀ (H : Heap) (locs : List Loc) (la : Array Slot) (x : Int64) (lv lv' : List (Nat × Value)) (r : List Value), lv_has la nL lv → i + 1 < nL → (i, Value.long x) :: lv.filter (fun q => !(q.1 == i) && (!(q.1 == i + 1) && !(q.1 + 1 == i && q.2.category == 2))) = lv' → (∀ la' : Array Slot, lv_has la' nL lv' → W p l e R s m args below meth c H locs cells slots Q (F0 m (pc + w) la' r)) → W p l e R s m args below meth c H locs cells slots Q (F0 m pc la (.long x :: r)))
    (hq : bq_ls nL w i pc ls st h = some k) (K : bw_at p l e R s m args below meth c Q D cA g nL cells slots k) : bw_at p l e R s m args below meth c Q D cA g nL cells slots (pc, ls, st, h) := by
  unfold bq_ls at hq
  split at hq
  · rename_i x r
    split at hq
    · rename_i hi
      cases hq
      intro H locs la hv hl
      exact row H locs la x _ _ _ hl hi rfl (fun la' hl' => K H locs la' hv (by
        have e := bw_tl_s2 g ls i (.long x)
        exact e ▸ hl'))
    · cases hq
  · cases hq
theorem bo_as {w i : Nat} (row : ∀ (H : Heap) (locs : List Loc) (la : Array Slot) (x : Nat) (lv lv' : List (Nat × Value)) (r : List Value), lv_has la nL lv → i < nL → (i, Value.ref x) :: lv.filter (fun q => !(q.1 == i) && !(q.1 + 1 == i && q.2.category == 2)) = lv' → (∀ la' : Array Slot, lv_has la' nL lv' → W p l e R s m args below meth c H locs cells slots Q (F0 m (pc + w) la' r)) → W p l e R s m args below meth c H locs cells slots Q (F0 m pc la (.ref x :: r)))
    (rowN : ∀ (H : Heap) (locs : List Loc) (la : Array Slot) (lv lv' : List (Nat × Value)) (r : List Value), lv_has la nL lv → i < nL → (i, Value.null) :: lv.filter (fun q => !(q.1 == i) && !(q.1 + 1 == i && q.2.category == 2)) = lv' → (∀ la' : Array Slot, lv_has la' nL lv' → W p l e R s m args below meth c H locs cells slots Q (F0 m (pc + w) la' r)) → W p l e R s m args below meth c H locs cells slots Q (F0 m pc la (.null :: r)))
    (hq : bq_as nL w i pc ls st h = some k) (K : bw_at p l e R s m args below meth c Q D cA g nL cells slots k) : bw_at p l e R s m args below meth c Q D cA g nL cells slots (pc, ls, st, h) := by
  unfold bq_as at hq
  split at hq
  · rename_i x r
    split at hq
    · rename_i hi
      cases hq
      intro H locs la hv hl
      exact row H locs la (g.1 + x) _ _ _ hl hi rfl (fun la' hl' => K H locs la' hv (by
        have e := bw_tl_s1 g ls i (.ref x)
        exact e ▸ hl'))
    · cases hq
  · rename_i r
    split at hq
    · rename_i hi
      cases hq
      intro H locs la hv hl
      exact rowN H locs la _ _ _ hl hi rfl (fun la' hl' => K H locs la' hv (by
        have e := bw_tl_s1 g ls i .null
        exact e ▸ hl'))
    · cases hq
  · cases hq
theorem bo_ic {i : Nat} {n : Int} (row : ∀ (H : Heap) (locs : List Loc) (la : Array Slot) (x v : Int32) (lv lv' : List (Nat × Value)) (kk : Nat) (r : List Value), lv_has la nL lv → lv[kk]? = some (i, .int x) → x + Int32.ofInt n = v → i < nL → (i, Value.int v) :: lv.filter (fun q => !(q.1 == i) && !(q.1 + 1 == i && q.2.category == 2)) = lv' → (∀ la' : Array Slot, lv_has la' nL lv' → W p l e R s m args below meth c H locs cells slots Q (F0 m (pc + 3) la' r)) → W p l e R s m args below meth c H locs cells slots Q (F0 m pc la r))
    (hq : bq_ic nL i n pc ls st h = some k) (K : bw_at p l e R s m args below meth c Q D cA g nL cells slots k) : bw_at p l e R s m args below meth c Q D cA g nL cells slots (pc, ls, st, h) := by
  unfold bq_ic at hq
  split at hq
  · rename_i x hx
    split at hq
    · rename_i hi
      cases hq
      intro H locs la hv hl
      have hm : (i, bw_tr g (.int x)) ∈ bw_tl g ls := List.mem_map.mpr ⟨(i, .int x), bw_lg_mem hx, rfl⟩
      obtain ⟨kk, hk⟩ := List.getElem?_of_mem hm
      exact row H locs la x _ _ _ kk _ hl hk rfl hi rfl (fun la' hl' => K H locs la' hv (by
        have e := bw_tl_s1 g ls i (.int (x + Int32.ofInt n))
        exact e ▸ hl'))
    · cases hq
  · cases hq
theorem bo_ii {f : Int32 → Int32 → Int32} (row : ∀ (H : Heap) (locs : List Loc) (la : Array Slot) (x y : Int32) (r : List Value), W p l e R s m args below meth c H locs cells slots Q (F0 m (pc + 1) la (.int (f x y) :: r)) → W p l e R s m args below meth c H locs cells slots Q (F0 m pc la (.int y :: .int x :: r)))
    (hq : bq_ii f pc ls st h = some k) (K : bw_at p l e R s m args below meth c Q D cA g nL cells slots k) : bw_at p l e R s m args below meth c Q D cA g nL cells slots (pc, ls, st, h) := by
  unfold bq_ii at hq
  split at hq
  · cases hq
    intro H locs la hi hl
    exact row H locs la _ _ _ (K H locs la hi hl)
  · cases hq
theorem bo_id {f : Int32 → Int32 → Int32} (row : ∀ (H : Heap) (locs : List Loc) (la : Array Slot) (x y : Int32) (r : List Value), ¬ y = 0 → W p l e R s m args below meth c H locs cells slots Q (F0 m (pc + 1) la (.int (f x y) :: r)) → W p l e R s m args below meth c H locs cells slots Q (F0 m pc la (.int y :: .int x :: r)))
    (hq : bq_id f pc ls st h = some k) (K : bw_at p l e R s m args below meth c Q D cA g nL cells slots k) : bw_at p l e R s m args below meth c Q D cA g nL cells slots (pc, ls, st, h) := by
  unfold bq_id at hq
  split at hq
  · split at hq
    · cases hq
    · rename_i hne
      cases hq
      intro H locs la hi hl
      exact row H locs la _ _ _ hne (K H locs la hi hl)
  · cases hq
theorem bo_jj {f : Int64 → Int64 → Int64} (row : ∀ (H : Heap) (locs : List Loc) (la : Array Slot) (x y : Int64) (r : List Value), W p l e R s m args below meth c H locs cells slots Q (F0 m (pc + 1) la (.long (f x y) :: r)) → W p l e R s m args below meth c H locs cells slots Q (F0 m pc la (.long y :: .long x :: r)))
    (hq : bq_jj f pc ls st h = some k) (K : bw_at p l e R s m args below meth c Q D cA g nL cells slots k) : bw_at p l e R s m args below meth c Q D cA g nL cells slots (pc, ls, st, h) := by
  unfold bq_jj at hq
  split at hq
  · cases hq
    intro H locs la hi hl
    exact row H locs la _ _ _ (K H locs la hi hl)
  · cases hq
theorem bo_jd {f : Int64 → Int64 → Int64} (row : ∀ (H : Heap) (locs : List Loc) (la : Array Slot) (x y : Int64) (r : List Value), ¬ y = 0 → W p l e R s m args below meth c H locs cells slots Q (F0 m (pc + 1) la (.long (f x y) :: r)) → W p l e R s m args below meth c H locs cells slots Q (F0 m pc la (.long y :: .long x :: r)))
    (hq : bq_jd f pc ls st h = some k) (K : bw_at p l e R s m args below meth c Q D cA g nL cells slots k) : bw_at p l e R s m args below meth c Q D cA g nL cells slots (pc, ls, st, h) := by
  unfold bq_jd at hq
  split at hq
  · split at hq
    · cases hq
    · rename_i hne
      cases hq
      intro H locs la hi hl
      exact row H locs la _ _ _ hne (K H locs la hi hl)
  · cases hq
theorem bo_i1 {f : Int32 → Value} (row : ∀ (H : Heap) (locs : List Loc) (la : Array Slot) (x : Int32) (r : List Value), W p l e R s m args below meth c H locs cells slots Q (F0 m (pc + 1) la (bw_tr g (f x) :: r)) → W p l e R s m args below meth c H locs cells slots Q (F0 m pc la (.int x :: r)))
    (hq : bq_i1 f pc ls st h = some k) (K : bw_at p l e R s m args below meth c Q D cA g nL cells slots k) : bw_at p l e R s m args below meth c Q D cA g nL cells slots (pc, ls, st, h) := by
  unfold bq_i1 at hq
  split at hq
  · cases hq
    intro H locs la hi hl
    exact row H locs la _ _ (K H locs la hi hl)
  · cases hq
theorem bo_j1 {f : Int64 → Value} (row : ∀ (H : Heap) (locs : List Loc) (la : Array Slot) (x : Int64) (r : List Value), W p l e R s m args below meth c H locs cells slots Q (F0 m (pc + 1) la (bw_tr g (f x) :: r)) → W p l e R s m args below meth c H locs cells slots Q (F0 m pc la (.long x :: r)))
    (hq : bq_j1 f pc ls st h = some k) (K : bw_at p l e R s m args below meth c Q D cA g nL cells slots k) : bw_at p l e R s m args below meth c Q D cA g nL cells slots (pc, ls, st, h) := by
  unfold bq_j1 at hq
  split at hq
  · cases hq
    intro H locs la hi hl
    exact row H locs la _ _ (K H locs la hi hl)
  · cases hq
theorem bo_cn {w : Nat} {v : Value} (row : ∀ (H : Heap) (locs : List Loc) (la : Array Slot) (r : List Value), W p l e R s m args below meth c H locs cells slots Q (F0 m (pc + w) la (bw_tr g v :: r)) → W p l e R s m args below meth c H locs cells slots Q (F0 m pc la r))
    (hq : bq_cn w v pc ls st h = some k) (K : bw_at p l e R s m args below meth c Q D cA g nL cells slots k) : bw_at p l e R s m args below meth c Q D cA g nL cells slots (pc, ls, st, h) := by
  unfold bq_cn at hq
  cases hq
  intro H locs la hi hl
  exact row H locs la _ (K H locs la hi hl)
theorem bo_ju (hx : p.tables.exec = Jvm.exec) (hb : c.code = cc) (hdg : decode cc pc = .ok (.lushr, 1))
    (hq : bq_ju pc ls st h = some k) (K : bw_at p l e R s m args below meth c Q D cA g nL cells slots k) : bw_at p l e R s m args below meth c Q D cA g nL cells slots (pc, ls, st, h) := by
  unfold bq_ju at hq
  split at hq
  · cases hq
    intro H locs la hi hl
    exact lv_lushr hx hb hdg rfl (K H locs la hi hl)
  · cases hq
theorem bo_cm (hx : p.tables.exec = Jvm.exec) (hb : c.code = cc) (hdg : decode cc pc = .ok (.lcmp, 1))
    (hq : bq_cm pc ls st h = some k) (K : bw_at p l e R s m args below meth c Q D cA g nL cells slots k) : bw_at p l e R s m args below meth c Q D cA g nL cells slots (pc, ls, st, h) := by
  unfold bq_cm at hq
  split at hq
  · cases hq
    intro H locs la hi hl
    exact W.lcmp hx hb hdg (K H locs la hi hl)
  · cases hq
theorem bo_du (hx : p.tables.exec = Jvm.exec) (hb : c.code = cc) (hdg : decode cc pc = .ok (.dup, 1))
    (hq : bq_du pc ls st h = some k) (K : bw_at p l e R s m args below meth c Q D cA g nL cells slots k) : bw_at p l e R s m args below meth c Q D cA g nL cells slots (pc, ls, st, h) := by
  unfold bq_du at hq
  split at hq
  · split at hq
    · rename_i hc
      cases hq
      intro H locs la hi hl
      exact lv_dup hx hb hdg (by rw [bw_tr_cat]; exact hc) (K H locs la hi hl)
    · cases hq
  · cases hq
theorem bo_d2 (hx : p.tables.exec = Jvm.exec) (hb : c.code = cc) (hdg : decode cc pc = .ok (.dup2, 1))
    (hq : bq_d2 pc ls st h = some k) (K : bw_at p l e R s m args below meth c Q D cA g nL cells slots k) : bw_at p l e R s m args below meth c Q D cA g nL cells slots (pc, ls, st, h) := by
  unfold bq_d2 at hq
  split at hq
  · split at hq
    · rename_i hc
      cases hq
      intro H locs la hi hl
      exact lv_dup2_11 hx hb hdg (by rw [bw_tr_cat]; exact hc.1) (by rw [bw_tr_cat]; exact hc.2) (K H locs la hi hl)
    · cases hq
  · cases hq
theorem bo_go {off : Int} (hx : p.tables.exec = Jvm.exec) (hb : c.code = cc) (hdg : decode cc pc = .ok (.goto off, 3))
    (hq : bq_go off pc ls st h = some k) (K : bw_at p l e R s m args below meth c Q D cA g nL cells slots k) : bw_at p l e R s m args below meth c Q D cA g nL cells slots (pc, ls, st, h) := by
  unfold bq_go at hq
  split at hq
  · rename_i q hj
    cases hq
    intro H locs la hi hl
    exact lv_goto hx hb hdg (bw_jp_ok hj) (K H locs la hi hl)
  · cases hq
theorem bo_if {d : Int32 → Bool} {off : Int} (row : ∀ (H : Heap) (locs : List Loc) (la : Array Slot) (x : Int32) (r : List Value) (q : Nat), (pc : Int) + off = (q : Int) → (d x = true → W p l e R s m args below meth c H locs cells slots Q (F0 m q la r)) → (¬ d x = true → W p l e R s m args below meth c H locs cells slots Q (F0 m (pc + 3) la r)) → W p l e R s m args below meth c H locs cells slots Q (F0 m pc la (.int x :: r)))
    (hq : bq_if d off pc ls st h = some k) (K : bw_at p l e R s m args below meth c Q D cA g nL cells slots k) : bw_at p l e R s m args below meth c Q D cA g nL cells slots (pc, ls, st, h) := by
  unfold bq_if at hq
  split at hq
  · split at hq
    · rename_i q hj
      cases hq
      intro H locs la hi hl
      refine row H locs la _ _ q (bw_jp_ok hj) (fun hd => ?_) (fun hd => ?_)
      · have := K H locs la hi hl
        rw [if_pos hd] at this
        exact this
      · have := K H locs la hi hl
        rw [if_neg hd] at this
        exact this
    · cases hq
  · cases hq
theorem bo_cp {d : Int32 → Int32 → Bool} {off : Int} (row : ∀ (H : Heap) (locs : List Loc) (la : Array Slot) (x y : Int32) (r : List Value) (q : Nat), (pc : Int) + off = (q : Int) → (d x y = true → W p l e R s m args below meth c H locs cells slots Q (F0 m q la r)) → (¬ d x y = true → W p l e R s m args below meth c H locs cells slots Q (F0 m (pc + 3) la r)) → W p l e R s m args below meth c H locs cells slots Q (F0 m pc la (.int y :: .int x :: r)))
    (hq : bq_cp d off pc ls st h = some k) (K : bw_at p l e R s m args below meth c Q D cA g nL cells slots k) : bw_at p l e R s m args below meth c Q D cA g nL cells slots (pc, ls, st, h) := by
  unfold bq_cp at hq
  split at hq
  · split at hq
    · rename_i q hj
      cases hq
      intro H locs la hi hl
      refine row H locs la _ _ _ q (bw_jp_ok hj) (fun hd => ?_) (fun hd => ?_)
      · have := K H locs la hi hl
        rw [if_pos hd] at this
        exact this
      · have := K H locs la hi hl
        rw [if_neg hd] at this
        exact this
    · cases hq
  · cases hq
theorem bo_nu {off : Int} (hx : p.tables.exec = Jvm.exec) (hb : c.code = cc) (hdg : decode cc pc = .ok (.ifnull off, 3))
    (hq : bq_nu off pc ls st h = some k) (K : bw_at p l e R s m args below meth c Q D cA g nL cells slots k) : bw_at p l e R s m args below meth c Q D cA g nL cells slots (pc, ls, st, h) := by
  unfold bq_nu at hq
  split at hq
  · split at hq
    · rename_i q hj
      cases hq
      intro H locs la hi hl
      exact lv_ifnullN hx hb hdg (bw_jp_ok hj) (K H locs la hi hl)
    · cases hq
  · cases hq
    intro H locs la hi hl
    exact lv_ifnull hx hb hdg (K H locs la hi hl)
  · cases hq
theorem bo_nn {off : Int} (hx : p.tables.exec = Jvm.exec) (hb : c.code = cc) (hdg : decode cc pc = .ok (.ifnonnull off, 3))
    (hq : bq_nn off pc ls st h = some k) (K : bw_at p l e R s m args below meth c Q D cA g nL cells slots k) : bw_at p l e R s m args below meth c Q D cA g nL cells slots (pc, ls, st, h) := by
  unfold bq_nn at hq
  split at hq
  · split at hq
    · rename_i q hj
      cases hq
      intro H locs la hi hl
      exact lv_ifnonnull hx hb hdg (bw_jp_ok hj) (K H locs la hi hl)
    · cases hq
  · cases hq
    intro H locs la hi hl
    exact lv_ifnonnullN hx hb hdg (K H locs la hi hl)
  · cases hq
theorem bo_ts {df lo hi : Int} {offs : Array Int} {len : Nat} (hx : p.tables.exec = Jvm.exec) (hb : c.code = cc) (hdg : decode cc pc = .ok (.tableswitch df lo hi offs, len))
    (hq : bq_ts df lo hi offs pc ls st h = some k) (K : bw_at p l e R s m args below meth c Q D cA g nL cells slots k) : bw_at p l e R s m args below meth c Q D cA g nL cells slots (pc, ls, st, h) := by
  unfold bq_ts at hq
  split at hq
  · split at hq
    · rename_i hout
      split at hq
      · rename_i q hj
        cases hq
        intro H locs la hi hl
        exact lv_tableOut hx hb hdg hout (bw_jp_ok hj) (K H locs la hi hl)
      · cases hq
    · rename_i hout
      split at hq
      · rename_i off ho
        split at hq
        · rename_i q hj
          cases hq
          intro H locs la hi hl
          exact lv_tableIn hx hb hdg (fun q => hout (Or.inl q)) (fun q => hout (Or.inr q)) ho (bw_jp_ok hj) (K H locs la hi hl)
        · cases hq
      · cases hq
  · cases hq
end BO
end
section
/-! the tables hold: each link is a word of the claim's tables -/
theorem bw_FT_ok : bw_FT.all (fun e => decide (e.2.2.1 < 9) && decide (e.2.2.2.1 < bw_N e.2.2.1) && decide (lw_tbl[e.2.2.2.2.2]? = some (if e.2.2.2.2.1 = true then Cond.fieldLinkNest (bw_R e.1) e.2.1 (bw_T e.2.2.1 e.2.2.2.1).1 (bw_T e.2.2.1 e.2.2.2.1).2.1 (bw_T e.2.2.1 e.2.2.2.1).2.2.1 "BearWitness" else Cond.fieldLink (bw_R e.1) e.2.1 (bw_T e.2.2.1 e.2.2.2.1).1 (bw_T e.2.2.1 e.2.2.2.1).2.1 (bw_T e.2.2.1 e.2.2.2.1).2.2.1))) = true := by decide +kernel
theorem bw_FT_ok2 : bw_FT.all (fun e => !e.2.2.2.2.1 || decide (e.2.2.1 ≠ e.1)) = true := by decide +kernel
theorem bw_MT_ok : bw_MT.all (fun e => decide (lw_tbl[e.2.2.2.2.1]? = some (if e.2.2.1 % 2 = 1 then Cond.methodLinkNest (bw_R e.1) e.2.1 e.2.2.2.1.2.1 "BearWitness" else Cond.methodLink (bw_R e.1) e.2.1 e.2.2.2.1.2.1)) && decide (lw_tbl[e.2.2.2.2.2.1]? = some (if e.2.2.1 ≤ 1 then Cond.static e.2.2.2.1.2.1 else Cond.instanceMethod e.2.2.2.1.2.1)) && (decide (e.2.2.1 ≠ 2 ∧ e.2.2.1 ≠ 3) || decide (lw_tbl[e.2.2.2.2.2.2.1]? = some (Cond.selects e.2.2.2.1.2.1.cls e.2.2.2.1.2.1 e.2.2.2.1.2.1))) && decide (lw_tbl[e.2.2.2.2.2.2.2.1]? = some (Cond.initialized e.2.2.2.1.2.1.cls))) = true := by decide +kernel
theorem bw_MT_ok2 : bw_MT.all (fun e => decide (e.2.2.1 ≤ 5) && decide (e.2.2.2.1.2.1.cls ≠ "java/lang/invoke/MethodHandle" ∧ e.2.2.2.1.2.1.cls ≠ "java/lang/invoke/VarHandle")) = true := by decide +kernel
theorem bw_MT_ok3 : bw_MT.all (fun e => decide (bw_R e.2.2.2.1.1 = e.2.2.2.1.2.1.cls)) = true := by decide +kernel
theorem bw_MT_ok4 : bw_MT.all (fun e => decide ((parseMethodDescriptor e.2.2.2.1.2.1.desc).map (fun d => d.parameters.length) = some e.2.2.2.1.2.2.2.2.2)) = true := by decide +kernel
theorem bw_MT_ok5 : bw_MT.all (fun e => Jvm.plainName e.2.2.2.1.2.1.cls) = true := by decide +kernel
def bw_all {α : Type} (P : α → Prop) : List α → Prop
  | [] => True
  | a :: l => P a ∧ bw_all P l
theorem bw_all_mem {α : Type} {P : α → Prop} : ∀ {l : List α}, bw_all P l → ∀ a ∈ l, P a
  | [], _, a, h => absurd h List.not_mem_nil
  | b :: l, h, a, ha => by
    rcases List.mem_cons.mp ha with rfl | ha
    · exact h.1
    · exact bw_all_mem h.2 a ha
abbrev bw_cd (M : bw_M) : Cond := Cond.code M.2.1 M.2.2.1 M.2.2.2.1 M.2.2.2.2.1
set_option maxRecDepth 100000 in
theorem cd_X4_init : bw_cd bm_X4_init ∈ lw_tbl := List.mem_of_getElem? (i := 92) rfl
set_option maxRecDepth 100000 in
theorem cd_X1_init : bw_cd bm_X1_init ∈ lw_tbl := List.mem_of_getElem? (i := 126) rfl
set_option maxRecDepth 100000 in
theorem cd_X3_init : bw_cd bm_X3_init ∈ lw_tbl := List.mem_of_getElem? (i := 187) rfl
set_option maxRecDepth 100000 in
theorem cd_X2_init : bw_cd bm_X2_init ∈ lw_tbl := List.mem_of_getElem? (i := 208) rfl
set_option maxRecDepth 100000 in
theorem cd_X5_init : bw_cd bm_X5_init ∈ lw_tbl := List.mem_of_getElem? (i := 229) rfl
set_option maxRecDepth 100000 in
theorem cd_X6_init : bw_cd bm_X6_init ∈ lw_tbl := List.mem_of_getElem? (i := 247) rfl
set_option maxRecDepth 100000 in
theorem cd_X0_init : bw_cd bm_X0_init ∈ lw_tbl := List.mem_of_getElem? (i := 98) rfl
set_option maxRecDepth 100000 in
theorem cd_X7_missingPlace : bw_cd bm_X7_missingPlace ∈ lw_tbl := List.mem_of_getElem? (i := 344) rfl
set_option maxRecDepth 100000 in
theorem cd_X7_isThing : bw_cd bm_X7_isThing ∈ lw_tbl := List.mem_of_getElem? (i := 503) rfl
set_option maxRecDepth 100000 in
theorem cd_J6_bitCount_0f7a4 : bw_cd bm_J6_bitCount_0f7a4 ∈ lw_tbl := List.mem_of_getElem? (i := 571) rfl
set_option maxRecDepth 100000 in
theorem cd_X7_isIn : bw_cd bm_X7_isIn ∈ lw_tbl := List.mem_of_getElem? (i := 468) rfl
set_option maxRecDepth 100000 in
theorem cd_X7_isFewer : bw_cd bm_X7_isFewer ∈ lw_tbl := List.mem_of_getElem? (i := 618) rfl
set_option maxRecDepth 100000 in
theorem cd_X7_leastOf : bw_cd bm_X7_leastOf ∈ lw_tbl := List.mem_of_getElem? (i := 669) rfl
set_option maxRecDepth 100000 in
theorem cd_J13_bitCount_95d88 : bw_cd bm_J13_bitCount_95d88 ∈ lw_tbl := List.mem_of_getElem? (i := 672) rfl
set_option maxRecDepth 100000 in
theorem cd_X2_setsWith : bw_cd bm_X2_setsWith ∈ lw_tbl := List.mem_of_getElem? (i := 659) rfl
set_option maxRecDepth 100000 in
theorem cd_X7_isChance : bw_cd bm_X7_isChance ∈ lw_tbl := List.mem_of_getElem? (i := 742) rfl
set_option maxRecDepth 100000 in
theorem cd_X7_actOfLot : bw_cd bm_X7_actOfLot ∈ lw_tbl := List.mem_of_getElem? (i := 766) rfl
set_option maxRecDepth 100000 in
theorem cd_X7_commonDivisor : bw_cd bm_X7_commonDivisor ∈ lw_tbl := List.mem_of_getElem? (i := 682) rfl
set_option maxRecDepth 100000 in
theorem cd_X4_isNumber : bw_cd bm_X4_isNumber ∈ lw_tbl := List.mem_of_getElem? (i := 323) rfl
set_option maxRecDepth 100000 in
theorem cd_X7_found : bw_cd bm_X7_found ∈ lw_tbl := List.mem_of_getElem? (i := 327) rfl
set_option maxRecDepth 100000 in
theorem cd_X4_make : bw_cd bm_X4_make ∈ lw_tbl := List.mem_of_getElem? (i := 336) rfl
set_option maxRecDepth 100000 in
theorem cd_X4_get : bw_cd bm_X4_get ∈ lw_tbl := List.mem_of_getElem? (i := 361) rfl
set_option maxRecDepth 100000 in
theorem cd_X4_set : bw_cd bm_X4_set ∈ lw_tbl := List.mem_of_getElem? (i := 366) rfl
set_option maxRecDepth 100000 in
theorem cd_X4_has : bw_cd bm_X4_has ∈ lw_tbl := List.mem_of_getElem? (i := 348) rfl
set_option maxRecDepth 100000 in
theorem cd_X3_readInto : bw_cd bm_X3_readInto ∈ lw_tbl := List.mem_of_getElem? (i := 378) rfl
set_option maxRecDepth 100000 in
theorem cd_X1_take : bw_cd bm_X1_take ∈ lw_tbl := List.mem_of_getElem? (i := 426) rfl
set_option maxRecDepth 100000 in
theorem cd_X7_forgetKept : bw_cd bm_X7_forgetKept ∈ lw_tbl := List.mem_of_getElem? (i := 435) rfl
set_option maxRecDepth 100000 in
theorem cd_X1_hasBear : bw_cd bm_X1_hasBear ∈ lw_tbl := List.mem_of_getElem? (i := 452) rfl
set_option maxRecDepth 100000 in
theorem cd_X7_ofBear : bw_cd bm_X7_ofBear ∈ lw_tbl := List.mem_of_getElem? (i := 814) rfl
set_option maxRecDepth 100000 in
theorem cd_X0_get : bw_cd bm_X0_get ∈ lw_tbl := List.mem_of_getElem? (i := 331) rfl
set_option maxRecDepth 100000 in
theorem cd_X7_answerDeed : bw_cd bm_X7_answerDeed ∈ lw_tbl := List.mem_of_getElem? (i := 448) rfl
set_option maxRecDepth 100000 in
theorem cd_X1_takeBackTo : bw_cd bm_X1_takeBackTo ∈ lw_tbl := List.mem_of_getElem? (i := 488) rfl
set_option maxRecDepth 100000 in
theorem cd_X7_keptIn : bw_cd bm_X7_keptIn ∈ lw_tbl := List.mem_of_getElem? (i := 439) rfl
set_option maxRecDepth 100000 in
theorem cd_X1_answerOf : bw_cd bm_X1_answerOf ∈ lw_tbl := List.mem_of_getElem? (i := 507) rfl
set_option maxRecDepth 100000 in
theorem cd_X1_isSet : bw_cd bm_X1_isSet ∈ lw_tbl := List.mem_of_getElem? (i := 534) rfl
set_option maxRecDepth 100000 in
theorem cd_X5_hear : bw_cd bm_X5_hear ∈ lw_tbl := List.mem_of_getElem? (i := 542) rfl
set_option maxRecDepth 100000 in
theorem cd_X5_tiedBy : bw_cd bm_X5_tiedBy ∈ lw_tbl := List.mem_of_getElem? (i := 550) rfl
set_option maxRecDepth 100000 in
theorem cd_X5_shownBy : bw_cd bm_X5_shownBy ∈ lw_tbl := List.mem_of_getElem? (i := 563) rfl
set_option maxRecDepth 100000 in
theorem cd_X1_allBears : bw_cd bm_X1_allBears ∈ lw_tbl := List.mem_of_getElem? (i := 538) rfl
set_option maxRecDepth 100000 in
theorem cd_X6_open : bw_cd bm_X6_open ∈ lw_tbl := List.mem_of_getElem? (i := 582) rfl
set_option maxRecDepth 100000 in
theorem cd_X6_fewestPresses : bw_cd bm_X6_fewestPresses ∈ lw_tbl := List.mem_of_getElem? (i := 598) rfl
set_option maxRecDepth 100000 in
theorem cd_X5_toldBy : bw_cd bm_X5_toldBy ∈ lw_tbl := List.mem_of_getElem? (i := 559) rfl
set_option maxRecDepth 100000 in
theorem cd_X5_clash : bw_cd bm_X5_clash ∈ lw_tbl := List.mem_of_getElem? (i := 626) rfl
set_option maxRecDepth 100000 in
theorem cd_X5_hasRivals : bw_cd bm_X5_hasRivals ∈ lw_tbl := List.mem_of_getElem? (i := 634) rfl
set_option maxRecDepth 100000 in
theorem cd_X7_readLooks : bw_cd bm_X7_readLooks ∈ lw_tbl := List.mem_of_getElem? (i := 642) rfl
set_option maxRecDepth 100000 in
theorem cd_X2_fittingSets : bw_cd bm_X2_fittingSets ∈ lw_tbl := List.mem_of_getElem? (i := 654) rfl
set_option maxRecDepth 100000 in
theorem cd_X7_tellPart : bw_cd bm_X7_tellPart ∈ lw_tbl := List.mem_of_getElem? (i := 679) rfl
set_option maxRecDepth 100000 in
theorem cd_X7_greatestPart : bw_cd bm_X7_greatestPart ∈ lw_tbl := List.mem_of_getElem? (i := 696) rfl
set_option maxRecDepth 100000 in
theorem cd_X2_fitKind : bw_cd bm_X2_fitKind ∈ lw_tbl := List.mem_of_getElem? (i := 708) rfl
set_option maxRecDepth 100000 in
theorem cd_X2_whoSpoke : bw_cd bm_X2_whoSpoke ∈ lw_tbl := List.mem_of_getElem? (i := 716) rfl
set_option maxRecDepth 100000 in
theorem cd_X2_whoKeptBack : bw_cd bm_X2_whoKeptBack ∈ lw_tbl := List.mem_of_getElem? (i := 720) rfl
set_option maxRecDepth 100000 in
theorem cd_X6_playOut : bw_cd bm_X6_playOut ∈ lw_tbl := List.mem_of_getElem? (i := 730) rfl
set_option maxRecDepth 100000 in
theorem cd_X7_weightOf : bw_cd bm_X7_weightOf ∈ lw_tbl := List.mem_of_getElem? (i := 746) rfl
set_option maxRecDepth 100000 in
theorem cd_X7_allWeight : bw_cd bm_X7_allWeight ∈ lw_tbl := List.mem_of_getElem? (i := 750) rfl
set_option maxRecDepth 100000 in
theorem cd_X1_canBe : bw_cd bm_X1_canBe ∈ lw_tbl := List.mem_of_getElem? (i := 456) rfl
set_option maxRecDepth 100000 in
theorem cd_X1_commit : bw_cd bm_X1_commit ∈ lw_tbl := List.mem_of_getElem? (i := 461) rfl
set_option maxRecDepth 100000 in
theorem cd_X7_shownByAll : bw_cd bm_X7_shownByAll ∈ lw_tbl := List.mem_of_getElem? (i := 770) rfl
set_option maxRecDepth 100000 in
theorem cd_X0_sum : bw_cd bm_X0_sum ∈ lw_tbl := List.mem_of_getElem? (i := 790) rfl
set_option maxRecDepth 100000 in
theorem cd_X1_thoseOfKind : bw_cd bm_X1_thoseOfKind ∈ lw_tbl := List.mem_of_getElem? (i := 794) rfl
set_option maxRecDepth 100000 in
theorem cd_X4_thoseThere : bw_cd bm_X4_thoseThere ∈ lw_tbl := List.mem_of_getElem? (i := 798) rfl
set_option maxRecDepth 100000 in
theorem cd_X7_keptCourts : bw_cd bm_X7_keptCourts ∈ lw_tbl := List.mem_of_getElem? (i := 803) rfl
set_option maxRecDepth 100000 in
theorem cd_X7_count : bw_cd bm_X7_count ∈ lw_tbl := List.mem_of_getElem? (i := 786) rfl
set_option maxRecDepth 100000 in
theorem cd_X4_digestFrom : bw_cd bm_X4_digestFrom ∈ lw_tbl := List.mem_of_getElem? (i := 819) rfl
set_option maxRecDepth 100000 in
theorem cd_X0_set : bw_cd bm_X0_set ∈ lw_tbl := List.mem_of_getElem? (i := 108) rfl
set_option maxRecDepth 100000 in
theorem cd_X4_hasPlace : bw_cd bm_X4_hasPlace ∈ lw_tbl := List.mem_of_getElem? (i := 357) rfl
set_option maxRecDepth 100000 in
theorem cd_X1_toldOf : bw_cd bm_X1_toldOf ∈ lw_tbl := List.mem_of_getElem? (i := 515) rfl
set_option maxRecDepth 100000 in
theorem cd_X1_clear : bw_cd bm_X1_clear ∈ lw_tbl := List.mem_of_getElem? (i := 389) rfl
set_option maxRecDepth 100000 in
theorem cd_X2_readFrom : bw_cd bm_X2_readFrom ∈ lw_tbl := List.mem_of_getElem? (i := 646) rfl
set_option maxRecDepth 100000 in
theorem cd_X1_answerIf : bw_cd bm_X1_answerIf ∈ lw_tbl := List.mem_of_getElem? (i := 511) rfl
set_option maxRecDepth 100000 in
theorem cd_X7_isOfKind : bw_cd bm_X7_isOfKind ∈ lw_tbl := List.mem_of_getElem? (i := 523) rfl
set_option maxRecDepth 100000 in
theorem cd_X1_onesOf : bw_cd bm_X1_onesOf ∈ lw_tbl := List.mem_of_getElem? (i := 526) rfl
set_option maxRecDepth 100000 in
theorem cd_X0_take : bw_cd bm_X0_take ∈ lw_tbl := List.mem_of_getElem? (i := 430) rfl
set_option maxRecDepth 100000 in
theorem cd_X1_change : bw_cd bm_X1_change ∈ lw_tbl := List.mem_of_getElem? (i := 465) rfl
set_option maxRecDepth 100000 in
theorem cd_X1_seenBy : bw_cd bm_X1_seenBy ∈ lw_tbl := List.mem_of_getElem? (i := 520) rfl
set_option maxRecDepth 100000 in
theorem cd_X4_sizeOf : bw_cd bm_X4_sizeOf ∈ lw_tbl := List.mem_of_getElem? (i := 352) rfl
set_option maxRecDepth 100000 in
theorem cd_X2_fits : bw_cd bm_X2_fits ∈ lw_tbl := List.mem_of_getElem? (i := 665) rfl
set_option maxRecDepth 100000 in
theorem cd_X3_kindOfLetter : bw_cd bm_X3_kindOfLetter ∈ lw_tbl := List.mem_of_getElem? (i := 417) rfl
set_option maxRecDepth 100000 in
theorem cd_X3_open : bw_cd bm_X3_open ∈ lw_tbl := List.mem_of_getElem? (i := 382) rfl
set_option maxRecDepth 100000 in
theorem cd_X3_skipBlanks : bw_cd bm_X3_skipBlanks ∈ lw_tbl := List.mem_of_getElem? (i := 393) rfl
set_option maxRecDepth 100000 in
theorem cd_X3_byteHere : bw_cd bm_X3_byteHere ∈ lw_tbl := List.mem_of_getElem? (i := 398) rfl
set_option maxRecDepth 100000 in
theorem cd_X3_twoFigures : bw_cd bm_X3_twoFigures ∈ lw_tbl := List.mem_of_getElem? (i := 402) rfl
set_option maxRecDepth 100000 in
theorem cd_X3_readBear : bw_cd bm_X3_readBear ∈ lw_tbl := List.mem_of_getElem? (i := 414) rfl
set_option maxRecDepth 100000 in
theorem cd_X3_fail : bw_cd bm_X3_fail ∈ lw_tbl := List.mem_of_getElem? (i := 410) rfl
set_option maxRecDepth 100000 in
theorem cd_X3_oneFigure : bw_cd bm_X3_oneFigure ∈ lw_tbl := List.mem_of_getElem? (i := 406) rfl
set_option maxRecDepth 100000 in
theorem cd_X1_seat : bw_cd bm_X1_seat ∈ lw_tbl := List.mem_of_getElem? (i := 421) rfl
set_option maxRecDepth 100000 in
theorem cd_X5_balance : bw_cd bm_X5_balance ∈ lw_tbl := List.mem_of_getElem? (i := 554) rfl
set_option maxRecDepth 100000 in
theorem cd_X6_worthIf : bw_cd bm_X6_worthIf ∈ lw_tbl := List.mem_of_getElem? (i := 588) rfl
set_option maxRecDepth 100000 in
theorem cd_X6_worthNow : bw_cd bm_X6_worthNow ∈ lw_tbl := List.mem_of_getElem? (i := 594) rfl
set_option maxRecDepth 100000 in
theorem cd_X6_pressOn : bw_cd bm_X6_pressOn ∈ lw_tbl := List.mem_of_getElem? (i := 602) rfl
set_option maxRecDepth 100000 in
theorem cd_X6_canWear : bw_cd bm_X6_canWear ∈ lw_tbl := List.mem_of_getElem? (i := 606) rfl
set_option maxRecDepth 100000 in
theorem cd_X6_wearBy : bw_cd bm_X6_wearBy ∈ lw_tbl := List.mem_of_getElem? (i := 610) rfl
set_option maxRecDepth 100000 in
theorem cd_X7_init : bw_cd bm_X7_init ∈ lw_tbl := List.mem_of_getElem? (i := 84) rfl
set_option maxRecDepth 100000 in
theorem cd_L_cell : bw_cd bm_L_cell ∈ lw_tbl := List.mem_of_getElem? (i := 824) rfl
set_option maxRecDepth 100000 in
theorem cd_L_up : bw_cd bm_L_up ∈ lw_tbl := List.mem_of_getElem? (i := 828) rfl
set_option maxRecDepth 100000 in
theorem cd_L_sign : bw_cd bm_L_sign ∈ lw_tbl := List.mem_of_getElem? (i := 842) rfl
set_option maxRecDepth 100000 in
theorem cd_L_letter : bw_cd bm_L_letter ∈ lw_tbl := List.mem_of_getElem? (i := 849) rfl
set_option maxRecDepth 100000 in
theorem cd_L_lay : bw_cd bm_L_lay ∈ lw_tbl := List.mem_of_getElem? (i := 832) rfl
set_option maxRecDepth 100000 in
theorem cd_L_made : bw_cd bm_L_made ∈ lw_tbl := List.mem_of_getElem? (i := 835) rfl
set_option maxRecDepth 100000 in
theorem cd_L_bits : bw_cd bm_L_bits ∈ lw_tbl := List.mem_of_getElem? (i := 852) rfl
set_option maxRecDepth 100000 in
theorem cd_L_told : bw_cd bm_L_told ∈ lw_tbl := List.mem_of_getElem? (i := 855) rfl
set_option maxRecDepth 100000 in
theorem cd_L_asked : bw_cd bm_L_asked ∈ lw_tbl := List.mem_of_getElem? (i := 862) rfl
set_option maxRecDepth 100000 in
theorem cd_X7_put : bw_cd bm_X7_put ∈ lw_tbl := List.mem_of_getElem? (i := 846) rfl
set_option maxRecDepth 100000 in
theorem cd_X7_text : bw_cd bm_X7_text ∈ lw_tbl := List.mem_of_getElem? (i := 839) rfl
set_option maxRecDepth 100000 in
theorem cd_X7_court : bw_cd bm_X7_court ∈ lw_tbl := List.mem_of_getElem? (i := 374) rfl
set_option maxRecDepth 100000 in
theorem cd_X7_bear : bw_cd bm_X7_bear ∈ lw_tbl := List.mem_of_getElem? (i := 859) rfl
set_option maxRecDepth 100000 in
theorem cd_X7_asked : bw_cd bm_X7_asked ∈ lw_tbl := List.mem_of_getElem? (i := 774) rfl
set_option maxRecDepth 100000 in
theorem cd_X7_lots : bw_cd bm_X7_lots ∈ lw_tbl := List.mem_of_getElem? (i := 759) rfl
set_option maxRecDepth 100000 in
theorem cd_X7_keep : bw_cd bm_X7_keep ∈ lw_tbl := List.mem_of_getElem? (i := 492) rfl
set_option maxRecDepth 100000 in
theorem cd_X7_tells : bw_cd bm_X7_tells ∈ lw_tbl := List.mem_of_getElem? (i := 500) rfl
set_option maxRecDepth 100000 in
theorem cd_X7_shown : bw_cd bm_X7_shown ∈ lw_tbl := List.mem_of_getElem? (i := 530) rfl
set_option maxRecDepth 100000 in
theorem cd_X7_duel : bw_cd bm_X7_duel ∈ lw_tbl := List.mem_of_getElem? (i := 726) rfl
set_option maxRecDepth 100000 in
theorem cd_X7_call : bw_cd bm_X7_call ∈ lw_tbl := List.mem_of_getElem? (i := 567) rfl
set_option maxRecDepth 100000 in
theorem cd_X7_shake : bw_cd bm_X7_shake ∈ lw_tbl := List.mem_of_getElem? (i := 578) rfl
set_option maxRecDepth 100000 in
theorem cd_X7_at : bw_cd bm_X7_at ∈ lw_tbl := List.mem_of_getElem? (i := 370) rfl
set_option maxRecDepth 100000 in
theorem cd_X7_press : bw_cd bm_X7_press ∈ lw_tbl := List.mem_of_getElem? (i := 444) rfl
set_option maxRecDepth 100000 in
theorem cd_X7_on : bw_cd bm_X7_on ∈ lw_tbl := List.mem_of_getElem? (i := 496) rfl
set_option maxRecDepth 100000 in
theorem cd_X7_cover : bw_cd bm_X7_cover ∈ lw_tbl := List.mem_of_getElem? (i := 614) rfl
set_option maxRecDepth 100000 in
theorem cd_X7_apart : bw_cd bm_X7_apart ∈ lw_tbl := List.mem_of_getElem? (i := 630) rfl
set_option maxRecDepth 100000 in
theorem cd_X7_rivals : bw_cd bm_X7_rivals ∈ lw_tbl := List.mem_of_getElem? (i := 622) rfl
set_option maxRecDepth 100000 in
theorem cd_X7_row : bw_cd bm_X7_row ∈ lw_tbl := List.mem_of_getElem? (i := 319) rfl
set_option maxRecDepth 100000 in
theorem cd_X7_lay : bw_cd bm_X7_lay ∈ lw_tbl := List.mem_of_getElem? (i := 341) rfl
set_option maxRecDepth 100000 in
theorem cd_X7_truths : bw_cd bm_X7_truths ∈ lw_tbl := List.mem_of_getElem? (i := 638) rfl
set_option maxRecDepth 100000 in
theorem cd_X7_upper : bw_cd bm_X7_upper ∈ lw_tbl := List.mem_of_getElem? (i := 778) rfl
set_option maxRecDepth 100000 in
theorem cd_X7_sure : bw_cd bm_X7_sure ∈ lw_tbl := List.mem_of_getElem? (i := 686) rfl
set_option maxRecDepth 100000 in
theorem cd_X7_next : bw_cd bm_X7_next ∈ lw_tbl := List.mem_of_getElem? (i := 692) rfl
set_option maxRecDepth 100000 in
theorem cd_X7_walls : bw_cd bm_X7_walls ∈ lw_tbl := List.mem_of_getElem? (i := 712) rfl
set_option maxRecDepth 100000 in
theorem cd_X7_kinds : bw_cd bm_X7_kinds ∈ lw_tbl := List.mem_of_getElem? (i := 704) rfl
set_option maxRecDepth 100000 in
theorem cd_X7_odds : bw_cd bm_X7_odds ∈ lw_tbl := List.mem_of_getElem? (i := 739) rfl
set_option maxRecDepth 100000 in
theorem cd_X7_lower : bw_cd bm_X7_lower ∈ lw_tbl := List.mem_of_getElem? (i := 782) rfl
set_option maxRecDepth 100000 in
theorem cd_X7_mid : bw_cd bm_X7_mid ∈ lw_tbl := List.mem_of_getElem? (i := 755) rfl
set_option maxRecDepth 100000 in
theorem cd_X7_mend : bw_cd bm_X7_mend ∈ lw_tbl := List.mem_of_getElem? (i := 472) rfl
set_option maxRecDepth 100000 in
theorem cd_X7_eye : bw_cd bm_X7_eye ∈ lw_tbl := List.mem_of_getElem? (i := 476) rfl
set_option maxRecDepth 100000 in
theorem cd_X7_turn : bw_cd bm_X7_turn ∈ lw_tbl := List.mem_of_getElem? (i := 480) rfl
set_option maxRecDepth 100000 in
theorem cd_X7_undo : bw_cd bm_X7_undo ∈ lw_tbl := List.mem_of_getElem? (i := 484) rfl
set_option maxRecDepth 100000 in
theorem cd_X7_digest : bw_cd bm_X7_digest ∈ lw_tbl := List.mem_of_getElem? (i := 807) rfl
set_option maxRecDepth 100000 in
theorem bw_MT_code : bw_all (fun e => bw_cd e.2.2.2.1 ∈ lw_tbl) bw_MT := ⟨cd_X0_get, cd_X0_init, cd_X0_take, cd_X0_set, cd_X1_allBears, cd_X0_get, cd_X7_isOfKind, cd_X1_change, cd_X7_isIn, cd_X1_seenBy, cd_X1_toldOf, cd_X1_onesOf, cd_X1_answerIf, cd_X0_init, cd_X4_has, cd_X4_sizeOf, cd_X4_get, cd_X0_set, cd_X0_get, cd_X1_answerIf, cd_X2_setsWith, cd_X2_fits, cd_X1_seenBy, cd_X7_isIn, cd_X0_init, cd_X3_open, cd_X1_clear, cd_X3_skipBlanks, cd_X3_byteHere, cd_X3_twoFigures, cd_X3_readBear, cd_X4_sizeOf, cd_X4_get, cd_X0_set, cd_X3_kindOfLetter, cd_X3_fail, cd_X3_oneFigure, cd_X1_seat, cd_X0_get, cd_X0_init, cd_X0_set, cd_X4_isNumber, cd_X0_get, cd_X4_sizeOf, cd_X4_hasPlace, cd_X4_get, cd_X4_has, cd_X0_init, cd_X0_get, cd_X1_toldOf, cd_X1_onesOf, cd_X0_set, cd_X7_isIn, cd_X5_balance, cd_X5_toldBy, cd_X0_init, cd_X0_get, cd_X0_set, cd_X7_isIn, cd_X6_worthIf, cd_X6_worthNow, cd_X1_toldOf, cd_X1_onesOf, cd_X6_pressOn, cd_X6_canWear, cd_X6_wearBy, cd_X6_playOut, cd_X4_init, cd_X1_init, cd_X3_init, cd_X2_init, cd_X5_init, cd_X6_init, cd_X0_init, cd_X4_isNumber, cd_X7_found, cd_X4_make, cd_X7_missingPlace, cd_X4_get, cd_X4_set, cd_X4_has, cd_X3_readInto, cd_X1_take, cd_X7_forgetKept, cd_X1_hasBear, cd_X7_ofBear, cd_X0_get, cd_X7_answerDeed, cd_X1_takeBackTo, cd_X7_keptIn, cd_X7_isThing, cd_X1_answerOf, cd_X1_isSet, cd_X5_hear, cd_X5_tiedBy, cd_X5_shownBy, cd_X1_allBears, cd_J6_bitCount_0f7a4, cd_X7_isIn, cd_X6_open, cd_X6_fewestPresses, cd_X5_toldBy, cd_X7_isFewer, cd_X5_clash, cd_X5_hasRivals, cd_X7_readLooks, cd_X2_fittingSets, cd_X7_leastOf, cd_J13_bitCount_95d88, cd_X7_tellPart, cd_X2_setsWith, cd_X7_greatestPart, cd_X2_fitKind, cd_X2_whoSpoke, cd_X2_whoKeptBack, cd_X6_playOut, cd_X7_isChance, cd_X7_weightOf, cd_X7_allWeight, cd_X7_actOfLot, cd_X1_canBe, cd_X1_commit, cd_X7_shownByAll, cd_X0_sum, cd_X1_thoseOfKind, cd_X4_thoseThere, cd_X7_keptCourts, cd_X7_count, cd_X4_digestFrom, cd_X0_set, cd_X4_hasPlace, cd_X1_toldOf, cd_X1_clear, cd_X2_readFrom, cd_X1_answerIf, cd_X7_commonDivisor, cd_L_cell, cd_L_up, cd_X7_put, cd_X7_text, cd_L_sign, cd_L_letter, cd_X7_court, cd_X7_bear, cd_X7_asked, cd_X7_init, cd_L_lay, cd_L_made, cd_X7_lots, cd_X7_count, cd_L_bits, cd_X7_keep, cd_L_told, cd_X7_tells, cd_X7_shown, cd_X7_duel, cd_X7_call, cd_L_asked, cd_X7_shake, cd_X7_at, cd_X7_press, cd_X7_on, cd_X7_cover, cd_X7_apart, cd_X7_rivals, cd_X7_row, cd_X7_lay, cd_X7_truths, cd_X7_upper, cd_X7_sure, cd_X7_next, cd_X7_walls, cd_X7_kinds, cd_X7_odds, cd_X7_lower, cd_X7_mid, cd_X7_mend, cd_X7_eye, cd_X7_turn, cd_X7_undo, cd_X7_digest, trivial⟩
theorem bw_KT_ok : bw_KT.all (fun e => decide (lw_tbl[e.2.2.2]? = some (match e.2.2.1 with | .int x => Cond.constant (bw_R e.1) e.2.1 x | .long x => Cond.constantLong (bw_R e.1) e.2.1 x | _ => Cond.tt))) = true := by decide +kernel
theorem bw_NT_ok : bw_NT.all (fun e => decide (e.2.2.1 < 9) && decide (lw_tbl[e.2.2.2.1]? = some (Cond.classLink (bw_R e.1) e.2.1 (bw_R e.2.2.1))) && decide (lw_tbl[e.2.2.2.2.1]? = some (Cond.instantiable (bw_R e.2.2.1) (bw_N e.2.2.1))) && decide (lw_tbl[e.2.2.2.2.2]? = some (Cond.initialized (bw_R e.2.2.1)))) = true := by decide +kernel
theorem bw_anT_ok : bw_anT.all (fun e => decide (lw_tbl[e.2.2]? = some (Cond.classLink (bw_R e.1) e.2.1 RX1))) = true := by decide +kernel
theorem bw_stT_ok : bw_stT.all (fun e => decide (lw_tbl[e.2.2]? = some (Cond.fieldLink (bw_R e.1) e.2.1 "BearWitness$Looks" "SETS_WITH" "[J"))) = true := by decide +kernel
theorem bw_oiT_ok : bw_oiT.all (fun e => decide (lw_tbl[e.2.2]? = some (Cond.methodLink (bw_R e.1) e.2.1 objectInit))) = true := by decide +kernel
theorem bw_acT_ok : bw_acT.all (fun e => decide (lw_tbl[e.2.2]? = some (Cond.methodLink (bw_R e.1) e.2.1 arraycopyName))) = true := by decide +kernel
theorem bw_mxT_ok : bw_mxT.all (fun e => decide (lw_tbl[e.2.2.2]? = some (Cond.methodLink (bw_R e.1) e.2.1 (if e.2.2.1 = true then Lib.Math.max.name else Lib.Math.min.name)))) = true := by decide +kernel
theorem bw_w_max1 : Cond.static Lib.Math.max.name ∈ lw_tbl := List.mem_of_getElem? (i := 699) (by decide +kernel)
theorem bw_w_max2 : Cond.code Lib.Math.max.name Lib.Math.max.code 2 (some .int) ∈ lw_tbl := List.mem_of_getElem? (i := 700) (by decide +kernel)
theorem bw_w_min1 : Cond.static Lib.Math.min.name ∈ lw_tbl := List.mem_of_getElem? (i := 734) (by decide +kernel)
theorem bw_w_min2 : Cond.code Lib.Math.min.name Lib.Math.min.code 2 (some .int) ∈ lw_tbl := List.mem_of_getElem? (i := 735) (by decide +kernel)
theorem bw_w_mm : Cond.initialized "java/lang/Math" ∈ lw_tbl := List.mem_of_getElem? (i := 78) (by decide +kernel)
theorem bw_w_oi1 : Cond.instanceMethod objectInit ∈ lw_tbl := List.mem_of_getElem? (i := 86) (by decide +kernel)
theorem bw_w_oi2 : Cond.code objectInit ⟨#[0xb1]⟩ 1 none ∈ lw_tbl := List.mem_of_getElem? (i := 87) (by decide +kernel)
theorem bw_w_arI : Cond.arrayClass .int ∈ lw_tbl := List.mem_of_getElem? (i := 104) (by decide +kernel)
theorem bw_w_arZ : Cond.arrayClass .long ∈ lw_tbl := List.mem_of_getElem? (i := 867) (by decide +kernel)
theorem bw_w_aro : Cond.arrayOver (.object RX1) ∈ lw_tbl := List.mem_of_getElem? (i := 182) (by decide +kernel)
end
section
/-! what the small machine does with objects and arrays, the JVM does -/
def bw_gd : List Cond := lw_tbl.filter (fun w => w.onTables && w.keepsH)
abbrev bw_Ts : List Cond := bw_gd ++ [Cond.arrayClass .int, Cond.arrayClass .long]
theorem bw_in {w : Cond} (h : w ∈ lw_tbl) (hg : (w.onTables && w.keepsH) = true) : w ∈ bw_Ts := List.mem_append_left _ (List.mem_filter.mpr ⟨h, hg⟩)
theorem bw_cl9 : ∀ c, c < 9 → vwCl[c]? = some (bw_R c, bw_T c, bw_N c) := fun c h => by
  rcases (show c = 0 ∨ c = 1 ∨ c = 2 ∨ c = 3 ∨ c = 4 ∨ c = 5 ∨ c = 6 ∨ c = 7 ∨ c = 8 by omega) with rfl | rfl | rfl | rfl | rfl | rfl | rfl | rfl | rfl <;> rfl
theorem bw_lay_in : ∀ c, c < 9 → ∀ w ∈ u_ws (bw_R c) (bw_T c) (bw_N c), w ∈ bw_Ts := fun c h w hw => by
  have hl : w ∈ lw_tbl := by
    rcases (show c = 0 ∨ c = 1 ∨ c = 2 ∨ c = 3 ∨ c = 4 ∨ c = 5 ∨ c = 6 ∨ c = 7 ∨ c = 8 by omega) with rfl | rfl | rfl | rfl | rfl | rfl | rfl | rfl | rfl
    · exact inX0 w hw
    · exact inX1 w hw
    · exact inX2 w hw
    · exact inX3 w hw
    · exact inX4 w hw
    · exact inX5 w hw
    · exact inX6 w hw
    · exact inX7 w hw
    · exact inX0 w hw
  refine bw_in hl ?_
  unfold u_ws at hw
  obtain ⟨k, -, rfl⟩ := List.mem_map.mp hw
  unfold u_lay
  split <;> rfl
theorem bw_ty_ok : ∀ c, c < 9 → ∀ k, k < bw_N c → parseFieldDescriptor (bw_T c k).2.2.1 = some (bw_ty c k) := fun c h => by
  rcases (show c = 0 ∨ c = 1 ∨ c = 2 ∨ c = 3 ∨ c = 4 ∨ c = 5 ∨ c = 6 ∨ c = 7 ∨ c = 8 by omega) with rfl | rfl | rfl | rfl | rfl | rfl | rfl | rfl | rfl
  · exact tyX0_ok
  · exact tyX1_ok
  · exact tyX2_ok
  · exact tyX3_ok
  · exact tyX4_ok
  · exact tyX5_ok
  · exact tyX6_ok
  · exact tyX7_ok
  · exact tyX0_ok
theorem bw_nm_ok : ∀ c, c < 9 → ∀ a, a < bw_N c → ∀ b, b < bw_N c → a ≠ b → (bw_T c a).2.1 ≠ (bw_T c b).2.1 := fun c h => by
  rcases (show c = 0 ∨ c = 1 ∨ c = 2 ∨ c = 3 ∨ c = 4 ∨ c = 5 ∨ c = 6 ∨ c = 7 ∨ c = 8 by omega) with rfl | rfl | rfl | rfl | rfl | rfl | rfl | rfl | rfl
  · exact nmX0
  · exact nmX1
  · exact nmX2
  · exact nmX3
  · exact nmX4
  · exact nmX5
  · exact nmX6
  · exact nmX7
  · exact nmX0
theorem bw_T_own : ∀ c, c < 9 → ∀ k, k < bw_N c → (bw_T c k).1 = bw_R c := by decide +kernel
theorem bw_fl_ok {o ix c k : Nat} (h : bw_fl o ix = some (c, k)) : c < 9 ∧ k < bw_N c ∧ (Cond.fieldLink (bw_R o) ix (bw_T c k).1 (bw_T c k).2.1 (bw_T c k).2.2.1 ∈ bw_Ts ∨ (Cond.fieldLinkNest (bw_R o) ix (bw_T c k).1 (bw_T c k).2.1 (bw_T c k).2.2.1 "BearWitness" ∈ bw_Ts ∧ c ≠ o)) := by
  unfold bw_fl at h
  cases hf : bw_FT.find? (fun e => e.1 == o && e.2.1 == ix) with
  | none => rw [hf] at h; cases h
  | some x =>
    rw [hf] at h
    have h1 := List.all_eq_true.mp bw_FT_ok x (List.mem_of_find?_eq_some hf)
    have h7 := List.all_eq_true.mp bw_FT_ok2 x (List.mem_of_find?_eq_some hf)
    have h2 := List.find?_some hf
    obtain ⟨x1, x2, x3, x4, x5, x6⟩ := x
    cases h
    simp only [Bool.and_eq_true, decide_eq_true_eq, beq_iff_eq] at h1 h2
    obtain ⟨rfl, rfl⟩ := h2
    obtain ⟨⟨h3, h4⟩, h5⟩ := h1
    refine ⟨h3, h4, ?_⟩
    have h6 := List.mem_of_getElem? h5
    cases x5
    · exact Or.inl (bw_in (by simpa using h6) rfl)
    · exact Or.inr ⟨bw_in (by simpa using h6) rfl, by simpa using h7⟩
theorem bw_range_set {α : Type} {N k : Nat} {F F' : Nat → α} {v : α} (hv : F' k = v) (ho : ∀ j, j ≠ k → F' j = F j) : ((List.range N).map F).set k v = (List.range N).map F' := by
  refine List.ext_getElem? fun i => ?_
  rw [List.getElem?_set]
  by_cases hi : i < N
  · rw [List.getElem?_map, List.getElem?_map, List.getElem?_range hi]
    by_cases hk : k = i
    · subst hk
      rw [if_pos rfl, if_pos (by simpa using hi), ← hv]
      rfl
    · rw [if_neg hk]
      show some (F i) = some (F' i)
      rw [ho i (fun e => hk e.symm)]
  · have h1 : ((List.range N).map F).length ≤ i := by simpa using hi
    have h2 : ((List.range N).map F').length ≤ i := by simpa using hi
    rw [List.getElem?_eq_none h2, List.getElem?_eq_none h1]
    by_cases hk : k = i
    · rw [if_pos hk, if_neg (by omega)]
    · rw [if_neg hk]
theorem bw_up_s {α : Type} (f : Nat → α) (p : Nat) (v : α) : bw_up f p v p = v := by unfold bw_up; rw [if_pos rfl]
theorem bw_up_o {α : Type} {f : Nat → α} {p q : Nat} {v : α} (h : q ≠ p) : bw_up f p v q = f q := by unfold bw_up; rw [if_neg h]
theorem bw_up2_o {α : Type} {f : Nat → Nat → α} {p q k : Nat} {v : α} (h : q ≠ p) : bw_up2 f p k v q = f q := by unfold bw_up2; exact bw_up_o h
theorem bw_up2_s {α : Type} (f : Nat → Nat → α) (p k : Nat) (v : α) : bw_up2 f p k v p = bw_up (f p) k v := by unfold bw_up2; exact bw_up_s _ _ _
theorem bw_en_eq {cA : FieldType → ClassId} {g : Nat × Nat × Nat} {h h' : bw_H} {q : Nat} (h1 : bw_k h' q = bw_k h q) (h2 : bw_i h' q = bw_i h q) (h3 : bw_l h' q = bw_l h q) (h4 : bw_r h' q = bw_r h q) : bw_en cA g h' q = bw_en cA g h q := by
  unfold bw_en bw_fv
  rw [h1, h2, h3, h4]
theorem bw_en_o {cA : FieldType → ClassId} {g : Nat × Nat × Nat} {h : bw_H} {a c : Nat} (hk : bw_k h a = .inl c) : bw_en cA g h a = .inr (c, (List.range (bw_N c)).map (fun k => bw_tr g (bw_fv h a c k))) := by
  unfold bw_en; rw [hk]
theorem bw_en_i {cA : FieldType → ClassId} {g : Nat × Nat × Nat} {h : bw_H} {a N : Nat} (hk : bw_k h a = .inr (.int, N)) : bw_en cA g h a = .inl (cA .int, N, .inl (bw_i h a)) := by
  unfold bw_en; rw [hk]
theorem bw_en_z {cA : FieldType → ClassId} {g : Nat × Nat × Nat} {h : bw_H} {a N : Nat} (hk : bw_k h a = .inr (.long, N)) : bw_en cA g h a = .inl (cA .long, N, .inl (bw_i h a)) := by
  unfold bw_en; rw [hk]
theorem bw_en_r {cA : FieldType → ClassId} {g : Nat × Nat × Nat} {h : bw_H} {a N : Nat} (hk : bw_k h a = .inr (.object RX1, N)) : bw_en cA g h a = .inl (cA (.object RX1), N, .inr (.inr (.inr (.inr (fun j => (bw_r h a j).map (fun b => g.1 + b)))))) := by
  unfold bw_en; rw [hk]
theorem bw_tr_rf (g : Nat × Nat × Nat) (r : Option Nat) : bw_tr g (bw_rf r) = va_rf (r.map (fun b => g.1 + b)) := by cases r <;> rfl
theorem bw_vin {i : Int32} {N : Nat} (h1 : 0 ≤ i.toInt) (h2 : i.toInt < N) : vp_in i N := vp_in_iff.mpr ⟨h1, h2⟩
section BP
variable {p : Program} {l : Launch} {e : Env} {R : Room} {s : State} {m : MethodId} {args : Array Value} {below : List Frame} {meth : Method} {c : Code} {Q : State → Prop} {D : va_G} {cA : FieldType → ClassId} {g : Nat × Nat × Nat} {nL cells slots : Nat} {pc : Nat} {ls : bw_L} {st : List Value} {h : bw_H} {k : bw_C} {cc : ByteArray} {o : Nat}
theorem bo_gf {ix : Nat} (hx : p.tables.exec = Jvm.exec) (hb : c.code = cc) (hown : s.vm.findClass (bw_R o) = some m.cls) (hts : ∀ w ∈ bw_Ts, w.before args s = true) (hK : va_K D vwCl (bw_tys cA) s) (hdg : decode cc pc = .ok (.getfield ix, 3))
    (hq : bq_gf (bw_fl o ix) pc ls st h = some k) (K : bw_at p l e R s m args below meth c Q D cA g nL cells slots k) : bw_at p l e R s m args below meth c Q D cA g nL cells slots (pc, ls, st, h) := by
  unfold bq_gf at hq
  split at hq
  · rename_i c0 k0 a r hf
    split at hq
    · rename_i hh
      cases hq
      obtain ⟨h9, hk, hw⟩ := bw_fl_ok hf
      intro H locs la hi hl
      have he := bw_ws_get (cA := cA) (g := g) hh.1
      rw [bw_en_o hh.2] at he
      have hv : ((List.range (bw_N c0)).map (fun k => bw_tr g (bw_fv h a c0 k)))[k0]? = some (bw_tr g (bw_fv h a c0 k0)) := by
        rw [List.getElem?_map, List.getElem?_range hk]; rfl
      rcases hw with hw | ⟨hw, -⟩
      · exact va_get hx hb hts (bw_lay_in c0 h9) hown hK hi.1 a he (bw_cl9 c0 h9) k0 hk (hts _ hw) (fun _ q => q) hv hdg (K H locs la hi hl)
      · exact va_getN hx hb hts (bw_lay_in c0 h9) hown hK hi.1 a he (bw_cl9 c0 h9) k0 hk (hts _ hw) (fun _ q => q) hv hdg (K H locs la hi hl)
    · cases hq
  · cases hq
theorem bw_put {ini : Bool} {ix c0 k0 a : Nat} {v : Value} {r : List Value} {h' : bw_H} (hx : p.tables.exec = Jvm.exec) (hb : c.code = cc) (hown : s.vm.findClass (bw_R o) = some m.cls) (hts : ∀ w ∈ bw_Ts, w.before args s = true) (hK : va_K D vwCl (bw_tys cA) s) (hini : ini = true → meth.name = "<init>") (hdg : decode cc pc = .ok (.putfield ix, 3))
    (hf : bw_fl o ix = some (c0, k0)) (ha : a < bw_n h) (hka : bw_k h a = .inl c0) (hfin : (bw_T c0 k0).2.2.2 = false ∨ ((bw_T c0 k0).2.2.2 = true ∧ ini = true ∧ c0 = o)) (hnw : narrow (bw_ty c0 k0) (bw_tr g v) = bw_tr g v) (hft : fits (bw_ty c0 k0) (bw_tr g v) = true)
    (hn : bw_n h' = bw_n h) (ho : ∀ q, q ≠ a → bw_en cA g h' q = bw_en cA g h q) (he' : bw_en cA g h' a = .inr (c0, ((List.range (bw_N c0)).map (fun k => bw_tr g (bw_fv h a c0 k))).set k0 (bw_tr g v)))
    (K : bw_at p l e R s m args below meth c Q D cA g nL cells slots (pc + 3, ls, r, h')) : bw_at p l e R s m args below meth c Q D cA g nL cells slots (pc, ls, v :: .ref a :: r, h) := by
  obtain ⟨h9, hk, hw⟩ := bw_fl_ok hf
  intro H locs la hi hl
  have he := bw_ws_get (cA := cA) (g := g) ha
  rw [bw_en_o hka] at he
  have hws := bw_ws_set (cA := cA) (g := g) hn ho
  rw [he'] at hws
  have hlen : k0 < ((List.range (bw_N c0)).map (fun k => bw_tr g (bw_fv h a c0 k))).length := by simpa using hk
  have kk : ∀ (H1 : Heap) (locs1 : List Loc), va_P D vwCl ((bw_ws cA g h).set a (g.1 + a, .inr (c0, ((List.range (bw_N c0)).map (fun k => bw_tr g (bw_fv h a c0 k))).set k0 (bw_tr g v)))) H1 → va_D (bw_A g) ((bw_ws cA g h).set a (g.1 + a, .inr (c0, ((List.range (bw_N c0)).map (fun k => bw_tr g (bw_fv h a c0 k))).set k0 (bw_tr g v)))) → va_S (bw_A g) s.heap H1 locs1 → W p l e R s m args below meth c H1 locs1 cells slots Q (F0 m (pc + 3) la (r.map (bw_tr g))) := by
    intro H1 locs1 hP1 _ hS1
    rw [hws] at hP1
    exact K H1 locs1 la ⟨hP1, hS1, by have := hi.2.2; show _ ≤ g.1 + bw_n h'; rw [hn]; exact this⟩ hl
  rcases hfin with hfin | ⟨hfin, hin, rfl⟩
  · rcases hw with hw | ⟨hw, -⟩
    · exact va_put hx hb hts (bw_lay_in c0 h9) (bw_ty c0) (bw_ty_ok c0 h9) (bw_nm_ok c0 h9) hown hK hi.1 (bw_ws_D cA g h) hi.2.1 a he (bw_cl9 c0 h9) k0 hk (hts _ hw) (fun _ q => q) hfin (bw_ty_ok c0 h9 k0 hk) hnw hft hlen hdg kk
    · exact va_putN hx hb hts (bw_lay_in c0 h9) (bw_ty c0) (bw_ty_ok c0 h9) (bw_nm_ok c0 h9) hown hK hi.1 (bw_ws_D cA g h) hi.2.1 a he (bw_cl9 c0 h9) k0 hk (hts _ hw) (fun _ q => q) hfin (bw_ty_ok c0 h9 k0 hk) hnw hft hlen hdg kk
  · have hown2 := bw_T_own c0 h9 k0 hk
    rcases hw with hw | ⟨-, hw⟩
    · exact va_putF hx hb hts (bw_lay_in c0 h9) (bw_ty c0) (bw_ty_ok c0 h9) (bw_nm_ok c0 h9) hown hK hi.1 (bw_ws_D cA g h) hi.2.1 a he (bw_cl9 c0 h9) k0 hk (hts _ hw) (fun _ q => q) hfin (hini hin) hown2 (bw_ty_ok c0 h9 k0 hk) hnw hft hlen hdg kk
    · exact absurd rfl hw
theorem bo_pf {ini : Bool} {ix : Nat} (hx : p.tables.exec = Jvm.exec) (hb : c.code = cc) (hown : s.vm.findClass (bw_R o) = some m.cls) (hts : ∀ w ∈ bw_Ts, w.before args s = true) (hK : va_K D vwCl (bw_tys cA) s) (hini : ini = true → meth.name = "<init>") (hdg : decode cc pc = .ok (.putfield ix, 3))
    (hq : bq_pf o ini (bw_fl o ix) pc ls st h = some k) (K : bw_at p l e R s m args below meth c Q D cA g nL cells slots k) : bw_at p l e R s m args below meth c Q D cA g nL cells slots (pc, ls, st, h) := by
  have pI : ∀ (a c0 k0 : Nat) (x : Int32), bw_k h a = .inl c0 → bw_ty c0 k0 = .int → bw_en cA g (bw_si h a k0 x) a = .inr (c0, ((List.range (bw_N c0)).map (fun k => bw_tr g (bw_fv h a c0 k))).set k0 (bw_tr g (.int x))) := by
    intro a c0 k0 x hka hty
    rw [bw_en_o (h := bw_si h a k0 x) hka]
    refine congrArg (fun z => Sum.inr (c0, z)) (bw_range_set ?_ (fun j hj => ?_)).symm
    · unfold bw_fv
      rw [hty]
      show bw_tr g (.int (bw_up2 h.2.2.1 a k0 x a k0)) = _
      rw [bw_up2_s, bw_up_s]
    · unfold bw_fv
      show bw_tr g (match bw_ty c0 j with | .int => .int (bw_up2 h.2.2.1 a k0 x a j) | .long => .long (bw_l h a j) | _ => bw_rf (bw_r h a j)) = _
      rw [bw_up2_s, bw_up_o hj]
      rfl
  have pL : ∀ (a c0 k0 : Nat) (x : Int64), bw_k h a = .inl c0 → bw_ty c0 k0 = .long → bw_en cA g (bw_sl h a k0 x) a = .inr (c0, ((List.range (bw_N c0)).map (fun k => bw_tr g (bw_fv h a c0 k))).set k0 (bw_tr g (.long x))) := by
    intro a c0 k0 x hka hty
    rw [bw_en_o (h := bw_sl h a k0 x) hka]
    refine congrArg (fun z => Sum.inr (c0, z)) (bw_range_set ?_ (fun j hj => ?_)).symm
    · unfold bw_fv
      rw [hty]
      show bw_tr g (.long (bw_up2 h.2.2.2.1 a k0 x a k0)) = _
      rw [bw_up2_s, bw_up_s]
    · unfold bw_fv
      show bw_tr g (match bw_ty c0 j with | .int => .int (bw_i h a j) | .long => .long (bw_up2 h.2.2.2.1 a k0 x a j) | _ => bw_rf (bw_r h a j)) = _
      rw [bw_up2_s, bw_up_o hj]
      rfl
  have pR : ∀ (a c0 k0 : Nat) (x : Nat), bw_k h a = .inl c0 → (bw_ty c0 k0 ≠ .int ∧ bw_ty c0 k0 ≠ .long) → bw_en cA g (bw_sr h a k0 (some x)) a = .inr (c0, ((List.range (bw_N c0)).map (fun k => bw_tr g (bw_fv h a c0 k))).set k0 (bw_tr g (.ref x))) := by
    intro a c0 k0 x hka hty
    rw [bw_en_o (h := bw_sr h a k0 (some x)) hka]
    refine congrArg (fun z => Sum.inr (c0, z)) (bw_range_set ?_ (fun j hj => ?_)).symm
    · have hz := hty
      unfold bw_fv
      split
      · rename_i e; exact absurd e hz.1
      · rename_i e; exact absurd e hz.2
      · show bw_tr g (bw_rf (bw_up2 h.2.2.2.2 a k0 (some x) a k0)) = _
        rw [bw_up2_s, bw_up_s]
        rfl
    · unfold bw_fv
      show bw_tr g (match bw_ty c0 j with | .int => .int (bw_i h a j) | .long => .long (bw_l h a j) | _ => bw_rf (bw_up2 h.2.2.2.2 a k0 (some x) a j)) = _
      rw [bw_up2_s, bw_up_o hj]
      rfl
  have oI : ∀ (a k0 : Nat) (x : Int32), ∀ q, q ≠ a → bw_en cA g (bw_si h a k0 x) q = bw_en cA g h q := fun a k0 x q hq => bw_en_eq rfl (bw_up2_o hq) rfl rfl
  have oL : ∀ (a k0 : Nat) (x : Int64), ∀ q, q ≠ a → bw_en cA g (bw_sl h a k0 x) q = bw_en cA g h q := fun a k0 x q hq => bw_en_eq rfl rfl (bw_up2_o hq) rfl
  have oR : ∀ (a k0 : Nat) (x : Option Nat), ∀ q, q ≠ a → bw_en cA g (bw_sr h a k0 x) q = bw_en cA g h q := fun a k0 x q hq => bw_en_eq rfl rfl rfl (bw_up2_o hq)
  unfold bq_pf at hq
  split at hq
  · rename_i c0 k0 v a r hf
    split at hq
    · rename_i hh
      split at hq
      · rename_i x hty
        cases hq
        exact bw_put (h' := bw_si h a k0 x) hx hb hown hts hK hini hdg hf hh.1 hh.2.1 (Or.inl hh.2.2.2) (by rw [hty]; rfl) (by rw [hty]; rfl) rfl (oI a k0 x) (pI a c0 k0 x hh.2.1 hty) K
      · rename_i x hty
        cases hq
        exact bw_put (h' := bw_sl h a k0 x) hx hb hown hts hK hini hdg hf hh.1 hh.2.1 (Or.inl hh.2.2.2) (by rw [hty]; rfl) (by rw [hty]; rfl) rfl (oL a k0 x) (pL a c0 k0 x hh.2.1 hty) K
      · cases hq
    · split at hq
      · rename_i hh
        split at hq
        · rename_i x hty
          cases hq
          exact bw_put (h' := bw_si h a k0 x) hx hb hown hts hK hini hdg hf hh.1 hh.2.1 (Or.inr hh.2.2.2) (by rw [hty]; rfl) (by rw [hty]; rfl) rfl (oI a k0 x) (pI a c0 k0 x hh.2.1 hty) K
        · rename_i n x hty
          cases hq
          exact bw_put (h' := bw_sr h a k0 (some x)) hx hb hown hts hK hini hdg hf hh.1 hh.2.1 (Or.inr hh.2.2.2) (by rw [hty]; rfl) (by rw [hty]; rfl) rfl (oR a k0 (some x)) (pR a c0 k0 x hh.2.1 (by rw [hty]; exact ⟨fun q => FieldType.noConfusion q, fun q => FieldType.noConfusion q⟩)) K
        · rename_i n x hty
          cases hq
          exact bw_put (h' := bw_sr h a k0 (some x)) hx hb hown hts hK hini hdg hf hh.1 hh.2.1 (Or.inr hh.2.2.2) (by rw [hty]; rfl) (by rw [hty]; rfl) rfl (oR a k0 (some x)) (pR a c0 k0 x hh.2.1 (by rw [hty]; exact ⟨fun q => FieldType.noConfusion q, fun q => FieldType.noConfusion q⟩)) K
        · cases hq
      · cases hq
  · cases hq
end BP
end
section
/-! arrays, statics, new cells, the JDK's natives -/
theorem bw_sum_tr (g : Nat × Nat × Nat) (r : List Value) : ((r.map (bw_tr g)).map fun v => v.category).sum = (r.map fun v => v.category).sum := by
  rw [List.map_map]
  congr 1
  exact List.map_congr_left fun v _ => bw_tr_cat g v
theorem bw_ty_kinds : ∀ c, c < 9 → ∀ k, k < bw_N c → (match bw_ty c k with | .int => true | .long => true | .object _ => true | .array _ => true | _ => false) = true := by decide +kernel
theorem bw_find_in {α : Type} {T : List (Nat × Nat × α)} {o ix : Nat} {x : Nat × Nat × α} (hf : T.find? (fun e => e.1 == o && e.2.1 == ix) = some x) : x ∈ T ∧ x.1 = o ∧ x.2.1 = ix := by
  have h2 := List.find?_some hf
  simp only [Bool.and_eq_true, beq_iff_eq] at h2
  exact ⟨List.mem_of_find?_eq_some hf, h2⟩
section BA
variable {p : Program} {l : Launch} {e : Env} {R : Room} {s : State} {m : MethodId} {args : Array Value} {below : List Frame} {meth : Method} {c : Code} {Q : State → Prop} {D : va_G} {cA : FieldType → ClassId} {g : Nat × Nat × Nat} {nL cells slots : Nat} {pc : Nat} {ls : bw_L} {st : List Value} {h : bw_H} {k : bw_C} {cc : ByteArray} {o : Nat} {X : Nat × (Nat → Int32)}
theorem bw_Wsz {H : Heap} {locs : List Loc} {fr : JFrame} (kk : H.size ≤ s.heap.size + cells → W p l e R s m args below meth c H locs cells slots Q fr) : W p l e R s m args below meth c H locs cells slots Q fr := by
  intro T hT Y
  exact kk (by have := Y.same.2.2.1; rw [← hT]; exact this) T hT Y
theorem bo_gs {ix : Nat} (hx : p.tables.exec = Jvm.exec) (hb : c.code = cc) (hown : s.vm.findClass (bw_R o) = some m.cls) (hts : ∀ w ∈ bw_Ts, w.before args s = true) (hZ : va_Z "BearWitness$Looks" "SETS_WITH" "[J" (.ref g.2.1) (bw_A g) s s.heap) (hdg : decode cc pc = .ok (.getstatic ix, 3))
    (hq : bq_gs (bw_st o ix) pc ls st h = some k) (K : bw_at p l e R s m args below meth c Q D cA g nL cells slots k) : bw_at p l e R s m args below meth c Q D cA g nL cells slots (pc, ls, st, h) := by
  unfold bq_gs at hq
  split at hq
  · rename_i hst
    cases hq
    unfold bw_st at hst
    obtain ⟨x, hf⟩ := Option.isSome_iff_exists.mp hst
    obtain ⟨h1, rfl, rfl⟩ := bw_find_in hf
    have h2 := List.all_eq_true.mp bw_stT_ok x h1
    have h3 := List.mem_of_getElem? (of_decide_eq_true h2)
    intro H locs la hi hl
    exact va_gets hx hb hZ hi.2.1 hown (hts _ (bw_in h3 rfl)) (fun _ q => q) hdg (K H locs la hi hl)
  · cases hq
theorem bo_la (hx : p.tables.exec = Jvm.exec) (hb : c.code = cc) (hT : va_T .long g.2.1 6 (fun j => .long (bw_set6 j)) (bw_A g) s s.heap) (hdg : decode cc pc = .ok (.laload, 1))
    (hq : bq_la pc ls st h = some k) (K : bw_at p l e R s m args below meth c Q D cA g nL cells slots k) : bw_at p l e R s m args below meth c Q D cA g nL cells slots (pc, ls, st, h) := by
  unfold bq_la at hq
  split at hq
  · split at hq
    · rename_i hh
      cases hq
      intro H locs la hi hl
      exact va_tl hx hb hT hi.2.1 (bw_vin hh.1 hh.2) rfl hdg (K H locs la hi hl)
    · cases hq
  · cases hq
theorem bo_ia (hx : p.tables.exec = Jvm.exec) (hb : c.code = cc) (hK : va_K D vwCl (bw_tys cA) s) (hT : va_T .int g.2.2 X.1 (fun j => .int (X.2 j)) (bw_A g) s s.heap) (hdg : decode cc pc = .ok (.iaload, 1))
    (hq : bq_ia X pc ls st h = some k) (K : bw_at p l e R s m args below meth c Q D cA g nL cells slots k) : bw_at p l e R s m args below meth c Q D cA g nL cells slots (pc, ls, st, h) := by
  unfold bq_ia at hq
  split at hq
  · split at hq
    · rename_i hh
      cases hq
      intro H locs la hi hl
      exact va_ti hx hb hT hi.2.1 (bw_vin hh.1 hh.2) rfl hdg (K H locs la hi hl)
    · cases hq
  · split at hq
    · rename_i hk
      split at hq
      · rename_i hh
        obtain ⟨ha, rfl, h1, h2⟩ := hh
        cases hq
        intro H locs la hi hl
        have he := bw_ws_get (cA := cA) (g := g) ha
        rw [bw_en_i hk] at he
        exact va_iald hx hb hK hi.1 _ 0 he rfl (bw_vin h1 h2) hdg (K H locs la hi hl)
      · cases hq
    · cases hq
  · cases hq
theorem bo_ba (hx : p.tables.exec = Jvm.exec) (hb : c.code = cc) (hK : va_K D vwCl (bw_tys cA) s) (hdg : decode cc pc = .ok (.baload, 1))
    (hq : bq_ba pc ls st h = some k) (K : bw_at p l e R s m args below meth c Q D cA g nL cells slots k) : bw_at p l e R s m args below meth c Q D cA g nL cells slots (pc, ls, st, h) := by
  unfold bq_ba at hq
  cases hq
theorem bo_aa (hx : p.tables.exec = Jvm.exec) (hb : c.code = cc) (hK : va_K D vwCl (bw_tys cA) s) (hdg : decode cc pc = .ok (.aaload, 1))
    (hq : bq_aa pc ls st h = some k) (K : bw_at p l e R s m args below meth c Q D cA g nL cells slots k) : bw_at p l e R s m args below meth c Q D cA g nL cells slots (pc, ls, st, h) := by
  unfold bq_aa at hq
  split at hq
  · split at hq
    · rename_i hk
      split at hq
      · rename_i hh
        obtain ⟨ha, rfl, h1, h2⟩ := hh
        cases hq
        intro H locs la hi hl
        have he := bw_ws_get (cA := cA) (g := g) ha
        rw [bw_en_r hk] at he
        have := K H locs la hi hl
        rw [show (List.map (bw_tr g) (bw_rf (bw_r h _ _) :: _)) = bw_tr g (bw_rf (bw_r h _ _)) :: List.map (bw_tr g) _ from rfl, bw_tr_rf] at this
        exact va_aldq hx hb hK hi.1 _ 2 he rfl (bw_vin h1 h2) hdg this
      · cases hq
    · cases hq
  · cases hq
theorem bo_ist (hx : p.tables.exec = Jvm.exec) (hb : c.code = cc) (hK : va_K D vwCl (bw_tys cA) s) (hdg : decode cc pc = .ok (.iastore, 1))
    (hq : bq_ist pc ls st h = some k) (K : bw_at p l e R s m args below meth c Q D cA g nL cells slots k) : bw_at p l e R s m args below meth c Q D cA g nL cells slots (pc, ls, st, h) := by
  unfold bq_ist at hq
  split at hq
  · rename_i x i a r
    split at hq
    · rename_i N hk
      split at hq
      · rename_i hh
        obtain ⟨ha, rfl, h1, h2⟩ := hh
        cases hq
        intro H locs la hi hl
        have he := bw_ws_get (cA := cA) (g := g) ha
        rw [bw_en_i hk] at he
        have hws := bw_ws_set (cA := cA) (g := g) (h := h) (h' := bw_si h a i.toNatClampNeg x) (p := a) rfl (fun q hq => bw_en_eq rfl (bw_up2_o hq) rfl rfl)
        have e2 : bw_en cA g (bw_si h a i.toNatClampNeg x) a = .inl (cA .int, N, .inl (upd (bw_i h a) i.toNatClampNeg x)) := by
          rw [bw_en_i (h := bw_si h a i.toNatClampNeg x) hk]
          exact congrArg (fun f => Sum.inl (cA .int, N, Sum.inl f)) (bw_up2_s _ _ _ _)
        rw [e2] at hws
        exact va_iast hx hb hK hi.1 (bw_ws_D cA g h) hi.2.1 _ 0 he rfl (bw_vin h1 h2) hdg (fun H1 locs1 hP1 _ hS1 => K H1 locs1 la ⟨hws ▸ hP1, hS1, hi.2.2⟩ hl)
      · cases hq
    · cases hq
  · cases hq
theorem bo_bst (hx : p.tables.exec = Jvm.exec) (hb : c.code = cc) (hK : va_K D vwCl (bw_tys cA) s) (hdg : decode cc pc = .ok (.bastore, 1))
    (hq : bq_bst pc ls st h = some k) (K : bw_at p l e R s m args below meth c Q D cA g nL cells slots k) : bw_at p l e R s m args below meth c Q D cA g nL cells slots (pc, ls, st, h) := by
  unfold bq_bst at hq
  cases hq
theorem bo_ast (hx : p.tables.exec = Jvm.exec) (hb : c.code = cc) (hK : va_K D vwCl (bw_tys cA) s) (hdg : decode cc pc = .ok (.aastore, 1))
    (hq : bq_ast pc ls st h = some k) (K : bw_at p l e R s m args below meth c Q D cA g nL cells slots k) : bw_at p l e R s m args below meth c Q D cA g nL cells slots (pc, ls, st, h) := by
  unfold bq_ast at hq
  split at hq
  · rename_i x i a r
    split at hq
    · rename_i N hk
      split at hq
      · rename_i hh
        obtain ⟨ha, rfl, hxn, hkx, h1, h2⟩ := hh
        cases hq
        intro H locs la hi hl
        have he := bw_ws_get (cA := cA) (g := g) ha
        rw [bw_en_r hk] at he
        have hex := bw_ws_get (cA := cA) (g := g) hxn
        rw [bw_en_o hkx] at hex
        have hws := bw_ws_set (cA := cA) (g := g) (h := h) (h' := bw_sr h a i.toNatClampNeg (some x)) (p := a) rfl (fun q hq => bw_en_eq rfl rfl rfl (bw_up2_o hq))
        have e2 : bw_en cA g (bw_sr h a i.toNatClampNeg (some x)) a = .inl (cA (.object RX1), N, .inr (.inr (.inr (.inr (va_up (fun j => (bw_r h a j).map (fun b => g.1 + b)) i.toNatClampNeg (some (g.1 + x))))))) := by
          rw [bw_en_r (h := bw_sr h a i.toNatClampNeg (some x)) hk]
          refine congrArg (fun f => Sum.inl (cA (.object RX1), N, Sum.inr (Sum.inr (Sum.inr (Sum.inr f))))) (funext fun j => ?_)
          show (bw_up2 h.2.2.2.2 a i.toNatClampNeg (some x) a j).map _ = _
          rw [bw_up2_s]
          unfold bw_up va_up
          by_cases hj : j = i.toNatClampNeg
          · rw [if_pos hj, if_pos hj]; rfl
          · rw [if_neg hj, if_neg hj]; rfl
        rw [e2] at hws
        exact va_astq hx hb hK hi.1 (bw_ws_D cA g h) hi.2.1 _ 2 _ 1 he rfl hex (bw_cl9 1 (by decide)) (bw_vin h1 h2) hdg (fun H1 locs1 hP1 _ hS1 => K H1 locs1 la ⟨hws ▸ hP1, hS1, hi.2.2⟩ hl)
      · cases hq
    · cases hq
  · cases hq
theorem bo_len (hx : p.tables.exec = Jvm.exec) (hb : c.code = cc) (hK : va_K D vwCl (bw_tys cA) s) (hT6 : va_T .long g.2.1 6 (fun j => .long (bw_set6 j)) (bw_A g) s s.heap) (hT : va_T .int g.2.2 X.1 (fun j => .int (X.2 j)) (bw_A g) s s.heap) (hdg : decode cc pc = .ok (.arraylength, 1))
    (hq : bq_len X pc ls st h = some k) (K : bw_at p l e R s m args below meth c Q D cA g nL cells slots k) : bw_at p l e R s m args below meth c Q D cA g nL cells slots (pc, ls, st, h) := by
  unfold bq_len at hq
  split at hq
  · cases hq
    intro H locs la hi hl
    exact va_tlen hx hb hT6 hi.2.1 rfl hdg (K H locs la hi hl)
  · cases hq
    intro H locs la hi hl
    exact va_tlen hx hb hT hi.2.1 rfl hdg (K H locs la hi hl)
  · split at hq
    · rename_i hk
      split at hq
      · rename_i hh
        obtain ⟨ha, hty⟩ := hh
        cases hq
        intro H locs la hi hl
        have he := bw_ws_get (cA := cA) (g := g) ha
        rcases hty with rfl | rfl | rfl
        · rw [bw_en_i hk] at he
          exact va_alen hx hb hK hi.1 _ 0 he rfl rfl hdg (K H locs la hi hl)
        · rw [bw_en_z hk] at he
          exact va_alen hx hb hK hi.1 _ 1 he rfl rfl hdg (K H locs la hi hl)
        · rw [bw_en_r hk] at he
          exact va_alen hx hb hK hi.1 _ 2 he rfl rfl hdg (K H locs la hi hl)
      · cases hq
    · cases hq
  · cases hq
/-- a new cell's address: the next -/
theorem bw_next {q : Nat} {E : va_E} {H1 : Heap} (hP1 : va_P D vwCl (bw_ws cA g h ++ [(q, E)]) H1) (hD1 : va_D (bw_A g) (bw_ws cA g h ++ [(q, E)])) (hsz : H1.size ≤ g.1 + bw_n h + 1) : q = g.1 + bw_n h := by
  have hlen : (bw_ws cA g h).length = bw_n h := by unfold bw_ws; simp
  have hq : (bw_ws cA g h ++ [(q, E)])[bw_n h]? = some (q, E) := by
    rw [List.getElem?_append_right (by omega), hlen, Nat.sub_self]; rfl
  have h1 : q < H1.size := (hP1 _ _ hq).lt
  have h2 : g.1 ≤ q := hD1.2 _ _ hq
  rcases Nat.lt_or_ge (q - g.1) (bw_n h) with h3 | h3
  · have h4 : (bw_ws cA g h ++ [(q, E)])[q - g.1]? = some (g.1 + (q - g.1), bw_en cA g h (q - g.1)) := by
      rw [List.getElem?_append_left (by omega)]; exact bw_ws_get h3
    have := hD1.1 _ _ _ _ h4 hq (by show g.1 + (q - g.1) = q; omega)
    omega
  · omega
theorem bw_en_nw {kd : bw_K} {N : Nat} : ∀ q, q < bw_n h → bw_en cA g (bw_nw h kd N) q = bw_en cA g h q := fun q hq =>
  bw_en_eq (bw_up_o (Nat.ne_of_lt hq)) (bw_up_o (Nat.ne_of_lt hq)) (bw_up_o (Nat.ne_of_lt hq)) (bw_up_o (Nat.ne_of_lt hq))
theorem bo_new {ix : Nat} (hx : p.tables.exec = Jvm.exec) (hb : c.code = cc) (hown : s.vm.findClass (bw_R o) = some m.cls) (hts : ∀ w ∈ bw_Ts, w.before args s = true) (hK : va_K D vwCl (bw_tys cA) s) (hA : s.heap.size ≤ s.heap.size ∧ ∀ q, s.heap.size ≤ q → bw_A g q) (hdg : decode cc pc = .ok (.new ix, 3))
    (hq : bq_new (bw_cl o ix) pc ls st h = some k) (hcells : cells + (bw_n k.2.2.2 - bw_n h) ≤ R.cells) (hslots : slots + (bw_s k.2.2.2 - bw_s h) ≤ R.slots) (K : bw_at p l e R s m args below meth c Q D cA g nL (cells + (bw_n k.2.2.2 - bw_n h)) (slots + (bw_s k.2.2.2 - bw_s h)) k) : bw_at p l e R s m args below meth c Q D cA g nL cells slots (pc, ls, st, h) := by
  unfold bq_new at hq
  split at hq
  · rename_i c0 hc
    split at hq
    · rename_i h9
      cases hq
      unfold bw_cl at hc
      cases hf : bw_NT.find? (fun e => e.1 == o && e.2.1 == ix) with
      | none => rw [hf] at hc; cases hc
      | some x =>
        rw [hf] at hc
        obtain ⟨h1, rfl, rfl⟩ := bw_find_in hf
        have h2 := List.all_eq_true.mp bw_NT_ok x h1
        cases hc
        simp only [Bool.and_eq_true, decide_eq_true_eq] at h2
        obtain ⟨⟨⟨-, w1⟩, w2⟩, w3⟩ := h2
        have en : bw_n (bw_nw h (.inl x.2.2.1) (bw_N x.2.2.1)) - bw_n h = 1 := Nat.add_sub_cancel_left _ _
        have es : bw_s (bw_nw h (.inl x.2.2.1) (bw_N x.2.2.1)) - bw_s h = bw_N x.2.2.1 := Nat.add_sub_cancel_left _ _
        simp only [en, es] at hcells hslots K
        intro H locs la hi hl
        have e2 : bw_en cA g (bw_nw h (.inl x.2.2.1) (bw_N x.2.2.1)) (bw_n h) = .inr (x.2.2.1, (List.range (bw_N x.2.2.1)).map (fun k => bw_tr g (bw_fv (bw_nw h (.inl x.2.2.1) (bw_N x.2.2.1)) (bw_n h) x.2.2.1 k))) := bw_en_o (bw_up_s _ _ _)
        have hws := bw_ws_push (cA := cA) (g := g) (h := h) (h' := bw_nw h (.inl x.2.2.1) (bw_N x.2.2.1)) rfl bw_en_nw
        rw [e2] at hws
        refine va_new hx hb hts (bw_lay_in _ h9) (bw_ty x.2.2.1) (bw_ty_ok _ h9) hown (hts _ (bw_in (List.mem_of_getElem? w1) rfl)) (hts _ (bw_in (List.mem_of_getElem? w2) rfl)) (hts _ (bw_in (List.mem_of_getElem? w3) rfl)) hK hi.1 (bw_ws_D cA g h) hi.2.1 hA.2 (bw_cl9 _ h9) (fs := (List.range (bw_N x.2.2.1)).map (fun k => bw_tr g (bw_fv (bw_nw h (.inl x.2.2.1) (bw_N x.2.2.1)) (bw_n h) x.2.2.1 k))) (fun j hj => ?_) hcells hslots hdg (fun q H1 hP1 hD1 hS1 => ?_)
        · unfold vp_V
          rw [List.getD_eq_getElem?_getD, List.getElem?_map, List.getElem?_range hj]
          have hk := bw_ty_kinds _ h9 j hj
          have zi : bw_i (bw_nw h (.inl x.2.2.1) (bw_N x.2.2.1)) (bw_n h) = fun _ => 0 := bw_up_s _ _ _
          have zl : bw_l (bw_nw h (.inl x.2.2.1) (bw_N x.2.2.1)) (bw_n h) = fun _ => 0 := bw_up_s _ _ _
          have zr : bw_r (bw_nw h (.inl x.2.2.1) (bw_N x.2.2.1)) (bw_n h) = fun _ => none := bw_up_s _ _ _
          show _ = bw_tr g (bw_fv (bw_nw h (.inl x.2.2.1) (bw_N x.2.2.1)) (bw_n h) x.2.2.1 j)
          unfold bw_fv
          rw [zi, zl, zr]
          revert hk
          cases bw_ty x.2.2.1 j <;> intro hk <;> first | rfl | cases hk
        · refine bw_Wsz fun hsz => ?_
          have hqe := bw_next (h := h) hP1 hD1 (by have e0 : s.heap.size + cells ≤ g.1 + bw_n h := hi.2.2; show H1.size ≤ g.1 + bw_n h + 1; omega)
          subst hqe
          rw [hws] at hP1
          exact K H1 locs la ⟨hP1, hS1, by have e0 : s.heap.size + cells ≤ g.1 + bw_n h := hi.2.2; show s.heap.size + (cells + 1) ≤ g.1 + (bw_n h + 1); omega⟩ hl
    · cases hq
  · cases hq
theorem bw_clA {ty : FieldType} {cA' : ClassId} {t0 : Nat} (h1 : va_K D vwCl (bw_tys cA ++ [(cA', ty)]) s) (ht : (bw_tys cA)[t0]? = some (cA ty, ty)) : cA' = cA ty := by
  have ht' : (bw_tys cA ++ [(cA', ty)])[t0]? = some (cA ty, ty) := by
    rw [List.getElem?_append_left (List.getElem?_eq_some_iff.mp ht).1]; exact ht
  have a1 := (h1.2 t0 _ ht').2
  have a2 := (h1.2 3 (cA', ty) rfl).2
  unfold va_RA at a1 a2
  cases ty <;> first
    | (obtain ⟨_, _, -, -, -, b1⟩ := a1; obtain ⟨_, _, -, -, -, b2⟩ := a2; exact Option.some.inj (b2.symm.trans b1))
    | exact Option.some.inj (a2.symm.trans a1)
theorem bo_na {t : ArrayType} (hx : p.tables.exec = Jvm.exec) (hb : c.code = cc) (hts : ∀ w ∈ bw_Ts, w.before args s = true) (hK : va_K D vwCl (bw_tys cA) s) (hA : s.heap.size ≤ s.heap.size ∧ ∀ q, s.heap.size ≤ q → bw_A g q) (hdg : decode cc pc = .ok (.newarray t, 2))
    (hq : bq_na t pc ls st h = some k) (hcells : cells + (bw_n k.2.2.2 - bw_n h) ≤ R.cells) (hslots : slots + (bw_s k.2.2.2 - bw_s h) ≤ R.slots) (K : bw_at p l e R s m args below meth c Q D cA g nL (cells + (bw_n k.2.2.2 - bw_n h)) (slots + (bw_s k.2.2.2 - bw_s h)) k) : bw_at p l e R s m args below meth c Q D cA g nL cells slots (pc, ls, st, h) := by
  unfold bq_na at hq
  split at hq
  · rename_i n r
    split at hq
    · rename_i hh
      cases hq
      have en : bw_n (bw_nw h (.inr (.int, n.toNatClampNeg)) n.toNatClampNeg) - bw_n h = 1 := Nat.add_sub_cancel_left _ _
      have es : bw_s (bw_nw h (.inr (.int, n.toNatClampNeg)) n.toNatClampNeg) - bw_s h = n.toNatClampNeg := Nat.add_sub_cancel_left _ _
      simp only [en, es] at hcells hslots K
      intro H locs la hi hl
      have e2 : bw_en cA g (bw_nw h (.inr (.int, n.toNatClampNeg)) n.toNatClampNeg) (bw_n h) = .inl (cA .int, n.toNatClampNeg, .inl (fun _ => 0)) := by
        have hkn : bw_k (bw_nw h (.inr (.int, n.toNatClampNeg)) n.toNatClampNeg) (bw_n h) = .inr (.int, n.toNatClampNeg) := bw_up_s _ _ _
        rw [bw_en_i hkn]
        exact congrArg (fun f => Sum.inl (cA .int, n.toNatClampNeg, Sum.inl f)) (bw_up_s _ _ _)
      have hws := bw_ws_push (cA := cA) (g := g) (h := h) (h' := bw_nw h (.inr (.int, n.toNatClampNeg)) n.toNatClampNeg) rfl bw_en_nw
      rw [e2] at hws
      have hcl : n.toNatClampNeg < 100000 := by have : n.toNatClampNeg = n.toInt.toNat := rfl; omega
      refine va_newa (atype := .int) (ty := .int) (a0 := (n.toNatClampNeg, .inl (fun _ => 0))) hx hb (hts _ (List.mem_append_right _ List.mem_cons_self)) rfl hK hi.1 (bw_ws_D cA g h) hi.2.1 hA.2 (fun _ => rfl) (fun hn => ?_) rfl ?_ hcells hslots hdg (fun q cA' H1 hK1 hP1 hD1 hS1 => ?_)
      · have := Int32.lt_iff_toInt_lt.mp hn
        have h0 : (0 : Int32).toInt = 0 := rfl
        omega
      · show n.toNatClampNeg * 4 ≤ 536870912
        omega
      · have hce := bw_clA (t0 := 0) hK1 rfl
        subst hce
        refine bw_Wsz fun hsz => ?_
        have hqe := bw_next (h := h) hP1 hD1 (by have e0 : s.heap.size + cells ≤ g.1 + bw_n h := hi.2.2; show H1.size ≤ g.1 + bw_n h + 1; omega)
        subst hqe
        rw [hws] at hP1
        exact K H1 locs la ⟨hP1, hS1, by have e0 : s.heap.size + cells ≤ g.1 + bw_n h := hi.2.2; show s.heap.size + (cells + 1) ≤ g.1 + (bw_n h + 1); omega⟩ hl
    · cases hq
  · cases hq
theorem bo_an {ix : Nat} (hx : p.tables.exec = Jvm.exec) (hb : c.code = cc) (hown : s.vm.findClass (bw_R o) = some m.cls) (hts : ∀ w ∈ bw_Ts, w.before args s = true) (hao : va_AO RX1 s) (hK : va_K D vwCl (bw_tys cA) s) (hA : s.heap.size ≤ s.heap.size ∧ ∀ q, s.heap.size ≤ q → bw_A g q) (hdg : decode cc pc = .ok (.anewarray ix, 3))
    (hq : bq_an (bw_an o ix) pc ls st h = some k) (hcells : cells + (bw_n k.2.2.2 - bw_n h) ≤ R.cells) (hslots : slots + (bw_s k.2.2.2 - bw_s h) ≤ R.slots) (K : bw_at p l e R s m args below meth c Q D cA g nL (cells + (bw_n k.2.2.2 - bw_n h)) (slots + (bw_s k.2.2.2 - bw_s h)) k) : bw_at p l e R s m args below meth c Q D cA g nL cells slots (pc, ls, st, h) := by
  unfold bq_an at hq
  split at hq
  · rename_i n r
    split at hq
    · rename_i hh
      cases hq
      have hst := hh.1
      unfold bw_an at hst
      obtain ⟨x, hf⟩ := Option.isSome_iff_exists.mp hst
      obtain ⟨h1, rfl, rfl⟩ := bw_find_in hf
      have h2 := List.all_eq_true.mp bw_anT_ok x h1
      have h3 := List.mem_of_getElem? (of_decide_eq_true h2)
      have en : bw_n (bw_nw h (.inr (.object RX1, n.toNatClampNeg)) n.toNatClampNeg) - bw_n h = 1 := Nat.add_sub_cancel_left _ _
      have es : bw_s (bw_nw h (.inr (.object RX1, n.toNatClampNeg)) n.toNatClampNeg) - bw_s h = n.toNatClampNeg := Nat.add_sub_cancel_left _ _
      simp only [en, es] at hcells hslots K
      intro H locs la hi hl
      have e2 : bw_en cA g (bw_nw h (.inr (.object RX1, n.toNatClampNeg)) n.toNatClampNeg) (bw_n h) = .inl (cA (.object RX1), n.toNatClampNeg, .inr (.inr (.inr (.inr (fun _ => none))))) := by
        have hkn : bw_k (bw_nw h (.inr (.object RX1, n.toNatClampNeg)) n.toNatClampNeg) (bw_n h) = .inr (.object RX1, n.toNatClampNeg) := bw_up_s _ _ _
        rw [bw_en_r hkn]
        refine congrArg (fun f => Sum.inl (cA (.object RX1), n.toNatClampNeg, Sum.inr (Sum.inr (Sum.inr (Sum.inr f))))) (funext fun j => ?_)
        show ((bw_up h.2.2.2.2 (bw_n h) (fun _ => none)) (bw_n h) j).map _ = none
        rw [bw_up_s]; rfl
      have hws := bw_ws_push (cA := cA) (g := g) (h := h) (h' := bw_nw h (.inr (.object RX1, n.toNatClampNeg)) n.toNatClampNeg) rfl bw_en_nw
      rw [e2] at hws
      have hcl : n.toNatClampNeg < 100000 := by have : n.toNatClampNeg = n.toInt.toNat := rfl; omega
      refine va_newq hx hb hown (hts _ (bw_in h3 rfl)) hao hK hi.1 (bw_ws_D cA g h) hi.2.1 hA.2 (fun hn => ?_) rfl (by omega) hcells hslots hdg (fun q cA' H1 hK1 hP1 hD1 hS1 => ?_)
      · have := Int32.lt_iff_toInt_lt.mp hn
        have h0 : (0 : Int32).toInt = 0 := rfl
        omega
      · have hce := bw_clA (t0 := 2) hK1 rfl
        subst hce
        refine bw_Wsz fun hsz => ?_
        have hqe := bw_next (h := h) hP1 hD1 (by have e0 : s.heap.size + cells ≤ g.1 + bw_n h := hi.2.2; show H1.size ≤ g.1 + bw_n h + 1; omega)
        subst hqe
        rw [hws] at hP1
        exact K H1 locs la ⟨hP1, hS1, by have e0 : s.heap.size + cells ≤ g.1 + bw_n h := hi.2.2; show s.heap.size + (cells + 1) ≤ g.1 + (bw_n h + 1); omega⟩ hl
    · cases hq
  · cases hq
theorem bo_oi {ix : Nat} (hx : p.tables.exec = Jvm.exec) (hb : c.code = cc) (hml : c.maxLocals = nL) (hown : s.vm.findClass (bw_R o) = some m.cls) (hts : ∀ w ∈ bw_Ts, w.before args s = true) (hf1 : 1 ≤ R.frames) (hf2 : 60 ≤ R.locals) (hdg : decode cc pc = .ok (.invokespecial ix, 3))
    (hq : bq_oi (bw_oi o ix) pc ls st h = some k) (K : bw_at p l e R s m args below meth c Q D cA g nL cells slots k) : bw_at p l e R s m args below meth c Q D cA g nL cells slots (pc, ls, st, h) := by
  unfold bq_oi at hq
  split at hq
  · rename_i a r
    split at hq
    · rename_i hh
      cases hq
      have hst := hh.1
      unfold bw_oi at hst
      obtain ⟨x, hf⟩ := Option.isSome_iff_exists.mp hst
      obtain ⟨h1, rfl, rfl⟩ := bw_find_in hf
      have h2 := List.all_eq_true.mp bw_oiT_ok x h1
      have h3 := List.mem_of_getElem? (of_decide_eq_true h2)
      intro H locs la hi hl
      have hsum : ((r.map (bw_tr g)).map fun v => v.category).sum ≤ 8 := by rw [bw_sum_tr]; exact hh.2
      refine W.objInit hx hb hown (hts _ (bw_in h3 rfl)) (hts _ (bw_in bw_w_oi1 rfl)) (hts _ (bw_in bw_w_oi2 rfl)) rfl (by rw [hml]; exact hl.1) rfl hdg hf1 (by show 2 * 0 + _ + 12 ≤ _; omega) ?_
      exact K H locs la hi hl
    · cases hq
  · cases hq
theorem bo_mx {b : Bool} {ix : Nat} (hx : p.tables.exec = Jvm.exec) (hb : c.code = cc) (hml : c.maxLocals = nL) (hown : s.vm.findClass (bw_R o) = some m.cls) (hts : ∀ w ∈ bw_Ts, w.before args s = true) (hf1 : 1 ≤ R.frames) (hf2 : 60 ≤ R.locals) (hc : cells ≤ R.cells) (hs : slots ≤ R.slots) (hmx : bw_mx o ix = some b) (hdg : decode cc pc = .ok (.invokestatic ix, 3))
    (hq : bq_mx b pc ls st h = some k) (K : bw_at p l e R s m args below meth c Q D cA g nL cells slots k) : bw_at p l e R s m args below meth c Q D cA g nL cells slots (pc, ls, st, h) := by
  unfold bq_mx at hq
  split at hq
  · rename_i y x r
    split at hq
    · rename_i hh
      cases hq
      unfold bw_mx at hmx
      cases hf : bw_mxT.find? (fun e => e.1 == o && e.2.1 == ix) with
      | none => rw [hf] at hmx; cases hmx
      | some z =>
        rw [hf] at hmx
        obtain ⟨h1, rfl, rfl⟩ := bw_find_in hf
        have h2 := List.all_eq_true.mp bw_mxT_ok z h1
        have h3 := List.mem_of_getElem? (of_decide_eq_true h2)
        have hzb : z.2.2.1 = b := Option.some.inj hmx
        rw [hzb] at h3
        intro H locs la hi hl
        have hsum : ((r.map (bw_tr g)).map fun v => v.category).sum ≤ 8 := by rw [bw_sum_tr]; exact hh
        have K' := K H locs la hi hl
        cases b
        · exact va_mmin hx hb (by rw [hml]; exact hl.1.symm) hown (hts _ (bw_in (by simpa using h3) rfl)) (hts _ (bw_in bw_w_min1 rfl)) (hts _ (bw_in bw_w_mm rfl)) (hts _ (bw_in bw_w_min2 rfl)) hf1 (by omega) hc hs hdg K'
        · exact va_mmax hx hb (by rw [hml]; exact hl.1.symm) hown (hts _ (bw_in (by simpa using h3) rfl)) (hts _ (bw_in bw_w_max1 rfl)) (hts _ (bw_in bw_w_mm rfl)) (hts _ (bw_in bw_w_max2 rfl)) hf1 (by omega) hc hs hdg K'
    · cases hq
  · cases hq
theorem bo_ac {ix : Nat} (hx : p.tables.exec = Jvm.exec) (hb : c.code = cc) (hml : c.maxLocals = nL) (hown : s.vm.findClass (bw_R o) = some m.cls) (hts : ∀ w ∈ bw_Ts, w.before args s = true) (hK : va_K D vwCl (bw_tys cA) s) (hf1 : 1 ≤ R.frames) (hf2 : 60 ≤ R.locals) (hdg : decode cc pc = .ok (.invokestatic ix, 3))
    (hq : bq_ac (bw_ac o ix) pc ls st h = some k) (K : bw_at p l e R s m args below meth c Q D cA g nL cells slots k) : bw_at p l e R s m args below meth c Q D cA g nL cells slots (pc, ls, st, h) := by
  unfold bq_ac at hq
  split at hq
  · rename_i n dp a sp a0 r
    split at hq
    · rename_i t0 n0 t1 n1 hk0 hk1
      split at hq
      · rename_i hh
        obtain ⟨hst, hsum0, ha0, ha, rfl, rfl, z1, z2, z3, z4, z5⟩ := hh
        cases hq
        unfold bw_ac at hst
        obtain ⟨x, hf⟩ := Option.isSome_iff_exists.mp hst
        exact absurd (List.mem_of_find?_eq_some hf) List.not_mem_nil
      · cases hq
    · cases hq
  · cases hq
end BA
end
section
/-! one instruction; a method's end; a call; and all of it together -/
theorem bz_il {w i : Nat} {pc : Nat} {ls : bw_L} {st : List Value} {h : bw_H} {k : bw_C} (hq : bq_il w i pc ls st h = some k) : k.2.2.2.1 = h.1 := by
  unfold bq_il at hq
  repeat' split at hq
  all_goals (first | (cases hq; rfl) | cases hq)
theorem bz_ll {w i : Nat} {pc : Nat} {ls : bw_L} {st : List Value} {h : bw_H} {k : bw_C} (hq : bq_ll w i pc ls st h = some k) : k.2.2.2.1 = h.1 := by
  unfold bq_ll at hq
  repeat' split at hq
  all_goals (first | (cases hq; rfl) | cases hq)
theorem bz_al {w i : Nat} {pc : Nat} {ls : bw_L} {st : List Value} {h : bw_H} {k : bw_C} (hq : bq_al w i pc ls st h = some k) : k.2.2.2.1 = h.1 := by
  unfold bq_al at hq
  repeat' split at hq
  all_goals (first | (cases hq; rfl) | cases hq)
theorem bz_is {nL w i : Nat} {pc : Nat} {ls : bw_L} {st : List Value} {h : bw_H} {k : bw_C} (hq : bq_is nL w i pc ls st h = some k) : k.2.2.2.1 = h.1 := by
  unfold bq_is at hq
  repeat' split at hq
  all_goals (first | (cases hq; rfl) | cases hq)
theorem bz_ls {nL w i : Nat} {pc : Nat} {ls : bw_L} {st : List Value} {h : bw_H} {k : bw_C} (hq : bq_ls nL w i pc ls st h = some k) : k.2.2.2.1 = h.1 := by
  unfold bq_ls at hq
  repeat' split at hq
  all_goals (first | (cases hq; rfl) | cases hq)
theorem bz_as {nL w i : Nat} {pc : Nat} {ls : bw_L} {st : List Value} {h : bw_H} {k : bw_C} (hq : bq_as nL w i pc ls st h = some k) : k.2.2.2.1 = h.1 := by
  unfold bq_as at hq
  repeat' split at hq
  all_goals (first | (cases hq; rfl) | cases hq)
theorem bz_ic {nL i : Nat} {n : Int} {pc : Nat} {ls : bw_L} {st : List Value} {h : bw_H} {k : bw_C} (hq : bq_ic nL i n pc ls st h = some k) : k.2.2.2.1 = h.1 := by
  unfold bq_ic at hq
  repeat' split at hq
  all_goals (first | (cases hq; rfl) | cases hq)
theorem bz_ii {f : Int32 → Int32 → Int32} {pc : Nat} {ls : bw_L} {st : List Value} {h : bw_H} {k : bw_C} (hq : bq_ii f pc ls st h = some k) : k.2.2.2.1 = h.1 := by
  unfold bq_ii at hq
  repeat' split at hq
  all_goals (first | (cases hq; rfl) | cases hq)
theorem bz_id {f : Int32 → Int32 → Int32} {pc : Nat} {ls : bw_L} {st : List Value} {h : bw_H} {k : bw_C} (hq : bq_id f pc ls st h = some k) : k.2.2.2.1 = h.1 := by
  unfold bq_id at hq
  repeat' split at hq
  all_goals (first | (cases hq; rfl) | cases hq)
theorem bz_jj {f : Int64 → Int64 → Int64} {pc : Nat} {ls : bw_L} {st : List Value} {h : bw_H} {k : bw_C} (hq : bq_jj f pc ls st h = some k) : k.2.2.2.1 = h.1 := by
  unfold bq_jj at hq
  repeat' split at hq
  all_goals (first | (cases hq; rfl) | cases hq)
theorem bz_jd {f : Int64 → Int64 → Int64} {pc : Nat} {ls : bw_L} {st : List Value} {h : bw_H} {k : bw_C} (hq : bq_jd f pc ls st h = some k) : k.2.2.2.1 = h.1 := by
  unfold bq_jd at hq
  repeat' split at hq
  all_goals (first | (cases hq; rfl) | cases hq)
theorem bz_i1 {f : Int32 → Value} {pc : Nat} {ls : bw_L} {st : List Value} {h : bw_H} {k : bw_C} (hq : bq_i1 f pc ls st h = some k) : k.2.2.2.1 = h.1 := by
  unfold bq_i1 at hq
  repeat' split at hq
  all_goals (first | (cases hq; rfl) | cases hq)
theorem bz_j1 {f : Int64 → Value} {pc : Nat} {ls : bw_L} {st : List Value} {h : bw_H} {k : bw_C} (hq : bq_j1 f pc ls st h = some k) : k.2.2.2.1 = h.1 := by
  unfold bq_j1 at hq
  repeat' split at hq
  all_goals (first | (cases hq; rfl) | cases hq)
theorem bz_ju  {pc : Nat} {ls : bw_L} {st : List Value} {h : bw_H} {k : bw_C} (hq : bq_ju  pc ls st h = some k) : k.2.2.2.1 = h.1 := by
  unfold bq_ju at hq
  repeat' split at hq
  all_goals (first | (cases hq; rfl) | cases hq)
theorem bz_cm  {pc : Nat} {ls : bw_L} {st : List Value} {h : bw_H} {k : bw_C} (hq : bq_cm  pc ls st h = some k) : k.2.2.2.1 = h.1 := by
  unfold bq_cm at hq
  repeat' split at hq
  all_goals (first | (cases hq; rfl) | cases hq)
theorem bz_du  {pc : Nat} {ls : bw_L} {st : List Value} {h : bw_H} {k : bw_C} (hq : bq_du  pc ls st h = some k) : k.2.2.2.1 = h.1 := by
  unfold bq_du at hq
  repeat' split at hq
  all_goals (first | (cases hq; rfl) | cases hq)
theorem bz_d2  {pc : Nat} {ls : bw_L} {st : List Value} {h : bw_H} {k : bw_C} (hq : bq_d2  pc ls st h = some k) : k.2.2.2.1 = h.1 := by
  unfold bq_d2 at hq
  repeat' split at hq
  all_goals (first | (cases hq; rfl) | cases hq)
theorem bz_cn {w : Nat} {v : Value} {pc : Nat} {ls : bw_L} {st : List Value} {h : bw_H} {k : bw_C} (hq : bq_cn w v pc ls st h = some k) : k.2.2.2.1 = h.1 := by
  unfold bq_cn at hq
  repeat' split at hq
  all_goals (first | (cases hq; rfl) | cases hq)
theorem bz_go {off : Int} {pc : Nat} {ls : bw_L} {st : List Value} {h : bw_H} {k : bw_C} (hq : bq_go off pc ls st h = some k) : k.2.2.2.1 = h.1 := by
  unfold bq_go at hq
  repeat' split at hq
  all_goals (first | (cases hq; rfl) | cases hq)
theorem bz_if {d : Int32 → Bool} {off : Int} {pc : Nat} {ls : bw_L} {st : List Value} {h : bw_H} {k : bw_C} (hq : bq_if d off pc ls st h = some k) : k.2.2.2.1 = h.1 := by
  unfold bq_if at hq
  repeat' split at hq
  all_goals (first | (cases hq; rfl) | cases hq)
theorem bz_cp {d : Int32 → Int32 → Bool} {off : Int} {pc : Nat} {ls : bw_L} {st : List Value} {h : bw_H} {k : bw_C} (hq : bq_cp d off pc ls st h = some k) : k.2.2.2.1 = h.1 := by
  unfold bq_cp at hq
  repeat' split at hq
  all_goals (first | (cases hq; rfl) | cases hq)
theorem bz_nu {off : Int} {pc : Nat} {ls : bw_L} {st : List Value} {h : bw_H} {k : bw_C} (hq : bq_nu off pc ls st h = some k) : k.2.2.2.1 = h.1 := by
  unfold bq_nu at hq
  repeat' split at hq
  all_goals (first | (cases hq; rfl) | cases hq)
theorem bz_nn {off : Int} {pc : Nat} {ls : bw_L} {st : List Value} {h : bw_H} {k : bw_C} (hq : bq_nn off pc ls st h = some k) : k.2.2.2.1 = h.1 := by
  unfold bq_nn at hq
  repeat' split at hq
  all_goals (first | (cases hq; rfl) | cases hq)
theorem bz_ts {df lo hi : Int} {offs : Array Int} {pc : Nat} {ls : bw_L} {st : List Value} {h : bw_H} {k : bw_C} (hq : bq_ts df lo hi offs pc ls st h = some k) : k.2.2.2.1 = h.1 := by
  unfold bq_ts at hq
  repeat' split at hq
  all_goals (first | (cases hq; rfl) | cases hq)
theorem bz_gf {f : Option (Nat × Nat)} {pc : Nat} {ls : bw_L} {st : List Value} {h : bw_H} {k : bw_C} (hq : bq_gf f pc ls st h = some k) : k.2.2.2.1 = h.1 := by
  unfold bq_gf at hq
  repeat' split at hq
  all_goals (first | (cases hq; rfl) | cases hq)
theorem bz_pf {o : Nat} {ini : Bool} {f : Option (Nat × Nat)} {pc : Nat} {ls : bw_L} {st : List Value} {h : bw_H} {k : bw_C} (hq : bq_pf o ini f pc ls st h = some k) : k.2.2.2.1 = h.1 := by
  unfold bq_pf at hq
  repeat' split at hq
  all_goals (first | (cases hq; rfl) | cases hq)
theorem bz_gs {b : Bool} {pc : Nat} {ls : bw_L} {st : List Value} {h : bw_H} {k : bw_C} (hq : bq_gs b pc ls st h = some k) : k.2.2.2.1 = h.1 := by
  unfold bq_gs at hq
  repeat' split at hq
  all_goals (first | (cases hq; rfl) | cases hq)
theorem bz_la  {pc : Nat} {ls : bw_L} {st : List Value} {h : bw_H} {k : bw_C} (hq : bq_la  pc ls st h = some k) : k.2.2.2.1 = h.1 := by
  unfold bq_la at hq
  repeat' split at hq
  all_goals (first | (cases hq; rfl) | cases hq)
theorem bz_ia {X : Nat × (Nat → Int32)} {pc : Nat} {ls : bw_L} {st : List Value} {h : bw_H} {k : bw_C} (hq : bq_ia X pc ls st h = some k) : k.2.2.2.1 = h.1 := by
  unfold bq_ia at hq
  repeat' split at hq
  all_goals (first | (cases hq; rfl) | cases hq)
theorem bz_ba  {pc : Nat} {ls : bw_L} {st : List Value} {h : bw_H} {k : bw_C} (hq : bq_ba  pc ls st h = some k) : k.2.2.2.1 = h.1 := by
  unfold bq_ba at hq
  repeat' split at hq
  all_goals (first | (cases hq; rfl) | cases hq)
theorem bz_aa  {pc : Nat} {ls : bw_L} {st : List Value} {h : bw_H} {k : bw_C} (hq : bq_aa  pc ls st h = some k) : k.2.2.2.1 = h.1 := by
  unfold bq_aa at hq
  repeat' split at hq
  all_goals (first | (cases hq; rfl) | cases hq)
theorem bz_ist  {pc : Nat} {ls : bw_L} {st : List Value} {h : bw_H} {k : bw_C} (hq : bq_ist  pc ls st h = some k) : k.2.2.2.1 = h.1 := by
  unfold bq_ist at hq
  repeat' split at hq
  all_goals (first | (cases hq; rfl) | cases hq)
theorem bz_bst  {pc : Nat} {ls : bw_L} {st : List Value} {h : bw_H} {k : bw_C} (hq : bq_bst  pc ls st h = some k) : k.2.2.2.1 = h.1 := by
  unfold bq_bst at hq
  repeat' split at hq
  all_goals (first | (cases hq; rfl) | cases hq)
theorem bz_ast  {pc : Nat} {ls : bw_L} {st : List Value} {h : bw_H} {k : bw_C} (hq : bq_ast  pc ls st h = some k) : k.2.2.2.1 = h.1 := by
  unfold bq_ast at hq
  repeat' split at hq
  all_goals (first | (cases hq; rfl) | cases hq)
theorem bz_len {X : Nat × (Nat → Int32)} {pc : Nat} {ls : bw_L} {st : List Value} {h : bw_H} {k : bw_C} (hq : bq_len X pc ls st h = some k) : k.2.2.2.1 = h.1 := by
  unfold bq_len at hq
  repeat' split at hq
  all_goals (first | (cases hq; rfl) | cases hq)
theorem bz_oi {b : Bool} {pc : Nat} {ls : bw_L} {st : List Value} {h : bw_H} {k : bw_C} (hq : bq_oi b pc ls st h = some k) : k.2.2.2.1 = h.1 := by
  unfold bq_oi at hq
  repeat' split at hq
  all_goals (first | (cases hq; rfl) | cases hq)
theorem bz_ac {b : Bool} {pc : Nat} {ls : bw_L} {st : List Value} {h : bw_H} {k : bw_C} (hq : bq_ac b pc ls st h = some k) : k.2.2.2.1 = h.1 := by
  unfold bq_ac at hq
  repeat' split at hq
  all_goals (first | (cases hq; rfl) | cases hq)
theorem bz_mx {b : Bool} {pc : Nat} {ls : bw_L} {st : List Value} {h : bw_H} {k : bw_C} (hq : bq_mx b pc ls st h = some k) : k.2.2.2.1 = h.1 := by
  unfold bq_mx at hq
  repeat' split at hq
  all_goals (first | (cases hq; rfl) | cases hq)
theorem bz_new {c : Option Nat} {pc : Nat} {ls : bw_L} {st : List Value} {h : bw_H} {k : bw_C} (hq : bq_new c pc ls st h = some k) : bw_n h ≤ bw_n k.2.2.2 ∧ bw_s h ≤ bw_s k.2.2.2 := by
  unfold bq_new at hq
  repeat' split at hq
  all_goals (first | (cases hq; exact ⟨Nat.le_add_right _ _, Nat.le_add_right _ _⟩) | cases hq)
theorem bz_na {t : ArrayType} {pc : Nat} {ls : bw_L} {st : List Value} {h : bw_H} {k : bw_C} (hq : bq_na t pc ls st h = some k) : bw_n h ≤ bw_n k.2.2.2 ∧ bw_s h ≤ bw_s k.2.2.2 := by
  unfold bq_na at hq
  repeat' split at hq
  all_goals (first | (cases hq; exact ⟨Nat.le_add_right _ _, Nat.le_add_right _ _⟩) | cases hq)
theorem bz_an {b : Bool} {pc : Nat} {ls : bw_L} {st : List Value} {h : bw_H} {k : bw_C} (hq : bq_an b pc ls st h = some k) : bw_n h ≤ bw_n k.2.2.2 ∧ bw_s h ≤ bw_s k.2.2.2 := by
  unfold bq_an at hq
  repeat' split at hq
  all_goals (first | (cases hq; exact ⟨Nat.le_add_right _ _, Nat.le_add_right _ _⟩) | cases hq)
theorem bz_eq {h : bw_H} {k : bw_C} (e : k.2.2.2.1 = h.1) : bw_n h ≤ bw_n k.2.2.2 ∧ bw_s h ≤ bw_s k.2.2.2 := by
  unfold bw_n bw_s
  rw [e]
  exact ⟨Nat.le_refl _, Nat.le_refl _⟩
theorem bw_wl {len n : Nat} (h : len = n ∨ n = 0) (hn : n ≠ 0) : len = n := h.elim id (fun z => absurd z hn)
def bw_kw (C : String) (ix : Nat) (v : Value) : Cond := match v with
  | .int x => Cond.constant C ix x
  | .long x => Cond.constantLong C ix x
  | _ => Cond.tt
theorem bw_kc_ok {o ix : Nat} {v : Value} (h : bw_kc o ix = some v) : bw_kw (bw_R o) ix v ∈ lw_tbl := by
  unfold bw_kc at h
  cases hf : bw_KT.find? (fun e => e.1 == o && e.2.1 == ix) with
  | none => rw [hf] at h; cases h
  | some x =>
    rw [hf] at h
    have hv : x.2.2.1 = v := Option.some.inj h
    obtain ⟨h1, rfl, rfl⟩ := bw_find_in hf
    have h2 := of_decide_eq_true (List.all_eq_true.mp bw_KT_ok x h1)
    subst hv
    exact List.mem_of_getElem? h2
section BX
variable {p : Program} {l : Launch} {e : Env} {R : Room} {s : State} {m : MethodId} {args : Array Value} {below : List Frame} {meth : Method} {c : Code} {Q : State → Prop} {D : va_G} {cA : FieldType → ClassId} {g : Nat × Nat × Nat} {nL cells slots : Nat} {pc : Nat} {ls : bw_L} {st : List Value} {h : bw_H} {k : bw_C} {cc : ByteArray} {o : Nat} {X : Nat × (Nat → Int32)} {ini : Bool}
theorem bw_keep (e1 : k.2.2.2.1 = h.1) (K : bw_at p l e R s m args below meth c Q D cA g nL (cells + (bw_n k.2.2.2 - bw_n h)) (slots + (bw_s k.2.2.2 - bw_s h)) k) : bw_at p l e R s m args below meth c Q D cA g nL cells slots k := by
  have h1 : bw_n k.2.2.2 - bw_n h = 0 := by unfold bw_n; rw [e1]; exact Nat.sub_self _
  have h2 : bw_s k.2.2.2 - bw_s h = 0 := by unfold bw_s; rw [e1]; exact Nat.sub_self _
  rw [h1, h2] at K
  exact K
def bw_Cx (p : Program) (s : State) (m : MethodId) (args : Array Value) (meth : Method) (c : Code) (D : va_G) (cA : FieldType → ClassId) (g : Nat × Nat × Nat) (X : Nat × (Nat → Int32)) (o nL : Nat) (ini : Bool) (cc : ByteArray) : Prop :=
  p.tables.exec = Jvm.exec ∧ c.code = cc ∧ c.maxLocals = nL ∧ s.vm.findClass (bw_R o) = some m.cls ∧ (∀ w ∈ bw_Ts, w.before args s = true) ∧ va_K D vwCl (bw_tys cA) s ∧ va_Z "BearWitness$Looks" "SETS_WITH" "[J" (.ref g.2.1) (bw_A g) s s.heap ∧ va_T .long g.2.1 6 (fun j => .long (bw_set6 j)) (bw_A g) s s.heap ∧ va_T .int g.2.2 X.1 (fun j => .int (X.2 j)) (bw_A g) s s.heap ∧ (ini = true → meth.name = "<init>") ∧ va_AO RX1 s ∧ (∀ q, s.heap.size ≤ q → bw_A g q)
theorem bw_x_ok {i : Instr} {len : Nat} (C0 : bw_Cx p s m args meth c D cA g X o nL ini cc) (hdg : decode cc pc = .ok (i, len)) (hw : len = bw_w i ∨ bw_w i = 0) (hf1 : 1 ≤ R.frames) (hf2 : 60 ≤ R.locals)
    (hq : bw_x X o nL ini i pc ls st h = some k) (hcells : cells + (bw_n k.2.2.2 - bw_n h) ≤ R.cells) (hslots : slots + (bw_s k.2.2.2 - bw_s h) ≤ R.slots) (K : bw_at p l e R s m args below meth c Q D cA g nL (cells + (bw_n k.2.2.2 - bw_n h)) (slots + (bw_s k.2.2.2 - bw_s h)) k) :
    (bw_n h ≤ bw_n k.2.2.2 ∧ bw_s h ≤ bw_s k.2.2.2) ∧ bw_at p l e R s m args below meth c Q D cA g nL cells slots (pc, ls, st, h) := by
  obtain ⟨hx, hb, hml, hown, hts, hK, hZ, hT6, hT, hini, hao, hA⟩ := C0
  have hA2 : s.heap.size ≤ s.heap.size ∧ ∀ q, s.heap.size ≤ q → bw_A g q := ⟨Nat.le_refl _, hA⟩
  cases i with
  | iload a => obtain rfl := bw_wl (n := 2) hw (by decide); exact ⟨bz_eq (bz_il hq), bo_il (fun H locs la x r ha kk => lv_iload hx hb hdg ha kk) hq (bw_keep (bz_il hq) K)⟩
  | iload_n a => obtain rfl := bw_wl (n := 1) hw (by decide); exact ⟨bz_eq (bz_il hq), bo_il (fun H locs la x r ha kk => lv_iload_n hx hb hdg rfl ha kk) hq (bw_keep (bz_il hq) K)⟩
  | lload a => obtain rfl := bw_wl (n := 2) hw (by decide); exact ⟨bz_eq (bz_ll hq), bo_ll (fun H locs la x r ha kk => lv_lload hx hb hdg ha kk) hq (bw_keep (bz_ll hq) K)⟩
  | lload_n a => obtain rfl := bw_wl (n := 1) hw (by decide); exact ⟨bz_eq (bz_ll hq), bo_ll (fun H locs la x r ha kk => lv_lload_n hx hb hdg rfl ha kk) hq (bw_keep (bz_ll hq) K)⟩
  | aload a => obtain rfl := bw_wl (n := 2) hw (by decide); exact ⟨bz_eq (bz_al hq), bo_al (fun H locs la x r ha kk => lv_aload hx hb hdg ha kk) (fun H locs la r ha kk => lv_aloadN hx hb hdg ha kk) hq (bw_keep (bz_al hq) K)⟩
  | aload_n a => obtain rfl := bw_wl (n := 1) hw (by decide); exact ⟨bz_eq (bz_al hq), bo_al (fun H locs la x r ha kk => lv_aload_n hx hb hdg rfl ha kk) (fun H locs la r ha kk => lv_aload_nN hx hb hdg rfl ha kk) hq (bw_keep (bz_al hq) K)⟩
  | istore a => obtain rfl := bw_wl (n := 2) hw (by decide); exact ⟨bz_eq (bz_is hq), bo_is (fun H locs la x lv lv' r h1 h2 h3 kk => lv_istore hx hb hdg h1 h2 h3 kk) hq (bw_keep (bz_is hq) K)⟩
  | istore_n a => obtain rfl := bw_wl (n := 1) hw (by decide); exact ⟨bz_eq (bz_is hq), bo_is (fun H locs la x lv lv' r h1 h2 h3 kk => lv_istore_n hx hb hdg rfl h1 h2 h3 kk) hq (bw_keep (bz_is hq) K)⟩
  | lstore a => obtain rfl := bw_wl (n := 2) hw (by decide); exact ⟨bz_eq (bz_ls hq), bo_ls (fun H locs la x lv lv' r h1 h2 h3 kk => lv_lstore hx hb hdg h1 h2 h3 kk) hq (bw_keep (bz_ls hq) K)⟩
  | lstore_n a => obtain rfl := bw_wl (n := 1) hw (by decide); exact ⟨bz_eq (bz_ls hq), bo_ls (fun H locs la x lv lv' r h1 h2 h3 kk => lv_lstore_n hx hb hdg rfl h1 h2 h3 kk) hq (bw_keep (bz_ls hq) K)⟩
  | astore a => obtain rfl := bw_wl (n := 2) hw (by decide); exact ⟨bz_eq (bz_as hq), bo_as (fun H locs la x lv lv' r h1 h2 h3 kk => lv_astore hx hb hdg h1 h2 h3 kk) (fun H locs la lv lv' r h1 h2 h3 kk => lv_astoreN hx hb hdg h1 h2 h3 kk) hq (bw_keep (bz_as hq) K)⟩
  | astore_n a => obtain rfl := bw_wl (n := 1) hw (by decide); exact ⟨bz_eq (bz_as hq), bo_as (fun H locs la x lv lv' r h1 h2 h3 kk => lv_astore_n hx hb hdg rfl h1 h2 h3 kk) (fun H locs la lv lv' r h1 h2 h3 kk => lv_astore_nN hx hb hdg rfl h1 h2 h3 kk) hq (bw_keep (bz_as hq) K)⟩
  | iinc a n => obtain rfl := bw_wl (n := 3) hw (by decide); exact ⟨bz_eq (bz_ic hq), bo_ic (fun H locs la x v lv lv' j r h1 h2 h3 h4 h5 kk => lv_iinc hx hb hdg h1 h2 h3 h4 h5 kk) hq (bw_keep (bz_ic hq) K)⟩
  | iconst a => obtain rfl := bw_wl (n := 1) hw (by decide); exact ⟨bz_eq (bz_cn hq), bo_cn (fun H locs la r kk => lv_iconst hx hb hdg rfl kk) hq (bw_keep (bz_cn hq) K)⟩
  | bipush a => obtain rfl := bw_wl (n := 2) hw (by decide); exact ⟨bz_eq (bz_cn hq), bo_cn (fun H locs la r kk => lv_bipush hx hb hdg rfl kk) hq (bw_keep (bz_cn hq) K)⟩
  | sipush a => obtain rfl := bw_wl (n := 3) hw (by decide); exact ⟨bz_eq (bz_cn hq), bo_cn (fun H locs la r kk => lv_sipush hx hb hdg rfl kk) hq (bw_keep (bz_cn hq) K)⟩
  | lconst a => obtain rfl := bw_wl (n := 1) hw (by decide); exact ⟨bz_eq (bz_cn hq), bo_cn (fun H locs la r kk => lv_lconst hx hb hdg rfl kk) hq (bw_keep (bz_cn hq) K)⟩
  | aconst_null => obtain rfl := bw_wl (n := 1) hw (by decide); exact ⟨bz_eq (bz_cn hq), bo_cn (fun H locs la r kk => lv_null hx hb hdg kk) hq (bw_keep (bz_cn hq) K)⟩
  | ldc a =>
    obtain rfl := bw_wl (n := 2) hw (by decide)
    have hq' : (match bw_kc o a with | some (.int v) => bq_cn 2 (.int v) | _ => fun _ _ _ _ => none) pc ls st h = some k := hq
    cases hkc : bw_kc o a with
    | none => rw [hkc] at hq'; cases hq'
    | some v =>
      rw [hkc] at hq'
      cases v with
      | int v =>
        have hm := bw_kc_ok hkc
        exact ⟨bz_eq (bz_cn hq'), bo_cn (fun H locs la r kk => lv_ldc hx hb hown (hts _ (bw_in hm rfl)) hdg kk) hq' (bw_keep (bz_cn hq') K)⟩
      | _ => cases hq'
  | ldc_w a =>
    obtain rfl := bw_wl (n := 3) hw (by decide)
    have hq' : (match bw_kc o a with | some (.int v) => bq_cn 3 (.int v) | _ => fun _ _ _ _ => none) pc ls st h = some k := hq
    cases hkc : bw_kc o a with
    | none => rw [hkc] at hq'; cases hq'
    | some v =>
      rw [hkc] at hq'
      cases v with
      | int v =>
        have hm := bw_kc_ok hkc
        exact ⟨bz_eq (bz_cn hq'), bo_cn (fun H locs la r kk => lv_ldcw hx hb hown (hts _ (bw_in hm rfl)) hdg kk) hq' (bw_keep (bz_cn hq') K)⟩
      | _ => cases hq'
  | ldc2_w a =>
    obtain rfl := bw_wl (n := 3) hw (by decide)
    have hq' : (match bw_kc o a with | some (.long v) => bq_cn 3 (.long v) | _ => fun _ _ _ _ => none) pc ls st h = some k := hq
    cases hkc : bw_kc o a with
    | none => rw [hkc] at hq'; cases hq'
    | some v =>
      rw [hkc] at hq'
      cases v with
      | long v =>
        have hm := bw_kc_ok hkc
        exact ⟨bz_eq (bz_cn hq'), bo_cn (fun H locs la r kk => lv_ldc2 hx hb hown (hts _ (bw_in hm rfl)) hdg kk) hq' (bw_keep (bz_cn hq') K)⟩
      | _ => cases hq'
  | iadd => obtain rfl := bw_wl (n := 1) hw (by decide); exact ⟨bz_eq (bz_ii hq), bo_ii (fun H locs la x y r kk => lv_iadd hx hb hdg kk) hq (bw_keep (bz_ii hq) K)⟩
  | isub => obtain rfl := bw_wl (n := 1) hw (by decide); exact ⟨bz_eq (bz_ii hq), bo_ii (fun H locs la x y r kk => lv_isub hx hb hdg kk) hq (bw_keep (bz_ii hq) K)⟩
  | imul => obtain rfl := bw_wl (n := 1) hw (by decide); exact ⟨bz_eq (bz_ii hq), bo_ii (fun H locs la x y r kk => lv_imul hx hb hdg kk) hq (bw_keep (bz_ii hq) K)⟩
  | iand => obtain rfl := bw_wl (n := 1) hw (by decide); exact ⟨bz_eq (bz_ii hq), bo_ii (fun H locs la x y r kk => lv_iand hx hb hdg kk) hq (bw_keep (bz_ii hq) K)⟩
  | ior => obtain rfl := bw_wl (n := 1) hw (by decide); exact ⟨bz_eq (bz_ii hq), bo_ii (fun H locs la x y r kk => lv_ior hx hb hdg kk) hq (bw_keep (bz_ii hq) K)⟩
  | ixor => obtain rfl := bw_wl (n := 1) hw (by decide); exact ⟨bz_eq (bz_ii hq), bo_ii (fun H locs la x y r kk => lv_ixor hx hb hdg kk) hq (bw_keep (bz_ii hq) K)⟩
  | ishl => obtain rfl := bw_wl (n := 1) hw (by decide); exact ⟨bz_eq (bz_ii hq), bo_ii (fun H locs la x y r kk => lv_ishl hx hb hdg kk) hq (bw_keep (bz_ii hq) K)⟩
  | ishr => obtain rfl := bw_wl (n := 1) hw (by decide); exact ⟨bz_eq (bz_ii hq), bo_ii (fun H locs la x y r kk => lv_ishr hx hb hdg kk) hq (bw_keep (bz_ii hq) K)⟩
  | iushr => obtain rfl := bw_wl (n := 1) hw (by decide); exact ⟨bz_eq (bz_ii hq), bo_ii (fun H locs la x y r kk => lv_iushr hx hb hdg rfl kk) hq (bw_keep (bz_ii hq) K)⟩
  | idiv => obtain rfl := bw_wl (n := 1) hw (by decide); exact ⟨bz_eq (bz_id hq), bo_id (fun H locs la x y r hn kk => lv_idiv hx hb hdg hn kk) hq (bw_keep (bz_id hq) K)⟩
  | irem => obtain rfl := bw_wl (n := 1) hw (by decide); exact ⟨bz_eq (bz_id hq), bo_id (fun H locs la x y r hn kk => lv_irem hx hb hdg hn kk) hq (bw_keep (bz_id hq) K)⟩
  | ladd => obtain rfl := bw_wl (n := 1) hw (by decide); exact ⟨bz_eq (bz_jj hq), bo_jj (fun H locs la x y r kk => lv_ladd hx hb hdg kk) hq (bw_keep (bz_jj hq) K)⟩
  | lsub => obtain rfl := bw_wl (n := 1) hw (by decide); exact ⟨bz_eq (bz_jj hq), bo_jj (fun H locs la x y r kk => lv_lsub hx hb hdg kk) hq (bw_keep (bz_jj hq) K)⟩
  | lmul => obtain rfl := bw_wl (n := 1) hw (by decide); exact ⟨bz_eq (bz_jj hq), bo_jj (fun H locs la x y r kk => lv_lmul hx hb hdg kk) hq (bw_keep (bz_jj hq) K)⟩
  | land => obtain rfl := bw_wl (n := 1) hw (by decide); exact ⟨bz_eq (bz_jj hq), bo_jj (fun H locs la x y r kk => lv_land hx hb hdg kk) hq (bw_keep (bz_jj hq) K)⟩
  | lor => obtain rfl := bw_wl (n := 1) hw (by decide); exact ⟨bz_eq (bz_jj hq), bo_jj (fun H locs la x y r kk => lv_lor hx hb hdg kk) hq (bw_keep (bz_jj hq) K)⟩
  | lxor => obtain rfl := bw_wl (n := 1) hw (by decide); exact ⟨bz_eq (bz_jj hq), bo_jj (fun H locs la x y r kk => lv_lxor hx hb hdg kk) hq (bw_keep (bz_jj hq) K)⟩
  | ldiv => obtain rfl := bw_wl (n := 1) hw (by decide); exact ⟨bz_eq (bz_jd hq), bo_jd (fun H locs la x y r hn kk => lv_ldiv hx hb hdg hn kk) hq (bw_keep (bz_jd hq) K)⟩
  | lrem => obtain rfl := bw_wl (n := 1) hw (by decide); exact ⟨bz_eq (bz_jd hq), bo_jd (fun H locs la x y r hn kk => lv_lrem hx hb hdg hn kk) hq (bw_keep (bz_jd hq) K)⟩
  | lushr => obtain rfl := bw_wl (n := 1) hw (by decide); exact ⟨bz_eq (bz_ju hq), bo_ju hx hb hdg hq (bw_keep (bz_ju hq) K)⟩
  | ineg => obtain rfl := bw_wl (n := 1) hw (by decide); exact ⟨bz_eq (bz_i1 hq), bo_i1 (f := fun x => .int (-x)) (fun H locs la x r kk => lv_ineg hx hb hdg kk) hq (bw_keep (bz_i1 hq) K)⟩
  | lneg => obtain rfl := bw_wl (n := 1) hw (by decide); exact ⟨bz_eq (bz_j1 hq), bo_j1 (f := fun x => .long (-x)) (fun H locs la x r kk => lv_lneg hx hb hdg kk) hq (bw_keep (bz_j1 hq) K)⟩
  | i2l => obtain rfl := bw_wl (n := 1) hw (by decide); exact ⟨bz_eq (bz_i1 hq), bo_i1 (f := fun x => .long x.toInt64) (fun H locs la x r kk => lv_i2l hx hb hdg rfl kk) hq (bw_keep (bz_i1 hq) K)⟩
  | i2b => obtain rfl := bw_wl (n := 1) hw (by decide); exact ⟨bz_eq (bz_i1 hq), bo_i1 (f := fun x => .int x.toInt8.toInt32) (fun H locs la x r kk => lv_i2b hx hb hdg rfl kk) hq (bw_keep (bz_i1 hq) K)⟩
  | l2i => obtain rfl := bw_wl (n := 1) hw (by decide); exact ⟨bz_eq (bz_j1 hq), bo_j1 (f := fun x => .int x.toInt32) (fun H locs la x r kk => lv_l2i hx hb hdg rfl kk) hq (bw_keep (bz_j1 hq) K)⟩
  | lcmp => obtain rfl := bw_wl (n := 1) hw (by decide); exact ⟨bz_eq (bz_cm hq), bo_cm hx hb hdg hq (bw_keep (bz_cm hq) K)⟩
  | dup => obtain rfl := bw_wl (n := 1) hw (by decide); exact ⟨bz_eq (bz_du hq), bo_du hx hb hdg hq (bw_keep (bz_du hq) K)⟩
  | dup2 => obtain rfl := bw_wl (n := 1) hw (by decide); exact ⟨bz_eq (bz_d2 hq), bo_d2 hx hb hdg hq (bw_keep (bz_d2 hq) K)⟩
  | goto a => obtain rfl := bw_wl (n := 3) hw (by decide); exact ⟨bz_eq (bz_go hq), bo_go hx hb hdg hq (bw_keep (bz_go hq) K)⟩
  | ifCond cd off =>
    obtain rfl := bw_wl (n := 3) hw (by decide)
    cases cd with
    | eq => exact ⟨bz_eq (bz_if hq), bo_if (fun H locs la x r q hj k1 k2 => lv_if_eq hx hb hdg hj (fun z => k1 (decide_eq_true z)) (fun z => k2 (fun y => z (of_decide_eq_true y)))) hq (bw_keep (bz_if hq) K)⟩
    | ne => exact ⟨bz_eq (bz_if hq), bo_if (fun H locs la x r q hj k1 k2 => lv_if_ne hx hb hdg hj (fun z => k1 (decide_eq_true z)) (fun z => k2 (fun y => of_decide_eq_true y z))) hq (bw_keep (bz_if hq) K)⟩
    | lt => exact ⟨bz_eq (bz_if hq), bo_if (fun H locs la x r q hj k1 k2 => lv_if_lt hx hb hdg hj (fun z => k1 (decide_eq_true z)) (fun z => k2 (fun y => z (of_decide_eq_true y)))) hq (bw_keep (bz_if hq) K)⟩
    | ge => exact ⟨bz_eq (bz_if hq), bo_if (fun H locs la x r q hj k1 k2 => lv_if_ge hx hb hdg hj (fun z => k1 (decide_eq_true z)) (fun z => k2 (fun y => z (of_decide_eq_true y)))) hq (bw_keep (bz_if hq) K)⟩
    | gt => exact ⟨bz_eq (bz_if hq), bo_if (fun H locs la x r q hj k1 k2 => lv_if_gt hx hb hdg hj (fun z => k1 (decide_eq_true z)) (fun z => k2 (fun y => z (of_decide_eq_true y)))) hq (bw_keep (bz_if hq) K)⟩
    | le => exact ⟨bz_eq (bz_if hq), bo_if (fun H locs la x r q hj k1 k2 => lv_if_le hx hb hdg hj (fun z => k1 (decide_eq_true z)) (fun z => k2 (fun y => z (of_decide_eq_true y)))) hq (bw_keep (bz_if hq) K)⟩
  | if_icmp cd off =>
    obtain rfl := bw_wl (n := 3) hw (by decide)
    cases cd with
    | eq => exact ⟨bz_eq (bz_cp hq), bo_cp (fun H locs la x y r q hj k1 k2 => lv_icmp_eq hx hb hdg hj (fun z => k1 (decide_eq_true z)) (fun z => k2 (fun y => z (of_decide_eq_true y)))) hq (bw_keep (bz_cp hq) K)⟩
    | ne => exact ⟨bz_eq (bz_cp hq), bo_cp (fun H locs la x y r q hj k1 k2 => lv_icmp_ne hx hb hdg hj (fun z => k1 (decide_eq_true z)) (fun z => k2 (fun y => of_decide_eq_true y z))) hq (bw_keep (bz_cp hq) K)⟩
    | lt => exact ⟨bz_eq (bz_cp hq), bo_cp (fun H locs la x y r q hj k1 k2 => lv_icmp_lt hx hb hdg hj (fun z => k1 (decide_eq_true z)) (fun z => k2 (fun y => z (of_decide_eq_true y)))) hq (bw_keep (bz_cp hq) K)⟩
    | ge => exact ⟨bz_eq (bz_cp hq), bo_cp (fun H locs la x y r q hj k1 k2 => lv_icmp_ge hx hb hdg hj (fun z => k1 (decide_eq_true z)) (fun z => k2 (fun y => z (of_decide_eq_true y)))) hq (bw_keep (bz_cp hq) K)⟩
    | gt => exact ⟨bz_eq (bz_cp hq), bo_cp (fun H locs la x y r q hj k1 k2 => lv_icmp_gt hx hb hdg hj (fun z => k1 (decide_eq_true z)) (fun z => k2 (fun y => z (of_decide_eq_true y)))) hq (bw_keep (bz_cp hq) K)⟩
    | le => exact ⟨bz_eq (bz_cp hq), bo_cp (fun H locs la x y r q hj k1 k2 => lv_icmp_le hx hb hdg hj (fun z => k1 (decide_eq_true z)) (fun z => k2 (fun y => z (of_decide_eq_true y)))) hq (bw_keep (bz_cp hq) K)⟩
  | ifnull a => obtain rfl := bw_wl (n := 3) hw (by decide); exact ⟨bz_eq (bz_nu hq), bo_nu hx hb hdg hq (bw_keep (bz_nu hq) K)⟩
  | ifnonnull a => obtain rfl := bw_wl (n := 3) hw (by decide); exact ⟨bz_eq (bz_nn hq), bo_nn hx hb hdg hq (bw_keep (bz_nn hq) K)⟩
  | tableswitch a b d f => exact ⟨bz_eq (bz_ts hq), bo_ts hx hb hdg hq (bw_keep (bz_ts hq) K)⟩
  | getfield a => obtain rfl := bw_wl (n := 3) hw (by decide); exact ⟨bz_eq (bz_gf hq), bo_gf hx hb hown hts hK hdg hq (bw_keep (bz_gf hq) K)⟩
  | putfield a => obtain rfl := bw_wl (n := 3) hw (by decide); exact ⟨bz_eq (bz_pf hq), bo_pf hx hb hown hts hK hini hdg hq (bw_keep (bz_pf hq) K)⟩
  | getstatic a => obtain rfl := bw_wl (n := 3) hw (by decide); exact ⟨bz_eq (bz_gs hq), bo_gs hx hb hown hts hZ hdg hq (bw_keep (bz_gs hq) K)⟩
  | laload => obtain rfl := bw_wl (n := 1) hw (by decide); exact ⟨bz_eq (bz_la hq), bo_la hx hb hT6 hdg hq (bw_keep (bz_la hq) K)⟩
  | iaload => obtain rfl := bw_wl (n := 1) hw (by decide); exact ⟨bz_eq (bz_ia hq), bo_ia hx hb hK hT hdg hq (bw_keep (bz_ia hq) K)⟩
  | baload => exact absurd (show (none : Option bw_C) = some k from hq) (fun z => by cases z)
  | aaload => obtain rfl := bw_wl (n := 1) hw (by decide); exact ⟨bz_eq (bz_aa hq), bo_aa hx hb hK hdg hq (bw_keep (bz_aa hq) K)⟩
  | iastore => obtain rfl := bw_wl (n := 1) hw (by decide); exact ⟨bz_eq (bz_ist hq), bo_ist hx hb hK hdg hq (bw_keep (bz_ist hq) K)⟩
  | bastore => exact absurd (show (none : Option bw_C) = some k from hq) (fun z => by cases z)
  | aastore => obtain rfl := bw_wl (n := 1) hw (by decide); exact ⟨bz_eq (bz_ast hq), bo_ast hx hb hK hdg hq (bw_keep (bz_ast hq) K)⟩
  | arraylength => obtain rfl := bw_wl (n := 1) hw (by decide); exact ⟨bz_eq (bz_len hq), bo_len hx hb hK hT6 hT hdg hq (bw_keep (bz_len hq) K)⟩
  | new a => obtain rfl := bw_wl (n := 3) hw (by decide); exact ⟨bz_new hq, bo_new hx hb hown hts hK hA2 hdg hq hcells hslots K⟩
  | newarray a => obtain rfl := bw_wl (n := 2) hw (by decide); exact ⟨bz_na hq, bo_na hx hb hts hK hA2 hdg hq hcells hslots K⟩
  | anewarray a => obtain rfl := bw_wl (n := 3) hw (by decide); exact ⟨bz_an hq, bo_an hx hb hown hts hao hK hA2 hdg hq hcells hslots K⟩
  | invokespecial a => obtain rfl := bw_wl (n := 3) hw (by decide); exact ⟨bz_eq (bz_oi hq), bo_oi hx hb hml hown hts hf1 hf2 hdg hq (bw_keep (bz_oi hq) K)⟩
  | invokestatic a =>
    obtain rfl := bw_wl (n := 3) hw (by decide)
    have hq' : (match bw_mx o a with | some b => bq_mx b | none => bq_ac (bw_ac o a)) pc ls st h = some k := hq
    cases hmx : bw_mx o a with
    | some b =>
      rw [hmx] at hq'
      have hz := bz_mx hq'
      exact ⟨bz_eq hz, bo_mx hx hb hml hown hts hf1 hf2 (by omega) (by omega) hmx hdg hq' (bw_keep hz K)⟩
    | none =>
      rw [hmx] at hq'
      exact ⟨bz_eq (bz_ac hq'), bo_ac hx hb hml hown hts hK hf1 hf2 hdg hq' (bw_keep (bz_ac hq') K)⟩
  | _ => exact absurd (show (none : Option bw_C) = some k from hq) (fun z => by cases z)
end BX
end
section
/-! ends, calls, and the small machine whole: what it answers, the JVM answers -/
def bw_Qc (D : va_G) (cA : FieldType → ClassId) (g : Nat × Nat × Nat) (v : Option Value) (h' : bw_H) : Array Value → State → Outcome → State → Prop := fun _ st oc t => oc = .returned (v.map (bw_tr g)) ∧ va_P D vwCl (bw_ws cA g h') t.heap ∧ va_F (bw_A g) st t
def bw_Pc (D : va_G) (cA : FieldType → ClassId) (g : Nat × Nat × Nat) (X : Nat × (Nat → Int32)) (as : List Value) (h : bw_H) : Array Value → State → Prop := va_Pc (as.map (bw_tr g)) (fun U => U.heap.size ≤ g.1 + bw_n h ∧ va_P D vwCl (bw_ws cA g h) U.heap ∧ va_K D vwCl (bw_tys cA) U ∧ va_AO RX1 U ∧ (∀ w ∈ bw_gd, w.before #[] U = true) ∧ va_Z "BearWitness$Looks" "SETS_WITH" "[J" (.ref g.2.1) (bw_A g) U U.heap ∧ va_T .long g.2.1 6 (fun j => .long (bw_set6 j)) (bw_A g) U U.heap ∧ va_T .int g.2.2 X.1 (fun j => .int (X.2 j)) (bw_A g) U U.heap ∧ (∀ q, U.heap.size ≤ q → bw_A g q))
abbrev bw_wz (M : bw_M) : List Cond := bw_cd M :: [Cond.arrayClass .int, Cond.arrayClass .long]
def bw_ok (M : bw_M) : Prop := bw_cd M ∈ lw_tbl ∧ (M.2.1.cls ≠ "java/lang/invoke/MethodHandle" ∧ M.2.1.cls ≠ "java/lang/invoke/VarHandle") ∧ bw_R M.1 = M.2.1.cls ∧ (parseMethodDescriptor M.2.1.desc).map (fun d => d.parameters.length) = some M.2.2.2.2.2 ∧ Jvm.plainName M.2.1.cls = true
theorem bw_mt_ok {o ix kd : Nat} {M : bw_M} (h : bw_mt o ix = some (kd, M)) : bw_ok M ∧ (if kd % 2 = 1 then Cond.methodLinkNest (bw_R o) ix M.2.1 "BearWitness" else Cond.methodLink (bw_R o) ix M.2.1) ∈ lw_tbl ∧ (if kd ≤ 1 then Cond.static M.2.1 else Cond.instanceMethod M.2.1) ∈ lw_tbl ∧ (kd = 2 ∨ kd = 3 → Cond.selects M.2.1.cls M.2.1 M.2.1 ∈ lw_tbl) ∧ Cond.initialized M.2.1.cls ∈ lw_tbl := by
  unfold bw_mt at h
  cases hf : bw_MT.find? (fun e => e.1 == o && e.2.1 == ix) with
  | none => rw [hf] at h; cases h
  | some x =>
    rw [hf] at h
    have hv : (x.2.2.1, x.2.2.2.1) = (kd, M) := Option.some.inj h
    obtain ⟨h1, rfl, rfl⟩ := bw_find_in hf
    have a1 : x.2.2.1 = kd := congrArg Prod.fst hv
    have a2 : x.2.2.2.1 = M := congrArg Prod.snd hv
    have b1 := List.all_eq_true.mp bw_MT_ok x h1
    have b2 := List.all_eq_true.mp bw_MT_ok2 x h1
    have b3 := List.all_eq_true.mp bw_MT_ok3 x h1
    have b4 := List.all_eq_true.mp bw_MT_ok4 x h1
    have b5 := List.all_eq_true.mp bw_MT_ok5 x h1
    have b6 := bw_all_mem bw_MT_code x h1
    simp only [Bool.and_eq_true, Bool.or_eq_true, decide_eq_true_eq] at b1 b2 b3 b4
    rw [a1, a2] at b1
    rw [a2] at b2 b3 b4 b5 b6
    obtain ⟨⟨⟨c1, c2⟩, c3⟩, c4⟩ := b1
    refine ⟨⟨b6, b2.2, b3, b4, b5⟩, List.mem_of_getElem? c1, List.mem_of_getElem? c2, fun hk => ?_, List.mem_of_getElem? c4⟩
    rcases c3 with c3 | c3
    · omega
    · exact List.mem_of_getElem? c3
theorem bw_lgsl (g : Nat × Nat × Nat) : ∀ as : List Value, (lg_sl (as.map (bw_tr g))).length = (lg_sl as).length
  | [] => rfl
  | v :: as => by
    have ih := bw_lgsl g as
    unfold lg_sl at ih ⊢
    rw [List.map_cons, List.flatMap_cons, List.flatMap_cons, List.length_append, List.length_append, ih, bw_tr_cat]
    congr 1
    split <;> rfl
theorem bw_lvargs (g : Nat × Nat × Nat) : ∀ (as : List Value) (i : Nat), lv_args i (as.map (bw_tr g)) = bw_tl g (lv_args i as)
  | [], _ => rfl
  | v :: as, i => by
    show (i, bw_tr g v) :: lv_args (if (bw_tr g v).category = 2 then i + 2 else i + 1) (as.map (bw_tr g)) = (i, bw_tr g v) :: bw_tl g (lv_args (if v.category = 2 then i + 2 else i + 1) as)
    rw [bw_tr_cat, bw_lvargs g as]
section BC
variable {p : Program} {l : Launch} {e : Env} {R : Room} {s : State} {m : MethodId} {args : Array Value} {below : List Frame} {meth : Method} {c : Code} {Q : State → Prop} {D : va_G} {cA : FieldType → ClassId} {g : Nat × Nat × Nat} {nL cells slots : Nat} {pc : Nat} {ls : bw_L} {st : List Value} {h : bw_H} {k : bw_C} {cc : ByteArray} {o : Nat} {X : Nat × (Nat → Int32)} {ini : Bool}
theorem bw_e_ok {rt : Option FieldType} {i : Instr} {len : Nat} {v : Option Value} (C0 : bw_Cx p s m args meth c D cA g X o nL ini cc) (hdg : decode cc pc = .ok (i, len)) (hw : len = bw_w i ∨ bw_w i = 0) (hr : meth.sig.returnType = rt) (hlocks : meth.locks = false) (hq : bw_e rt i st = some v) :
    bw_at p l e R s m args below meth c (MQ below (bw_Qc D cA g v h) args s cells slots (bw_A g)) D cA g nL cells slots (pc, ls, st, h) := by
  obtain ⟨hx, hb, -, -, -, -, -, -, -, -, -, -⟩ := C0
  unfold bw_e at hq
  split at hq
  · obtain rfl := bw_wl (n := 1) hw (by decide)
    split at hq
    · rename_i ty
      split at hq
      · rename_i hn
        cases hq
        intro H locs la hi hl
        exact W.zret hx hb hr hn (fun t ht _ => ⟨rfl, by rw [ht]; exact hi.1, hi.2.1.F ht⟩) hi.2.1.2.2 hdg hlocks
      · cases hq
    · cases hq
  · obtain rfl := bw_wl (n := 1) hw (by decide)
    split at hq
    · rename_i hrt
      cases hq
      intro H locs la hi hl
      exact W.lret hx hb (hr.trans hrt) (fun t ht _ => ⟨rfl, by rw [ht]; exact hi.1, hi.2.1.F ht⟩) hi.2.1.2.2 hdg hlocks
    · cases hq
  · obtain rfl := bw_wl (n := 1) hw (by decide)
    split at hq
    · rename_i n
      cases hq
      intro H locs la hi hl
      exact W.aret hx hb hr (Or.inl ⟨n, rfl⟩) (Or.inr ⟨_, rfl⟩) (fun t ht _ => ⟨rfl, by rw [ht]; exact hi.1, hi.2.1.F ht⟩) hi.2.1.2.2 hdg hlocks
    · cases hq
  · obtain rfl := bw_wl (n := 1) hw (by decide)
    split at hq
    · rename_i n
      cases hq
      intro H locs la hi hl
      exact W.aret hx hb hr (Or.inl ⟨n, rfl⟩) (Or.inl rfl) (fun t ht _ => ⟨rfl, by rw [ht]; exact hi.1, hi.2.1.F ht⟩) hi.2.1.2.2 hdg hlocks
    · cases hq
  · obtain rfl := bw_wl (n := 1) hw (by decide)
    split at hq
    · rename_i hrt
      cases hq
      intro H locs la hi hl
      exact W.vret hx hb (hr.trans hrt) (fun t ht _ => ⟨rfl, by rw [ht]; exact hi.1, hi.2.1.F ht⟩) hi.2.1.2.2 hdg hlocks
    · cases hq
  · cases hq
theorem bw_cont {H : Heap} {locs : List Loc} {la : Array Slot} {st0 rest : List Value} {mc ms : Nat} {Qa : State → Outcome → State → Prop} {free : Addr → Prop} (hr : va_Run p l e R s m args below meth c H locs cells slots mc ms (F0 m pc la st0) rest Qa free)
    (kk : ∀ (v : Option Value) (st₀ t : State) (H1 : Heap) (L : List Loc), st₀.heap = H → t.heap = H1 → Qa st₀ (.returned v) t → (∀ q ∈ L, free q.base) → W p l e R s m args below meth c H1 (locs ++ L) (cells + mc) (slots + ms) Q (F0 m (pc + 3) la (v.toList ++ rest))) : W p l e R s m args below meth c H locs cells slots Q (F0 m pc la st0) := by
  intro T hT Y
  obtain ⟨v, st₀, t, T', L, a1, a2, a3, a4, -, a6, a7⟩ := hr T hT Y
  obtain ⟨t', b1, b2⟩ := kk v st₀ t T'.heap L a1 a4.symm a6 a3 T' rfl a2
  exact ⟨t', a7 _ b1, b2⟩
theorem bw_blind {as : List Value} : FrameBlind (bw_Pc D cA g X as h) := by
  intro a U fr mk q
  obtain ⟨q1, q2, q3, q4, q5, q6, q7, q8, q9, q10⟩ := q
  exact ⟨q1, q2, q3, va_K.moved (u := U) (U := U.calling fr mk a) (Vm.Alike.refl U.vm) q4, va_AO.moved (u := U) (U := U.calling fr mk a) (Vm.Alike.refl U.vm) q5, fun w hw => va_tabs (u := U) (by
    have := (List.mem_filter.mp hw).2
    simp only [Bool.and_eq_true] at this
    exact this.1) rfl (q6 w hw), va_Z.moved (u := U) (U := U.calling fr mk a) (Vm.Alike.refl U.vm) q7, va_T.moved (u := U) (U := U.calling fr mk a) (Vm.Alike.refl U.vm) q8, va_T.moved (u := U) (U := U.calling fr mk a) (Vm.Alike.refl U.vm) q9, q10⟩
theorem bw_pre {H : Heap} {locs : List Loc} {as : List Value} (C0 : bw_Cx p s m args meth c D cA g X o nL ini cc) (hi : bw_inv D cA g s cells h H locs) (hsz : H.size ≤ s.heap.size + cells) : ∀ U : State, U.heap = H → s.WarmedH U.vm → bw_Pc D cA g X as h (as.map (bw_tr g)).toArray U := by
  obtain ⟨hx, hb, hml, hown, hts, hK, hZ, hT6, hT, hini, hao, hA⟩ := C0
  intro U hU hW
  have hkp : ∀ a : Nat, a < s.heap.size → ¬ bw_A g a → U.heap[a]? = s.heap[a]? := fun a h1 h2 => by rw [hU]; exact hi.2.1.2.1 a h1 h2
  refine ⟨rfl, ?_, ?_, va_K.moved hW.alike hK, va_AO.moved hW.alike hao, fun w hw => ?_, (va_Z.moved hW.alike hZ).kept hkp, (va_T.moved hW.alike hT6).kept hkp, (va_T.moved hW.alike hT).kept hkp, fun q hq => ?_⟩
  · rw [hU]
    have e0 := hi.2.2
    omega
  · rw [hU]; exact hi.1
  · have h0 := (List.mem_filter.mp hw).2
    simp only [Bool.and_eq_true] at h0
    exact va_tabs (u := s.setVm U.vm) (A := #[]) h0.1 rfl (Cond.onTables_warmH (args' := #[]) (T := s) hW h0.1 h0.2 (hts w (List.mem_append_left _ hw)))
  · exact hA q (Nat.le_trans hi.2.1.1 (by rw [← hU]; exact hq))
theorem bw_after {H H1 : Heap} {locs L : List Loc} {v0 : Option Value} {vv : Option Value} {h1 : bw_H} {st₀ t : State} {a : Array Value} (hi : bw_inv D cA g s cells h H locs) (hn : bw_n h ≤ bw_n h1) (e0 : st₀.heap = H) (e1 : t.heap = H1) (hQ : bw_Qc D cA g v0 h1 a st₀ (.returned vv) t) (hL : ∀ q ∈ L, bw_A g q.base) : vv = v0.map (bw_tr g) ∧ bw_inv D cA g s (cells + (bw_n h1 - bw_n h)) h1 H1 (locs ++ L) := by
  obtain ⟨q1, q2, q3⟩ := hQ
  subst e0 e1
  refine ⟨Outcome.returned.inj q1, q2, ⟨Nat.le_trans hi.2.1.1 q3.1, fun q h2 h3 => ?_, fun q hq => ?_⟩, ?_⟩
  · rw [q3.2 q (Nat.lt_of_lt_of_le h2 hi.2.1.1) h3]
    exact hi.2.1.2.1 q h2 h3
  · rcases List.mem_append.mp hq with hq | hq
    · exact hi.2.1.2.2 q hq
    · exact hL q hq
  · have e0 := hi.2.2
    omega
/-- a call: out of the callee's contract, and of what comes behind it -/
theorem bw_c_ok {i : Instr} {len d : Nat} {M : bw_M} {im : Bool} {as r : List Value} {v : Option Value} {h1 : bw_H} (C0 : bw_Cx p s m args meth c D cA g X o nL ini cc) (hdg : decode cc pc = .ok (i, len)) (hw : len = bw_w i ∨ bw_w i = 0) (hf1 : d + 2 ≤ R.frames) (hf2 : 60 * (d + 2) ≤ R.locals)
    (hq : bw_c o i st h = some (M, im, as, r)) (hn : bw_n h ≤ bw_n h1) (hc : cells + (bw_n h1 - bw_n h) ≤ R.cells) (hs : slots + (bw_s h1 - bw_s h) ≤ R.slots)
    (hM : bw_ok M → (im = true → M.2.1.name = "<init>") → (lg_sl as).length ≤ M.2.2.2.1 → Met l M.2.1 (bw_wz M) { frames := d + 1, cells := bw_n h1 - bw_n h, slots := bw_s h1 - bw_s h, locals := 60 * (d + 1) } (bw_Pc D cA g X as h) (bw_Qc D cA g v h1) (bw_n h1 - bw_n h) (bw_s h1 - bw_s h) (bw_A g))
    (K : bw_at p l e R s m args below meth c Q D cA g nL (cells + (bw_n h1 - bw_n h)) (slots + (bw_s h1 - bw_s h)) (pc + 3, ls, v.toList ++ r, h1)) : bw_at p l e R s m args below meth c Q D cA g nL cells slots (pc, ls, st, h) := by
  obtain ⟨hx, hb, hml, hown, hts, hK, hZ, hT6, hT, hini, hao, hA⟩ := id C0
  have hG : ∀ M : bw_M, bw_ok M → GoodIn bw_Ts (bw_wz M) := fun M hok w hw => by
    rcases List.mem_cons.mp hw with rfl | hw
    · exact ⟨bw_in hok.1 rfl, Or.inl rfl⟩
    · refine ⟨List.mem_append_right _ hw, Or.inr ?_⟩
      rcases List.mem_cons.mp hw with rfl | hw
      · exact ⟨_, rfl⟩
      · rcases List.mem_cons.mp hw with rfl | hw
        · exact ⟨_, rfl⟩
        · exact absurd hw List.not_mem_nil
  have hMt : ∀ n : Nat, (st.take n).reverse.map (bw_tr g) = ((st.map (bw_tr g)).take n).reverse := fun n => by rw [← List.map_take, ← List.map_reverse]
  have Kc : ∀ (H : Heap) (locs : List Loc) (la : Array Slot), bw_inv D cA g s cells h H locs → lv_has la nL (bw_tl g ls) → ∀ (vv : Option Value) (st₀ t : State) (H1 : Heap) (L : List Loc), st₀.heap = H → t.heap = H1 → bw_Qc D cA g v h1 (as.map (bw_tr g)).toArray st₀ (.returned vv) t → (∀ q ∈ L, bw_A g q.base) → W p l e R s m args below meth c H1 (locs ++ L) (cells + (bw_n h1 - bw_n h)) (slots + (bw_s h1 - bw_s h)) Q (F0 m (pc + 3) la (vv.toList ++ r.map (bw_tr g))) := by
    intro H locs la hi hl vv st₀ t H1 L a1 a2 a3 a4
    obtain ⟨rfl, hi1⟩ := bw_after hi hn a1 a2 a3 a4
    have := K H1 (locs ++ L) la hi1 hl
    rw [show ((v.toList ++ r).map (bw_tr g)) = (v.map (bw_tr g)).toList ++ r.map (bw_tr g) by cases v <;> rfl] at this
    exact this
  unfold bw_c at hq
  split at hq
  · rename_i ix
    obtain rfl := bw_wl (n := 3) hw (by decide)
    split at hq
    · rename_i kd M0 hmt
      split at hq
      · rename_i hh
        cases hq
        obtain ⟨hkd, hle, hsum, hlen, hL30⟩ := hh
        obtain ⟨hok, w1, w2, -, w4⟩ := bw_mt_ok hmt
        have hMM := hM hok (fun z => by cases z) hlen
        rw [if_pos hkd] at w2
        have hstk : st.map (bw_tr g) = ((st.take M.2.2.2.2.2).reverse.map (bw_tr g)).reverse ++ (st.drop M.2.2.2.2.2).map (bw_tr g) := by
          rw [List.map_reverse, List.reverse_reverse, ← List.map_append, List.take_append_drop]
        have hnn : ((st.take M.2.2.2.2.2).reverse.map (bw_tr g)).length = M.2.2.2.2.2 := by
          rw [List.length_map, List.length_reverse, List.length_take]; omega
        intro H locs la hi hl
        refine bw_Wsz fun hsz => ?_
        have hWd : 2 * (F0 m pc la (st.map (bw_tr g))).monitorRoom + (((st.drop M.2.2.2.2.2).map (bw_tr g)).map fun v => v.category).sum ≤ 8 := by
          rw [bw_sum_tr]; show 2 * 0 + _ ≤ 8; omega
        rcases (show kd = 0 ∨ kd = 1 by omega) with rfl | rfl
        · exact bw_cont (va_runS ⟨hx, hb, hml, hown, hts⟩ hMM (va_cwS M.2.2.2.2.2 hts (by
            intro w hw
            rcases List.mem_append.mp hw with hw | hw
            · rcases List.mem_cons.mp hw with rfl | hw
              · exact ⟨bw_in w1 rfl, Or.inl rfl⟩
              · rcases List.mem_cons.mp hw with rfl | hw
                · exact ⟨bw_in w2 rfl, Or.inl rfl⟩
                · rcases List.mem_cons.mp hw with rfl | hw
                  · exact ⟨bw_in w4 rfl, Or.inl rfl⟩
                  · exact absurd hw List.not_mem_nil
            · exact hG M hok w hw) rfl rfl rfl ⟨hok.2.1.1, hok.2.1.2, hok.2.2.2.1⟩ ⟨by show d + 1 + 1 ≤ _; omega, by show 8 + (M.2.2.2.1 + 11) + 60 * (d + 1) ≤ _; omega⟩) ⟨bw_blind, bw_pre C0 hi hsz⟩ rfl hnn hl.1 hstk hWd hdg ⟨hc, hs⟩) (Kc H locs la hi hl)
        · exact bw_cont (va_runSN ⟨hx, hb, hml, hown, hts⟩ hMM ⟨va_cnB M.2.2.2.2.2 hts (hG M hok) rfl rfl rfl (va_Nw.of rfl (hts _ (bw_in w1 rfl))) (hts _ (bw_in w4 rfl)) ⟨hok.2.1.1, hok.2.1.2, hok.2.2.2.1⟩ ⟨by show d + 1 + 1 ≤ _; omega, by show 8 + (M.2.2.2.1 + 11) + 60 * (d + 1) ≤ _; omega⟩, hts _ (bw_in w2 rfl), trivial⟩ ⟨bw_blind, bw_pre C0 hi hsz⟩ rfl hnn hl.1 hstk hWd hdg ⟨hc, hs⟩) (Kc H locs la hi hl)
      · cases hq
    · cases hq
  · rename_i ix
    obtain rfl := bw_wl (n := 3) hw (by decide)
    split at hq
    · rename_i kd M0 hmt
      split at hq
      · rename_i a r0 hdr
        split at hq
        · rename_i hh
          cases hq
          obtain ⟨hkd, hle, han, hka, hM9, hsum, hlen, hL30⟩ := hh
          obtain ⟨hok, w1, w2, w3, w4⟩ := bw_mt_ok hmt
          have hMM := hM hok (fun z => by cases z) hlen
          rw [if_neg (by omega)] at w2
          have hstk : st.map (bw_tr g) = ((st.take M.2.2.2.2.2).reverse.map (bw_tr g)).reverse ++ Value.ref (g.1 + a) :: r.map (bw_tr g) := by
            rw [List.map_reverse, List.reverse_reverse]
            have := congrArg (List.map (bw_tr g)) (List.take_append_drop M.2.2.2.2.2 st)
            rw [hdr, List.map_append] at this
            exact this.symm
          have hnn : ((st.take M.2.2.2.2.2).reverse.map (bw_tr g)).length = M.2.2.2.2.2 := by
            rw [List.length_map, List.length_reverse, List.length_take]; omega
          intro H locs la hi hl
          refine bw_Wsz fun hsz => ?_
          have hWd : 2 * (F0 m pc la (st.map (bw_tr g))).monitorRoom + ((r.map (bw_tr g)).map fun v => v.category).sum ≤ 8 := by
            rw [bw_sum_tr]; show 2 * 0 + _ ≤ 8; omega
          have he := bw_ws_get (cA := cA) (g := g) han
          rw [bw_en_o hka] at he
          have hrecv := va_recv hK hi.1 (bw_cl9 M.1 hM9) he
          rw [hok.2.2.1] at hrecv
          rcases hkd with rfl | rfl
          · exact bw_cont (va_runV ⟨hx, hb, hml, hown, hts⟩ hMM (cwV M.2.2.2.2.2 hts (by
              intro w hw
              rcases List.mem_append.mp hw with hw | hw
              · rcases List.mem_cons.mp hw with rfl | hw
                · exact ⟨bw_in w1 rfl, Or.inl rfl⟩
                · rcases List.mem_cons.mp hw with rfl | hw
                  · exact ⟨bw_in w2 rfl, Or.inl rfl⟩
                  · rcases List.mem_cons.mp hw with rfl | hw
                    · exact ⟨bw_in (w3 (Or.inl rfl)) rfl, Or.inl rfl⟩
                    · rcases List.mem_cons.mp hw with rfl | hw
                      · exact ⟨bw_in w4 rfl, Or.inl rfl⟩
                      · exact absurd hw List.not_mem_nil
              · exact hG M hok w hw) rfl rfl rfl ⟨rfl, hok.2.1.1, hok.2.1.2, hok.2.2.2.1⟩ ⟨by show d + 1 + 1 ≤ _; omega, by show 8 + (M.2.2.2.1 + 11) + 60 * (d + 1) ≤ _; omega⟩) ⟨bw_blind, hrecv, bw_pre C0 hi hsz⟩ rfl hnn hl.1 hstk hWd hdg ⟨hc, hs⟩) (Kc H locs la hi hl)
          · exact bw_cont (va_runVN ⟨hx, hb, hml, hown, hts⟩ hMM ⟨va_cnB M.2.2.2.2.2 hts (hG M hok) rfl rfl rfl (va_Nw.of rfl (hts _ (bw_in w1 rfl))) (hts _ (bw_in w4 rfl)) ⟨hok.2.1.1, hok.2.1.2, hok.2.2.2.1⟩ ⟨by show d + 1 + 1 ≤ _; omega, by show 8 + (M.2.2.2.1 + 11) + 60 * (d + 1) ≤ _; omega⟩, hts _ (bw_in w2 rfl), hts _ (bw_in (w3 (Or.inr rfl)) rfl)⟩ ⟨bw_blind, hrecv, bw_pre C0 hi hsz⟩ rfl hnn hl.1 hstk hWd hdg ⟨hc, hs⟩) (Kc H locs la hi hl)
        · cases hq
      · cases hq
    · cases hq
  · rename_i ix
    obtain rfl := bw_wl (n := 3) hw (by decide)
    split at hq
    · rename_i kd M0 hmt
      split at hq
      · rename_i a r0 hdr
        split at hq
        · rename_i hh
          cases hq
          obtain ⟨hkd, hle, hnm, hrn, hsum, hlen, hL30⟩ := hh
          obtain ⟨hok, w1, w2, -, w4⟩ := bw_mt_ok hmt
          have hMM := hM hok (fun _ => hnm) hlen
          rw [if_neg (by omega)] at w2
          have hstk : st.map (bw_tr g) = ((st.take M.2.2.2.2.2).reverse.map (bw_tr g)).reverse ++ Value.ref (g.1 + a) :: r.map (bw_tr g) := by
            rw [List.map_reverse, List.reverse_reverse]
            have := congrArg (List.map (bw_tr g)) (List.take_append_drop M.2.2.2.2.2 st)
            rw [hdr, List.map_append] at this
            exact this.symm
          have hnn : ((st.take M.2.2.2.2.2).reverse.map (bw_tr g)).length = M.2.2.2.2.2 := by
            rw [List.length_map, List.length_reverse, List.length_take]; omega
          intro H locs la hi hl
          refine bw_Wsz fun hsz => ?_
          have hWd : 2 * (F0 m pc la (st.map (bw_tr g))).monitorRoom + ((r.map (bw_tr g)).map fun v => v.category).sum ≤ 8 := by
            rw [bw_sum_tr]; show 2 * 0 + _ ≤ 8; omega
          have hcode : bw_wz M = Cond.code M.2.1 M.2.2.1 M.2.2.2.1 none :: [Cond.arrayClass .int, Cond.arrayClass .long] := by
            show Cond.code M.2.1 M.2.2.1 M.2.2.2.1 M.2.2.2.2.1 :: _ = _
            rw [hrn]
          rcases hkd with rfl | rfl
          · exact bw_cont (va_runI ⟨hx, hb, hml, hown, hts⟩ hMM (cwI M.2.2.2.2.2 hts (hG M hok) hcode rfl rfl (hts _ (bw_in w4 rfl)) (hts _ (bw_in w1 rfl)) (hts _ (bw_in w2 rfl)) hnm ⟨hok.2.1.1, hok.2.1.2, hok.2.2.2.1⟩ ⟨by show d + 1 + 1 ≤ _; omega, by show 8 + (M.2.2.2.1 + 11) + 60 * (d + 1) ≤ _; omega⟩) ⟨bw_blind, bw_pre C0 hi hsz⟩ rfl hnn hl.1 hstk hWd hdg ⟨hc, hs⟩) (Kc H locs la hi hl)
          · exact bw_cont (va_runIN ⟨hx, hb, hml, hown, hts⟩ hMM ⟨va_cnB M.2.2.2.2.2 hts (hG M hok) hcode rfl rfl (va_Nw.of rfl (hts _ (bw_in w1 rfl))) (hts _ (bw_in w4 rfl)) ⟨hok.2.1.1, hok.2.1.2, hok.2.2.2.1⟩ ⟨by show d + 1 + 1 ≤ _; omega, by show 8 + (M.2.2.2.1 + 11) + 60 * (d + 1) ≤ _; omega⟩, hnm, hts _ (bw_in w2 rfl)⟩ ⟨bw_blind, bw_pre C0 hi hsz⟩ rfl hnn hl.1 hstk hWd hdg ⟨hc, hs⟩) (Kc H locs la hi hl)
        · cases hq
      · cases hq
    · cases hq
  · cases hq
end BC
end
section
/-! the small machine whole -/
theorem bw_x_mono {X : Nat × (Nat → Int32)} {o nL : Nat} {ini : Bool} {i : Instr} {pc : Nat} {ls : bw_L} {st : List Value} {h : bw_H} {k : bw_C} (hq : bw_x X o nL ini i pc ls st h = some k) : bw_n h ≤ bw_n k.2.2.2 ∧ bw_s h ≤ bw_s k.2.2.2 := by
  cases i with
  | iload a => exact bz_eq (bz_il hq)
  | iload_n a => exact bz_eq (bz_il hq)
  | lload a => exact bz_eq (bz_ll hq)
  | lload_n a => exact bz_eq (bz_ll hq)
  | aload a => exact bz_eq (bz_al hq)
  | aload_n a => exact bz_eq (bz_al hq)
  | istore a => exact bz_eq (bz_is hq)
  | istore_n a => exact bz_eq (bz_is hq)
  | lstore a => exact bz_eq (bz_ls hq)
  | lstore_n a => exact bz_eq (bz_ls hq)
  | astore a => exact bz_eq (bz_as hq)
  | astore_n a => exact bz_eq (bz_as hq)
  | iinc a n => exact bz_eq (bz_ic hq)
  | iconst a => exact bz_eq (bz_cn hq)
  | bipush a => exact bz_eq (bz_cn hq)
  | sipush a => exact bz_eq (bz_cn hq)
  | lconst a => exact bz_eq (bz_cn hq)
  | aconst_null => exact bz_eq (bz_cn hq)
  | iadd => exact bz_eq (bz_ii hq)
  | isub => exact bz_eq (bz_ii hq)
  | imul => exact bz_eq (bz_ii hq)
  | iand => exact bz_eq (bz_ii hq)
  | ior => exact bz_eq (bz_ii hq)
  | ixor => exact bz_eq (bz_ii hq)
  | ishl => exact bz_eq (bz_ii hq)
  | ishr => exact bz_eq (bz_ii hq)
  | iushr => exact bz_eq (bz_ii hq)
  | idiv => exact bz_eq (bz_id hq)
  | irem => exact bz_eq (bz_id hq)
  | ladd => exact bz_eq (bz_jj hq)
  | lsub => exact bz_eq (bz_jj hq)
  | lmul => exact bz_eq (bz_jj hq)
  | land => exact bz_eq (bz_jj hq)
  | lor => exact bz_eq (bz_jj hq)
  | lxor => exact bz_eq (bz_jj hq)
  | ldiv => exact bz_eq (bz_jd hq)
  | lrem => exact bz_eq (bz_jd hq)
  | lushr => exact bz_eq (bz_ju hq)
  | ineg => exact bz_eq (bz_i1 hq)
  | lneg => exact bz_eq (bz_j1 hq)
  | i2l => exact bz_eq (bz_i1 hq)
  | i2b => exact bz_eq (bz_i1 hq)
  | l2i => exact bz_eq (bz_j1 hq)
  | lcmp => exact bz_eq (bz_cm hq)
  | dup => exact bz_eq (bz_du hq)
  | dup2 => exact bz_eq (bz_d2 hq)
  | goto a => exact bz_eq (bz_go hq)
  | ifnull a => exact bz_eq (bz_nu hq)
  | ifnonnull a => exact bz_eq (bz_nn hq)
  | tableswitch a b d f => exact bz_eq (bz_ts hq)
  | getfield a => exact bz_eq (bz_gf hq)
  | putfield a => exact bz_eq (bz_pf hq)
  | getstatic a => exact bz_eq (bz_gs hq)
  | laload => exact bz_eq (bz_la hq)
  | iaload => exact bz_eq (bz_ia hq)
  | baload => exact absurd (show (none : Option bw_C) = some k from hq) (fun z => by cases z)
  | aaload => exact bz_eq (bz_aa hq)
  | iastore => exact bz_eq (bz_ist hq)
  | bastore => exact absurd (show (none : Option bw_C) = some k from hq) (fun z => by cases z)
  | aastore => exact bz_eq (bz_ast hq)
  | arraylength => exact bz_eq (bz_len hq)
  | new a => exact bz_new hq
  | newarray a => exact bz_na hq
  | anewarray a => exact bz_an hq
  | invokespecial a => exact bz_eq (bz_oi hq)
  | ldc a =>
    have hq' : (match bw_kc o a with | some (.int v) => bq_cn 2 (.int v) | _ => fun _ _ _ _ => none) pc ls st h = some k := hq
    cases hkc : bw_kc o a with
    | none => rw [hkc] at hq'; cases hq'
    | some v =>
      rw [hkc] at hq'
      cases v with
      | int v => exact bz_eq (bz_cn hq')
      | _ => cases hq'
  | ldc_w a =>
    have hq' : (match bw_kc o a with | some (.int v) => bq_cn 3 (.int v) | _ => fun _ _ _ _ => none) pc ls st h = some k := hq
    cases hkc : bw_kc o a with
    | none => rw [hkc] at hq'; cases hq'
    | some v =>
      rw [hkc] at hq'
      cases v with
      | int v => exact bz_eq (bz_cn hq')
      | _ => cases hq'
  | ldc2_w a =>
    have hq' : (match bw_kc o a with | some (.long v) => bq_cn 3 (.long v) | _ => fun _ _ _ _ => none) pc ls st h = some k := hq
    cases hkc : bw_kc o a with
    | none => rw [hkc] at hq'; cases hq'
    | some v =>
      rw [hkc] at hq'
      cases v with
      | long v => exact bz_eq (bz_cn hq')
      | _ => cases hq'
  | ifCond cd off => cases cd <;> exact bz_eq (bz_if hq)
  | if_icmp cd off => cases cd <;> exact bz_eq (bz_cp hq)
  | invokestatic a =>
    have hq' : (match bw_mx o a with | some b => bq_mx b | none => bq_ac (bw_ac o a)) pc ls st h = some k := hq
    cases hmx : bw_mx o a with
    | some b => rw [hmx] at hq'; exact bz_eq (bz_mx hq')
    | none => rw [hmx] at hq'; exact bz_eq (bz_ac hq')
  | _ => exact absurd (show (none : Option bw_C) = some k from hq) (fun z => by cases z)
theorem bw_snd (X : Nat × (Nat → Int32)) : ∀ (n d o nL : Nat) (ini : Bool) (rt : Option FieldType) (cc : ByteArray) (pc : Nat) (ls : bw_L) (st : List Value) (h : bw_H) (v : Option Value) (h' : bw_H), bw_run X n d o nL ini rt cc pc ls st h = some (v, h') →
    (bw_n h ≤ bw_n h' ∧ bw_s h ≤ bw_s h') ∧ ∀ {p : Program} {l : Launch} {e : Env} {R : Room} {s : State} {m : MethodId} {args : Array Value} {below : List Frame} {meth : Method} {c : Code} {D : va_G} {cA : FieldType → ClassId} {g : Nat × Nat × Nat} {cells slots mc ms : Nat}, bw_Cx p s m args meth c D cA g X o nL ini cc → meth.sig.returnType = rt → meth.locks = false → d + 1 ≤ R.frames → 60 * (d + 1) ≤ R.locals → mc ≤ R.cells → ms ≤ R.slots → cells + (bw_n h' - bw_n h) = mc → slots + (bw_s h' - bw_s h) = ms →
      bw_at p l e R s m args below meth c (MQ below (bw_Qc D cA g v h') args s mc ms (bw_A g)) D cA g nL cells slots (pc, ls, st, h) := by
  intro n
  induction n with
  | zero =>
    intro d o nL ini rt cc pc ls st h v h' hr
    unfold bw_run at hr
    cases hr
  | succ n ih =>
    intro d o nL ini rt cc pc ls st h v h' hr
    unfold bw_run at hr
    split at hr
    · cases hr
    · rename_i i len hdg
      split at hr
      · cases hr
      · rename_i hw0
        have hw : len = bw_w i ∨ bw_w i = 0 := Decidable.of_not_not hw0
        split at hr
        · rename_i pc' ls' st' h1 hx1
          obtain ⟨m1, ih1⟩ := ih d o nL ini rt cc pc' ls' st' h1 v h' hr
          have m0 : bw_n h ≤ bw_n h1 ∧ bw_s h ≤ bw_s h1 := bw_x_mono hx1
          refine ⟨⟨Nat.le_trans m0.1 m1.1, Nat.le_trans m0.2 m1.2⟩, ?_⟩
          intro p l e R s m args below meth c D cA g cells slots mc ms C0 hrt hlk hf1 hf2 hc hs ec es
          refine (bw_x_ok C0 hdg hw (by omega) (by omega) hx1 ?_ ?_ ?_).2
          · have z1 := m0.1; have z2 := m1.1; show cells + (bw_n h1 - bw_n h) ≤ _; omega
          · have z1 := m0.2; have z2 := m1.2; show slots + (bw_s h1 - bw_s h) ≤ _; omega
          · exact ih1 C0 hrt hlk hf1 hf2 hc hs (by have z1 := m0.1; have z2 := m1.1; show cells + (bw_n h1 - bw_n h) + (bw_n h' - bw_n h1) = mc; omega) (by have z1 := m0.2; have z2 := m1.2; show slots + (bw_s h1 - bw_s h) + (bw_s h' - bw_s h1) = ms; omega)
        · split at hr
          · rename_i v1 he
            cases hr
            refine ⟨⟨Nat.le_refl _, Nat.le_refl _⟩, ?_⟩
            intro p l e R s m args below meth c D cA g cells slots mc ms C0 hrt hlk hf1 hf2 hc hs ec es
            rw [Nat.sub_self, Nat.add_zero] at ec es
            subst ec es
            exact bw_e_ok C0 hdg hw hrt hlk he
          · split at hr
            · cases hr
            · rename_i d'
              split at hr
              · rename_i M im as r hcc
                split at hr
                · rename_i v1 h1 hrun
                  obtain ⟨m0, ih0⟩ := ih _ _ _ _ _ _ _ _ _ _ _ _ hrun
                  obtain ⟨m1, ih1⟩ := ih _ _ _ _ _ _ _ _ _ _ _ _ hr
                  refine ⟨⟨Nat.le_trans m0.1 m1.1, Nat.le_trans m0.2 m1.2⟩, ?_⟩
                  intro p l e R s m args below meth c D cA g cells slots mc ms C0 hrt hlk hf1 hf2 hc hs ec es
                  have a1 := m0.1
                  have a2 := m0.2
                  have b1 := m1.1
                  have b2 := m1.2
                  refine bw_c_ok (d := d') C0 hdg hw (by omega) (by omega) hcc a1 (by omega) (by omega) (fun hok hnm hlen => ?_) (ih1 C0 hrt hlk hf1 hf2 hc hs (by omega) (by omega))
                  refine Met.ofW (cc := M.2.2.1) (maxL := M.2.2.2.1) (ret := M.2.2.2.2.1) hok.2.2.2.2 rfl ?_
                  intro p e s m args below meth c s₁ B hml hv
                  obtain ⟨rfl, q2, q3, q4, q5, q6, q7, q8, q9, q10⟩ := hv
                  have hts0 := atoms_spec (ws := bw_wz M) B.pre
                  have hts : ∀ w ∈ bw_Ts, w.before ((as.map (bw_tr g)).toArray) s = true := by
                    intro w hw
                    rcases List.mem_append.mp hw with hw | hw
                    · have h0 := (List.mem_filter.mp hw).2
                      simp only [Bool.and_eq_true] at h0
                      exact va_tabs h0.1 rfl (q6 w hw)
                    · exact hts0 w (List.mem_cons_of_mem _ hw)
                  have C1 : bw_Cx p s m ((as.map (bw_tr g)).toArray) meth c D cA g X M.1 M.2.2.2.1 im M.2.2.1 :=
                    ⟨B.exec, B.bytes, hml, by rw [hok.2.2.1]; exact findClass_of_methodNamed B.named, hts, q4, q7, q8, q9, fun hz => ((name_of_methodNamed B.named B.method).1).trans (hnm hz), q5, q10⟩
                  rw [lg_entry_eq]
                  have hlen2 : (lg_sl (as.map (bw_tr g))).length ≤ M.2.2.2.1 := by rw [bw_lgsl]; exact hlen
                  have hl := lv_entry (as.map (bw_tr g)) hlen2
                  rw [bw_lvargs] at hl
                  exact ih0 C1 B.returns B.notSynchronized (Nat.le_refl _) (Nat.le_refl _) (Nat.le_refl _) (Nat.le_refl _) (Nat.zero_add _) (Nat.zero_add _) s.heap [] _ ⟨q3, va_S.rf, q2⟩ hl
                · cases hr
              · cases hr
end
section
/-! walking the small machine: a row an instruction -/
def bw_go (X : Nat × (Nat → Int32)) (d o nL : Nat) (ini : Bool) (rt : Option FieldType) (cc : ByteArray) (pc : Nat) (ls : bw_L) (st : List Value) (h : bw_H) (Q : Option Value → bw_H → Prop) : Prop := ∃ (n : Nat) (v : Option Value) (h' : bw_H), bw_run X n d o nL ini rt cc pc ls st h = some (v, h') ∧ Q v h'
def bw_me (X : Nat × (Nat → Int32)) (d : Nat) (M : bw_M) (im : Bool) (as : List Value) (h : bw_H) (Q : Option Value → bw_H → Prop) : Prop := bw_go X d M.1 M.2.2.2.1 im M.2.2.2.2.1 M.2.2.1 0 (lv_args 0 as) [] h Q
theorem bw_run_mono (X : Nat × (Nat → Int32)) : ∀ (n n' d d' o nL : Nat) (ini : Bool) (rt : Option FieldType) (cc : ByteArray) (pc : Nat) (ls : bw_L) (st : List Value) (h : bw_H) (r : Option Value × bw_H), n ≤ n' → d ≤ d' → bw_run X n d o nL ini rt cc pc ls st h = some r → bw_run X n' d' o nL ini rt cc pc ls st h = some r := by
  intro n
  induction n with
  | zero => intro n' d d' o nL ini rt cc pc ls st h r _ _ hr; unfold bw_run at hr; cases hr
  | succ n ih =>
    intro n' d d' o nL ini rt cc pc ls st h r hn hd hr
    obtain ⟨n1, rfl⟩ : ∃ n1, n' = n1 + 1 := ⟨n' - 1, by omega⟩
    have hn1 : n ≤ n1 := by omega
    unfold bw_run at hr ⊢
    split at hr
    · cases hr
    · rename_i i len hdg
      try simp only
      split at hr
      · cases hr
      · rename_i hw
        rw [if_neg hw]
        split at hr
        · rename_i hx
          exact ih _ _ _ _ _ _ _ _ _ _ _ _ _ hn1 hd hr
        · rename_i hx
          try simp only
          split at hr
          · exact hr
          · try simp only
            split at hr
            · cases hr
            · rename_i d1
              obtain ⟨d2, rfl⟩ : ∃ d2, d' = d2 + 1 := ⟨d' - 1, by omega⟩
              have hd1 : d1 ≤ d2 := by omega
              try simp only
              split at hr
              · rename_i hc
                split at hr
                · rename_i hrun
                  rw [ih _ _ _ _ _ _ _ _ _ _ _ _ _ hn1 hd1 hrun]
                  exact ih _ _ _ _ _ _ _ _ _ _ _ _ _ hn1 hd hr
                · cases hr
              · cases hr
theorem bw_me_mono {X : Nat × (Nat → Int32)} {d d' : Nat} {M : bw_M} {im : Bool} {as : List Value} {h : bw_H} {Q : Option Value → bw_H → Prop} (hd : d ≤ d') (hm : bw_me X d M im as h Q) : bw_me X d' M im as h Q := by
  obtain ⟨n, v, h', h1, h2⟩ := hm
  exact ⟨n, v, h', bw_run_mono X _ _ _ _ _ _ _ _ _ _ _ _ _ _ (Nat.le_refl _) hd h1, h2⟩
theorem go_for {P : Nat → Prop} {N : Nat} (step : ∀ k, k < N → P (k + 1) → P k) (last : P N) : ∀ k, k ≤ N → P k := by
  intro k hk
  obtain ⟨j, rfl⟩ : ∃ j, k = N - j := ⟨N - k, by omega⟩
  clear hk
  induction j with
  | zero => exact last
  | succ j ih =>
    by_cases hj : j < N
    · refine step _ (by omega) ?_
      rw [show N - (j + 1) + 1 = N - j by omega]
      exact ih
    · rw [show N - (j + 1) = N - j by omega]; exact ih
def bi (b : Bool) : Int32 := if b = true then 1 else 0
section GO
variable {X : Nat × (Nat → Int32)} {d o nL : Nat} {ini : Bool} {rt : Option FieldType} {cc : ByteArray} {pc pc' : Nat} {ls : bw_L} {st r : List Value} {h : bw_H} {Q : Option Value → bw_H → Prop}
theorem go_x {i : Instr} {len : Nat} {ls' : bw_L} {st' : List Value} {h' : bw_H} (hd : decode cc pc = .ok (i, len)) (hw : len = bw_w i ∨ bw_w i = 0) (hx : bw_x X o nL ini i pc ls st h = some (pc', ls', st', h')) (K : bw_go X d o nL ini rt cc pc' ls' st' h' Q) : bw_go X d o nL ini rt cc pc ls st h Q := by
  obtain ⟨n, v, h1, h2, h3⟩ := K
  refine ⟨n + 1, v, h1, ?_, h3⟩
  unfold bw_run
  rw [hd]
  try simp only
  rw [if_neg (fun z => z hw), hx]
  exact h2
theorem go_e {i : Instr} {len : Nat} {v : Option Value} (hd : decode cc pc = .ok (i, len)) (hw : len = bw_w i ∨ bw_w i = 0) (hx : bw_x X o nL ini i pc ls st h = none) (he : bw_e rt i st = some v) (hQ : Q v h) : bw_go X d o nL ini rt cc pc ls st h Q := by
  refine ⟨1, v, h, ?_, hQ⟩
  unfold bw_run
  rw [hd]
  try simp only
  rw [if_neg (fun z => z hw), hx]
  try simp only
  rw [he]
theorem go_c {i : Instr} {len : Nat} {M : bw_M} {im : Bool} {as : List Value} (hd : decode cc pc = .ok (i, len)) (hw : len = bw_w i ∨ bw_w i = 0) (hx : bw_x X o nL ini i pc ls st h = none) (he : bw_e rt i st = none) (hc : bw_c o i st h = some (M, im, as, r)) (hm : bw_me X d M im as h (fun v h1 => bw_go X (d + 1) o nL ini rt cc (pc + 3) ls (v.toList ++ r) h1 Q)) : bw_go X (d + 1) o nL ini rt cc pc ls st h Q := by
  obtain ⟨n, v, h1, h2, n2, v2, h3, h4, h5⟩ := hm
  refine ⟨n + n2 + 1, v2, h3, ?_, h5⟩
  unfold bw_run
  rw [hd]
  try simp only
  rw [if_neg (fun z => z hw), hx]
  try simp only
  rw [he]
  try simp only
  rw [hc]
  try simp only
  rw [bw_run_mono X _ _ _ _ _ _ _ _ _ _ _ _ _ _ (Nat.le_add_right n n2) (Nat.le_refl d) h2]
  exact bw_run_mono X _ _ _ _ _ _ _ _ _ _ _ _ _ _ (Nat.le_add_left n2 n) (Nat.le_refl _) h4
theorem go_iload_n {k : Fin 4} {x : Int32} (hd : decode cc pc = .ok (.iload_n k, 1)) (hl : bw_lg ls (k : Nat) = some (.int x)) (K : bw_go X d o nL ini rt cc (pc + 1) ls (.int x :: st) h Q) : bw_go X d o nL ini rt cc pc ls (st) h Q := by
  refine go_x hd (by first | exact Or.inl rfl | exact Or.inr rfl) ?_ K
  show bq_il 1 (k : Nat) pc ls st h = _
  unfold bq_il; rw [hl]
theorem go_iload {k : Nat} {x : Int32} (hd : decode cc pc = .ok (.iload k, 2)) (hl : bw_lg ls k = some (.int x)) (K : bw_go X d o nL ini rt cc (pc + 2) ls (.int x :: st) h Q) : bw_go X d o nL ini rt cc pc ls (st) h Q := by
  refine go_x hd (by first | exact Or.inl rfl | exact Or.inr rfl) ?_ K
  show bq_il 2 k pc ls st h = _
  unfold bq_il; rw [hl]
theorem go_lload_n {k : Fin 4} {x : Int64} (hd : decode cc pc = .ok (.lload_n k, 1)) (hl : bw_lg ls (k : Nat) = some (.long x)) (K : bw_go X d o nL ini rt cc (pc + 1) ls (.long x :: st) h Q) : bw_go X d o nL ini rt cc pc ls (st) h Q := by
  refine go_x hd (by first | exact Or.inl rfl | exact Or.inr rfl) ?_ K
  show bq_ll 1 (k : Nat) pc ls st h = _
  unfold bq_ll; rw [hl]
theorem go_lload {k : Nat} {x : Int64} (hd : decode cc pc = .ok (.lload k, 2)) (hl : bw_lg ls k = some (.long x)) (K : bw_go X d o nL ini rt cc (pc + 2) ls (.long x :: st) h Q) : bw_go X d o nL ini rt cc pc ls (st) h Q := by
  refine go_x hd (by first | exact Or.inl rfl | exact Or.inr rfl) ?_ K
  show bq_ll 2 k pc ls st h = _
  unfold bq_ll; rw [hl]
theorem go_aload_n {k : Fin 4} {x : Nat} (hd : decode cc pc = .ok (.aload_n k, 1)) (hl : bw_lg ls (k : Nat) = some (.ref x)) (K : bw_go X d o nL ini rt cc (pc + 1) ls (.ref x :: st) h Q) : bw_go X d o nL ini rt cc pc ls (st) h Q := by
  refine go_x hd (by first | exact Or.inl rfl | exact Or.inr rfl) ?_ K
  show bq_al 1 (k : Nat) pc ls st h = _
  unfold bq_al; rw [hl]
theorem go_aloadA_n {k : Fin 4} {x : Nat} (hd : decode cc pc = .ok (.aload_n k, 1)) (hl : bw_lg ls (k : Nat) = some (.retAddr x)) (K : bw_go X d o nL ini rt cc (pc + 1) ls (.retAddr x :: st) h Q) : bw_go X d o nL ini rt cc pc ls (st) h Q := by
  refine go_x hd (by first | exact Or.inl rfl | exact Or.inr rfl) ?_ K
  show bq_al 1 (k : Nat) pc ls st h = _
  unfold bq_al; rw [hl]
theorem go_aloadN_n {k : Fin 4} (hd : decode cc pc = .ok (.aload_n k, 1)) (hl : bw_lg ls (k : Nat) = some .null) (K : bw_go X d o nL ini rt cc (pc + 1) ls (.null :: st) h Q) : bw_go X d o nL ini rt cc pc ls (st) h Q := by
  refine go_x hd (by first | exact Or.inl rfl | exact Or.inr rfl) ?_ K
  show bq_al 1 (k : Nat) pc ls st h = _
  unfold bq_al; rw [hl]
theorem go_istore_n {k : Fin 4} {x : Int32} (hd : decode cc pc = .ok (.istore_n k, 1)) (hk : (k : Nat) < nL) (K : bw_go X d o nL ini rt cc (pc + 1) (bw_s1 ls (k : Nat) (.int x)) (r) h Q) : bw_go X d o nL ini rt cc pc ls (.int x :: r) h Q := by
  refine go_x hd (by first | exact Or.inl rfl | exact Or.inr rfl) ?_ K
  show bq_is nL 1 (k : Nat) pc ls (.int x :: r) h = _
  unfold bq_is; (try simp only); rw [if_pos hk]
theorem go_lstore_n {k : Fin 4} {x : Int64} (hd : decode cc pc = .ok (.lstore_n k, 1)) (hk : (k : Nat) + 1 < nL) (K : bw_go X d o nL ini rt cc (pc + 1) (bw_s2 ls (k : Nat) (.long x)) (r) h Q) : bw_go X d o nL ini rt cc pc ls (.long x :: r) h Q := by
  refine go_x hd (by first | exact Or.inl rfl | exact Or.inr rfl) ?_ K
  show bq_ls nL 1 (k : Nat) pc ls (.long x :: r) h = _
  unfold bq_ls; (try simp only); rw [if_pos hk]
theorem go_astore_n {k : Fin 4} {x : Nat} (hd : decode cc pc = .ok (.astore_n k, 1)) (hk : (k : Nat) < nL) (K : bw_go X d o nL ini rt cc (pc + 1) (bw_s1 ls (k : Nat) (.ref x)) (r) h Q) : bw_go X d o nL ini rt cc pc ls (.ref x :: r) h Q := by
  refine go_x hd (by first | exact Or.inl rfl | exact Or.inr rfl) ?_ K
  show bq_as nL 1 (k : Nat) pc ls (.ref x :: r) h = _
  unfold bq_as; (try simp only); rw [if_pos hk]
theorem go_astoreN_n {k : Fin 4} (hd : decode cc pc = .ok (.astore_n k, 1)) (hk : (k : Nat) < nL) (K : bw_go X d o nL ini rt cc (pc + 1) (bw_s1 ls (k : Nat) .null) (r) h Q) : bw_go X d o nL ini rt cc pc ls (.null :: r) h Q := by
  refine go_x hd (by first | exact Or.inl rfl | exact Or.inr rfl) ?_ K
  show bq_as nL 1 (k : Nat) pc ls (.null :: r) h = _
  unfold bq_as; (try simp only); rw [if_pos hk]
theorem go_aload {k : Nat} {x : Nat} (hd : decode cc pc = .ok (.aload k, 2)) (hl : bw_lg ls k = some (.ref x)) (K : bw_go X d o nL ini rt cc (pc + 2) ls (.ref x :: st) h Q) : bw_go X d o nL ini rt cc pc ls (st) h Q := by
  refine go_x hd (by first | exact Or.inl rfl | exact Or.inr rfl) ?_ K
  show bq_al 2 k pc ls st h = _
  unfold bq_al; rw [hl]
theorem go_aloadA {k : Nat} {x : Nat} (hd : decode cc pc = .ok (.aload k, 2)) (hl : bw_lg ls k = some (.retAddr x)) (K : bw_go X d o nL ini rt cc (pc + 2) ls (.retAddr x :: st) h Q) : bw_go X d o nL ini rt cc pc ls (st) h Q := by
  refine go_x hd (by first | exact Or.inl rfl | exact Or.inr rfl) ?_ K
  show bq_al 2 k pc ls st h = _
  unfold bq_al; rw [hl]
theorem go_aloadN {k : Nat} (hd : decode cc pc = .ok (.aload k, 2)) (hl : bw_lg ls k = some .null) (K : bw_go X d o nL ini rt cc (pc + 2) ls (.null :: st) h Q) : bw_go X d o nL ini rt cc pc ls (st) h Q := by
  refine go_x hd (by first | exact Or.inl rfl | exact Or.inr rfl) ?_ K
  show bq_al 2 k pc ls st h = _
  unfold bq_al; rw [hl]
theorem go_istore {k : Nat} {x : Int32} (hd : decode cc pc = .ok (.istore k, 2)) (hk : k < nL) (K : bw_go X d o nL ini rt cc (pc + 2) (bw_s1 ls k (.int x)) (r) h Q) : bw_go X d o nL ini rt cc pc ls (.int x :: r) h Q := by
  refine go_x hd (by first | exact Or.inl rfl | exact Or.inr rfl) ?_ K
  show bq_is nL 2 k pc ls (.int x :: r) h = _
  unfold bq_is; (try simp only); rw [if_pos hk]
theorem go_lstore {k : Nat} {x : Int64} (hd : decode cc pc = .ok (.lstore k, 2)) (hk : k + 1 < nL) (K : bw_go X d o nL ini rt cc (pc + 2) (bw_s2 ls k (.long x)) (r) h Q) : bw_go X d o nL ini rt cc pc ls (.long x :: r) h Q := by
  refine go_x hd (by first | exact Or.inl rfl | exact Or.inr rfl) ?_ K
  show bq_ls nL 2 k pc ls (.long x :: r) h = _
  unfold bq_ls; (try simp only); rw [if_pos hk]
theorem go_astore {k : Nat} {x : Nat} (hd : decode cc pc = .ok (.astore k, 2)) (hk : k < nL) (K : bw_go X d o nL ini rt cc (pc + 2) (bw_s1 ls k (.ref x)) (r) h Q) : bw_go X d o nL ini rt cc pc ls (.ref x :: r) h Q := by
  refine go_x hd (by first | exact Or.inl rfl | exact Or.inr rfl) ?_ K
  show bq_as nL 2 k pc ls (.ref x :: r) h = _
  unfold bq_as; (try simp only); rw [if_pos hk]
theorem go_astoreN {k : Nat} (hd : decode cc pc = .ok (.astore k, 2)) (hk : k < nL) (K : bw_go X d o nL ini rt cc (pc + 2) (bw_s1 ls k .null) (r) h Q) : bw_go X d o nL ini rt cc pc ls (.null :: r) h Q := by
  refine go_x hd (by first | exact Or.inl rfl | exact Or.inr rfl) ?_ K
  show bq_as nL 2 k pc ls (.null :: r) h = _
  unfold bq_as; (try simp only); rw [if_pos hk]
theorem go_iinc {k : Nat} {n : Int} {x v : Int32} (hd : decode cc pc = .ok (.iinc k n, 3)) (hl : bw_lg ls k = some (.int x)) (hv : x + Int32.ofInt n = v) (hk : k < nL) (K : bw_go X d o nL ini rt cc (pc + 3) (bw_s1 ls k (.int v)) (st) h Q) : bw_go X d o nL ini rt cc pc ls (st) h Q := by
  refine go_x hd (by first | exact Or.inl rfl | exact Or.inr rfl) ?_ K
  show bq_ic nL k n pc ls st h = _
  unfold bq_ic; rw [hl]; (try simp only); rw [if_pos hk, hv]
theorem go_iconst {n : Int} (v : Int32) (hd : decode cc pc = .ok (.iconst n, 1)) (hv : Int32.ofInt n = v) (K : bw_go X d o nL ini rt cc (pc + 1) ls (.int v :: st) h Q) : bw_go X d o nL ini rt cc pc ls (st) h Q := by
  refine go_x hd (by first | exact Or.inl rfl | exact Or.inr rfl) ?_ K
  subst hv; rfl
theorem go_bipush {n : Int} (v : Int32) (hd : decode cc pc = .ok (.bipush n, 2)) (hv : (Int8.ofInt n).toInt32 = v) (K : bw_go X d o nL ini rt cc (pc + 2) ls (.int v :: st) h Q) : bw_go X d o nL ini rt cc pc ls (st) h Q := by
  refine go_x hd (by first | exact Or.inl rfl | exact Or.inr rfl) ?_ K
  subst hv; rfl
theorem go_sipush {n : Int} (v : Int32) (hd : decode cc pc = .ok (.sipush n, 3)) (hv : (Int16.ofInt n).toInt32 = v) (K : bw_go X d o nL ini rt cc (pc + 3) ls (.int v :: st) h Q) : bw_go X d o nL ini rt cc pc ls (st) h Q := by
  refine go_x hd (by first | exact Or.inl rfl | exact Or.inr rfl) ?_ K
  subst hv; rfl
theorem go_lconst {n : Fin 2} (v : Int64) (hd : decode cc pc = .ok (.lconst n, 1)) (hv : Int64.ofNat (n : Nat) = v) (K : bw_go X d o nL ini rt cc (pc + 1) ls (.long v :: st) h Q) : bw_go X d o nL ini rt cc pc ls (st) h Q := by
  refine go_x hd (by first | exact Or.inl rfl | exact Or.inr rfl) ?_ K
  subst hv; rfl
theorem go_null (hd : decode cc pc = .ok (.aconst_null, 1)) (K : bw_go X d o nL ini rt cc (pc + 1) ls (.null :: st) h Q) : bw_go X d o nL ini rt cc pc ls (st) h Q := by
  refine go_x hd (by first | exact Or.inl rfl | exact Or.inr rfl) ?_ K
  rfl
theorem go_ldc {ix : Nat} {v : Int32} (hd : decode cc pc = .ok (.ldc ix, 2)) (hc : bw_kc o ix = some (.int v)) (K : bw_go X d o nL ini rt cc (pc + 2) ls (.int v :: st) h Q) : bw_go X d o nL ini rt cc pc ls (st) h Q := by
  refine go_x hd (by first | exact Or.inl rfl | exact Or.inr rfl) ?_ K
  show (match bw_kc o ix with | some (.int v) => bq_cn 2 (.int v) | _ => fun _ _ _ _ => none) pc ls st h = _
  rw [hc]; rfl
theorem go_ldc_w {ix : Nat} {v : Int32} (hd : decode cc pc = .ok (.ldc_w ix, 3)) (hc : bw_kc o ix = some (.int v)) (K : bw_go X d o nL ini rt cc (pc + 3) ls (.int v :: st) h Q) : bw_go X d o nL ini rt cc pc ls (st) h Q := by
  refine go_x hd (by first | exact Or.inl rfl | exact Or.inr rfl) ?_ K
  show (match bw_kc o ix with | some (.int v) => bq_cn 3 (.int v) | _ => fun _ _ _ _ => none) pc ls st h = _
  rw [hc]; rfl
theorem go_ldc2_w {ix : Nat} {v : Int64} (hd : decode cc pc = .ok (.ldc2_w ix, 3)) (hc : bw_kc o ix = some (.long v)) (K : bw_go X d o nL ini rt cc (pc + 3) ls (.long v :: st) h Q) : bw_go X d o nL ini rt cc pc ls (st) h Q := by
  refine go_x hd (by first | exact Or.inl rfl | exact Or.inr rfl) ?_ K
  show (match bw_kc o ix with | some (.long v) => bq_cn 3 (.long v) | _ => fun _ _ _ _ => none) pc ls st h = _
  rw [hc]; rfl
theorem go_iadd {x y : Int32} (hd : decode cc pc = .ok (.iadd, 1)) (K : bw_go X d o nL ini rt cc (pc + 1) ls (.int (x + y) :: r) h Q) : bw_go X d o nL ini rt cc pc ls (.int y :: .int x :: r) h Q := by
  refine go_x hd (by first | exact Or.inl rfl | exact Or.inr rfl) ?_ K
  rfl
theorem go_isub {x y : Int32} (hd : decode cc pc = .ok (.isub, 1)) (K : bw_go X d o nL ini rt cc (pc + 1) ls (.int (x - y) :: r) h Q) : bw_go X d o nL ini rt cc pc ls (.int y :: .int x :: r) h Q := by
  refine go_x hd (by first | exact Or.inl rfl | exact Or.inr rfl) ?_ K
  rfl
theorem go_imul {x y : Int32} (hd : decode cc pc = .ok (.imul, 1)) (K : bw_go X d o nL ini rt cc (pc + 1) ls (.int (x * y) :: r) h Q) : bw_go X d o nL ini rt cc pc ls (.int y :: .int x :: r) h Q := by
  refine go_x hd (by first | exact Or.inl rfl | exact Or.inr rfl) ?_ K
  rfl
theorem go_iand {x y : Int32} (hd : decode cc pc = .ok (.iand, 1)) (K : bw_go X d o nL ini rt cc (pc + 1) ls (.int (x &&& y) :: r) h Q) : bw_go X d o nL ini rt cc pc ls (.int y :: .int x :: r) h Q := by
  refine go_x hd (by first | exact Or.inl rfl | exact Or.inr rfl) ?_ K
  rfl
theorem go_ior {x y : Int32} (hd : decode cc pc = .ok (.ior, 1)) (K : bw_go X d o nL ini rt cc (pc + 1) ls (.int (x ||| y) :: r) h Q) : bw_go X d o nL ini rt cc pc ls (.int y :: .int x :: r) h Q := by
  refine go_x hd (by first | exact Or.inl rfl | exact Or.inr rfl) ?_ K
  rfl
theorem go_ixor {x y : Int32} (hd : decode cc pc = .ok (.ixor, 1)) (K : bw_go X d o nL ini rt cc (pc + 1) ls (.int (x ^^^ y) :: r) h Q) : bw_go X d o nL ini rt cc pc ls (.int y :: .int x :: r) h Q := by
  refine go_x hd (by first | exact Or.inl rfl | exact Or.inr rfl) ?_ K
  rfl
theorem go_ishl {x y : Int32} (hd : decode cc pc = .ok (.ishl, 1)) (K : bw_go X d o nL ini rt cc (pc + 1) ls (.int (x <<< (y &&& 31)) :: r) h Q) : bw_go X d o nL ini rt cc pc ls (.int y :: .int x :: r) h Q := by
  refine go_x hd (by first | exact Or.inl rfl | exact Or.inr rfl) ?_ K
  rfl
theorem go_ishr {x y : Int32} (hd : decode cc pc = .ok (.ishr, 1)) (K : bw_go X d o nL ini rt cc (pc + 1) ls (.int (x >>> (y &&& 31)) :: r) h Q) : bw_go X d o nL ini rt cc pc ls (.int y :: .int x :: r) h Q := by
  refine go_x hd (by first | exact Or.inl rfl | exact Or.inr rfl) ?_ K
  rfl
theorem go_iushr {x y : Int32} (hd : decode cc pc = .ok (.iushr, 1)) (K : bw_go X d o nL ini rt cc (pc + 1) ls (.int ((x.toUInt32 >>> (y.toUInt32 &&& Int32.toUInt32 31)).toInt32) :: r) h Q) : bw_go X d o nL ini rt cc pc ls (.int y :: .int x :: r) h Q := by
  refine go_x hd (by first | exact Or.inl rfl | exact Or.inr rfl) ?_ K
  rfl
theorem go_idiv {x y : Int32} (hd : decode cc pc = .ok (.idiv, 1)) (hn : ¬ y = 0) (K : bw_go X d o nL ini rt cc (pc + 1) ls (.int (x / y) :: r) h Q) : bw_go X d o nL ini rt cc pc ls (.int y :: .int x :: r) h Q := by
  refine go_x hd (by first | exact Or.inl rfl | exact Or.inr rfl) ?_ K
  show bq_id _ pc ls (.int y :: .int x :: r) h = _
  unfold bq_id; (try simp only); rw [if_neg hn]
theorem go_irem {x y : Int32} (hd : decode cc pc = .ok (.irem, 1)) (hn : ¬ y = 0) (K : bw_go X d o nL ini rt cc (pc + 1) ls (.int (x - x / y * y) :: r) h Q) : bw_go X d o nL ini rt cc pc ls (.int y :: .int x :: r) h Q := by
  refine go_x hd (by first | exact Or.inl rfl | exact Or.inr rfl) ?_ K
  show bq_id (fun x y => x - x / y * y) pc ls (.int y :: .int x :: r) h = _
  unfold bq_id; (try simp only); rw [if_neg hn]
theorem go_ladd {x y : Int64} (hd : decode cc pc = .ok (.ladd, 1)) (K : bw_go X d o nL ini rt cc (pc + 1) ls (.long (x + y) :: r) h Q) : bw_go X d o nL ini rt cc pc ls (.long y :: .long x :: r) h Q := by
  refine go_x hd (by first | exact Or.inl rfl | exact Or.inr rfl) ?_ K
  rfl
theorem go_lsub {x y : Int64} (hd : decode cc pc = .ok (.lsub, 1)) (K : bw_go X d o nL ini rt cc (pc + 1) ls (.long (x - y) :: r) h Q) : bw_go X d o nL ini rt cc pc ls (.long y :: .long x :: r) h Q := by
  refine go_x hd (by first | exact Or.inl rfl | exact Or.inr rfl) ?_ K
  rfl
theorem go_lmul {x y : Int64} (hd : decode cc pc = .ok (.lmul, 1)) (K : bw_go X d o nL ini rt cc (pc + 1) ls (.long (x * y) :: r) h Q) : bw_go X d o nL ini rt cc pc ls (.long y :: .long x :: r) h Q := by
  refine go_x hd (by first | exact Or.inl rfl | exact Or.inr rfl) ?_ K
  rfl
theorem go_land {x y : Int64} (hd : decode cc pc = .ok (.land, 1)) (K : bw_go X d o nL ini rt cc (pc + 1) ls (.long (x &&& y) :: r) h Q) : bw_go X d o nL ini rt cc pc ls (.long y :: .long x :: r) h Q := by
  refine go_x hd (by first | exact Or.inl rfl | exact Or.inr rfl) ?_ K
  rfl
theorem go_lor {x y : Int64} (hd : decode cc pc = .ok (.lor, 1)) (K : bw_go X d o nL ini rt cc (pc + 1) ls (.long (x ||| y) :: r) h Q) : bw_go X d o nL ini rt cc pc ls (.long y :: .long x :: r) h Q := by
  refine go_x hd (by first | exact Or.inl rfl | exact Or.inr rfl) ?_ K
  rfl
theorem go_lxor {x y : Int64} (hd : decode cc pc = .ok (.lxor, 1)) (K : bw_go X d o nL ini rt cc (pc + 1) ls (.long (x ^^^ y) :: r) h Q) : bw_go X d o nL ini rt cc pc ls (.long y :: .long x :: r) h Q := by
  refine go_x hd (by first | exact Or.inl rfl | exact Or.inr rfl) ?_ K
  rfl
theorem go_ldiv {x y : Int64} (hd : decode cc pc = .ok (.ldiv, 1)) (hn : ¬ y = 0) (K : bw_go X d o nL ini rt cc (pc + 1) ls (.long (x / y) :: r) h Q) : bw_go X d o nL ini rt cc pc ls (.long y :: .long x :: r) h Q := by
  refine go_x hd (by first | exact Or.inl rfl | exact Or.inr rfl) ?_ K
  show bq_jd _ pc ls (.long y :: .long x :: r) h = _
  unfold bq_jd; (try simp only); rw [if_neg hn]
theorem go_lrem {x y : Int64} (hd : decode cc pc = .ok (.lrem, 1)) (hn : ¬ y = 0) (K : bw_go X d o nL ini rt cc (pc + 1) ls (.long (x - x / y * y) :: r) h Q) : bw_go X d o nL ini rt cc pc ls (.long y :: .long x :: r) h Q := by
  refine go_x hd (by first | exact Or.inl rfl | exact Or.inr rfl) ?_ K
  show bq_jd (fun x y => x - x / y * y) pc ls (.long y :: .long x :: r) h = _
  unfold bq_jd; (try simp only); rw [if_neg hn]
theorem go_lushr {x : Int64} {y : Int32} (hd : decode cc pc = .ok (.lushr, 1)) (K : bw_go X d o nL ini rt cc (pc + 1) ls (.long ((x.toUInt64 >>> (y.toInt64.toUInt64 &&& Int64.toUInt64 63)).toInt64) :: r) h Q) : bw_go X d o nL ini rt cc pc ls (.int y :: .long x :: r) h Q := by
  refine go_x hd (by first | exact Or.inl rfl | exact Or.inr rfl) ?_ K
  rfl
theorem go_ineg {x : Int32} (hd : decode cc pc = .ok (.ineg, 1)) (K : bw_go X d o nL ini rt cc (pc + 1) ls (.int (-x) :: r) h Q) : bw_go X d o nL ini rt cc pc ls (.int x :: r) h Q := by
  refine go_x hd (by first | exact Or.inl rfl | exact Or.inr rfl) ?_ K
  rfl
theorem go_i2l {x : Int32} (hd : decode cc pc = .ok (.i2l, 1)) (K : bw_go X d o nL ini rt cc (pc + 1) ls (.long x.toInt64 :: r) h Q) : bw_go X d o nL ini rt cc pc ls (.int x :: r) h Q := by
  refine go_x hd (by first | exact Or.inl rfl | exact Or.inr rfl) ?_ K
  rfl
theorem go_i2b {x : Int32} (hd : decode cc pc = .ok (.i2b, 1)) (K : bw_go X d o nL ini rt cc (pc + 1) ls (.int x.toInt8.toInt32 :: r) h Q) : bw_go X d o nL ini rt cc pc ls (.int x :: r) h Q := by
  refine go_x hd (by first | exact Or.inl rfl | exact Or.inr rfl) ?_ K
  rfl
theorem go_lneg {x : Int64} (hd : decode cc pc = .ok (.lneg, 1)) (K : bw_go X d o nL ini rt cc (pc + 1) ls (.long (-x) :: r) h Q) : bw_go X d o nL ini rt cc pc ls (.long x :: r) h Q := by
  refine go_x hd (by first | exact Or.inl rfl | exact Or.inr rfl) ?_ K
  rfl
theorem go_l2i {x : Int64} (hd : decode cc pc = .ok (.l2i, 1)) (K : bw_go X d o nL ini rt cc (pc + 1) ls (.int x.toInt32 :: r) h Q) : bw_go X d o nL ini rt cc pc ls (.long x :: r) h Q := by
  refine go_x hd (by first | exact Or.inl rfl | exact Or.inr rfl) ?_ K
  rfl
theorem go_lcmp {x y : Int64} (hd : decode cc pc = .ok (.lcmp, 1)) (K : bw_go X d o nL ini rt cc (pc + 1) ls (.int (lg_cmp x y) :: r) h Q) : bw_go X d o nL ini rt cc pc ls (.long y :: .long x :: r) h Q := by
  refine go_x hd (by first | exact Or.inl rfl | exact Or.inr rfl) ?_ K
  rfl
theorem go_dupI {x : Int32} (hd : decode cc pc = .ok (.dup, 1)) (K : bw_go X d o nL ini rt cc (pc + 1) ls (.int x :: .int x :: r) h Q) : bw_go X d o nL ini rt cc pc ls (.int x :: r) h Q := by
  refine go_x hd (by first | exact Or.inl rfl | exact Or.inr rfl) ?_ K
  rfl
theorem go_dupA {x : Nat} (hd : decode cc pc = .ok (.dup, 1)) (K : bw_go X d o nL ini rt cc (pc + 1) ls (.ref x :: .ref x :: r) h Q) : bw_go X d o nL ini rt cc pc ls (.ref x :: r) h Q := by
  refine go_x hd (by first | exact Or.inl rfl | exact Or.inr rfl) ?_ K
  rfl
theorem go_dup2 {x : Nat} {y : Int32} (hd : decode cc pc = .ok (.dup2, 1)) (K : bw_go X d o nL ini rt cc (pc + 1) ls (.int y :: .ref x :: .int y :: .ref x :: r) h Q) : bw_go X d o nL ini rt cc pc ls (.int y :: .ref x :: r) h Q := by
  refine go_x hd (by first | exact Or.inl rfl | exact Or.inr rfl) ?_ K
  rfl
theorem go_goto {off : Int} (hd : decode cc pc = .ok (.goto off, 3)) (hj : bw_jp pc off = some pc') (K : bw_go X d o nL ini rt cc pc' ls st h Q) : bw_go X d o nL ini rt cc pc ls st h Q := by
  refine go_x hd (Or.inl rfl) ?_ K
  show bq_go off pc ls st h = _
  unfold bq_go; rw [hj]
theorem go_if_eq {x : Int32} {off : Int} (hd : decode cc pc = .ok (.ifCond .eq off, 3)) (hj : bw_jp pc off = some pc') (K1 : x = 0 → bw_go X d o nL ini rt cc pc' ls r h Q) (K2 : ¬ (x = 0) → bw_go X d o nL ini rt cc (pc + 3) ls r h Q) : bw_go X d o nL ini rt cc pc ls (.int x :: r) h Q := by
  by_cases hc : x = 0
  · refine go_x hd (Or.inl rfl) ?_ (K1 hc)
    show bq_if (fun x => decide (x = 0)) off pc ls (.int x :: r) h = _
    unfold bq_if; (try simp only); rw [hj]; (try simp only); rw [if_pos (decide_eq_true hc)]
  · refine go_x hd (Or.inl rfl) ?_ (K2 hc)
    show bq_if (fun x => decide (x = 0)) off pc ls (.int x :: r) h = _
    unfold bq_if; (try simp only); rw [hj]; (try simp only); rw [if_neg (fun z => hc (of_decide_eq_true z))]
theorem go_if_ne {x : Int32} {off : Int} (hd : decode cc pc = .ok (.ifCond .ne off, 3)) (hj : bw_jp pc off = some pc') (K1 : ¬ x = 0 → bw_go X d o nL ini rt cc pc' ls r h Q) (K2 : ¬ (¬ x = 0) → bw_go X d o nL ini rt cc (pc + 3) ls r h Q) : bw_go X d o nL ini rt cc pc ls (.int x :: r) h Q := by
  by_cases hc : ¬ x = 0
  · refine go_x hd (Or.inl rfl) ?_ (K1 hc)
    show bq_if (fun x => decide (¬ x = 0)) off pc ls (.int x :: r) h = _
    unfold bq_if; (try simp only); rw [hj]; (try simp only); rw [if_pos (decide_eq_true hc)]
  · refine go_x hd (Or.inl rfl) ?_ (K2 hc)
    show bq_if (fun x => decide (¬ x = 0)) off pc ls (.int x :: r) h = _
    unfold bq_if; (try simp only); rw [hj]; (try simp only); rw [if_neg (fun z => hc (of_decide_eq_true z))]
theorem go_if_lt {x : Int32} {off : Int} (hd : decode cc pc = .ok (.ifCond .lt off, 3)) (hj : bw_jp pc off = some pc') (K1 : x < 0 → bw_go X d o nL ini rt cc pc' ls r h Q) (K2 : ¬ (x < 0) → bw_go X d o nL ini rt cc (pc + 3) ls r h Q) : bw_go X d o nL ini rt cc pc ls (.int x :: r) h Q := by
  by_cases hc : x < 0
  · refine go_x hd (Or.inl rfl) ?_ (K1 hc)
    show bq_if (fun x => decide (x < 0)) off pc ls (.int x :: r) h = _
    unfold bq_if; (try simp only); rw [hj]; (try simp only); rw [if_pos (decide_eq_true hc)]
  · refine go_x hd (Or.inl rfl) ?_ (K2 hc)
    show bq_if (fun x => decide (x < 0)) off pc ls (.int x :: r) h = _
    unfold bq_if; (try simp only); rw [hj]; (try simp only); rw [if_neg (fun z => hc (of_decide_eq_true z))]
theorem go_if_ge {x : Int32} {off : Int} (hd : decode cc pc = .ok (.ifCond .ge off, 3)) (hj : bw_jp pc off = some pc') (K1 : 0 ≤ x → bw_go X d o nL ini rt cc pc' ls r h Q) (K2 : ¬ (0 ≤ x) → bw_go X d o nL ini rt cc (pc + 3) ls r h Q) : bw_go X d o nL ini rt cc pc ls (.int x :: r) h Q := by
  by_cases hc : 0 ≤ x
  · refine go_x hd (Or.inl rfl) ?_ (K1 hc)
    show bq_if (fun x => decide (0 ≤ x)) off pc ls (.int x :: r) h = _
    unfold bq_if; (try simp only); rw [hj]; (try simp only); rw [if_pos (decide_eq_true hc)]
  · refine go_x hd (Or.inl rfl) ?_ (K2 hc)
    show bq_if (fun x => decide (0 ≤ x)) off pc ls (.int x :: r) h = _
    unfold bq_if; (try simp only); rw [hj]; (try simp only); rw [if_neg (fun z => hc (of_decide_eq_true z))]
theorem go_if_gt {x : Int32} {off : Int} (hd : decode cc pc = .ok (.ifCond .gt off, 3)) (hj : bw_jp pc off = some pc') (K1 : 0 < x → bw_go X d o nL ini rt cc pc' ls r h Q) (K2 : ¬ (0 < x) → bw_go X d o nL ini rt cc (pc + 3) ls r h Q) : bw_go X d o nL ini rt cc pc ls (.int x :: r) h Q := by
  by_cases hc : 0 < x
  · refine go_x hd (Or.inl rfl) ?_ (K1 hc)
    show bq_if (fun x => decide (0 < x)) off pc ls (.int x :: r) h = _
    unfold bq_if; (try simp only); rw [hj]; (try simp only); rw [if_pos (decide_eq_true hc)]
  · refine go_x hd (Or.inl rfl) ?_ (K2 hc)
    show bq_if (fun x => decide (0 < x)) off pc ls (.int x :: r) h = _
    unfold bq_if; (try simp only); rw [hj]; (try simp only); rw [if_neg (fun z => hc (of_decide_eq_true z))]
theorem go_if_le {x : Int32} {off : Int} (hd : decode cc pc = .ok (.ifCond .le off, 3)) (hj : bw_jp pc off = some pc') (K1 : x ≤ 0 → bw_go X d o nL ini rt cc pc' ls r h Q) (K2 : ¬ (x ≤ 0) → bw_go X d o nL ini rt cc (pc + 3) ls r h Q) : bw_go X d o nL ini rt cc pc ls (.int x :: r) h Q := by
  by_cases hc : x ≤ 0
  · refine go_x hd (Or.inl rfl) ?_ (K1 hc)
    show bq_if (fun x => decide (x ≤ 0)) off pc ls (.int x :: r) h = _
    unfold bq_if; (try simp only); rw [hj]; (try simp only); rw [if_pos (decide_eq_true hc)]
  · refine go_x hd (Or.inl rfl) ?_ (K2 hc)
    show bq_if (fun x => decide (x ≤ 0)) off pc ls (.int x :: r) h = _
    unfold bq_if; (try simp only); rw [hj]; (try simp only); rw [if_neg (fun z => hc (of_decide_eq_true z))]
theorem go_icmp_eq {x y : Int32} {off : Int} (hd : decode cc pc = .ok (.if_icmp .eq off, 3)) (hj : bw_jp pc off = some pc') (K1 : x = y → bw_go X d o nL ini rt cc pc' ls r h Q) (K2 : ¬ (x = y) → bw_go X d o nL ini rt cc (pc + 3) ls r h Q) : bw_go X d o nL ini rt cc pc ls (.int y :: .int x :: r) h Q := by
  by_cases hc : x = y
  · refine go_x hd (Or.inl rfl) ?_ (K1 hc)
    show bq_cp (fun x y => decide (x = y)) off pc ls (.int y :: .int x :: r) h = _
    unfold bq_cp; (try simp only); rw [hj]; (try simp only); rw [if_pos (decide_eq_true hc)]
  · refine go_x hd (Or.inl rfl) ?_ (K2 hc)
    show bq_cp (fun x y => decide (x = y)) off pc ls (.int y :: .int x :: r) h = _
    unfold bq_cp; (try simp only); rw [hj]; (try simp only); rw [if_neg (fun z => hc (of_decide_eq_true z))]
theorem go_icmp_ne {x y : Int32} {off : Int} (hd : decode cc pc = .ok (.if_icmp .ne off, 3)) (hj : bw_jp pc off = some pc') (K1 : ¬ x = y → bw_go X d o nL ini rt cc pc' ls r h Q) (K2 : ¬ (¬ x = y) → bw_go X d o nL ini rt cc (pc + 3) ls r h Q) : bw_go X d o nL ini rt cc pc ls (.int y :: .int x :: r) h Q := by
  by_cases hc : ¬ x = y
  · refine go_x hd (Or.inl rfl) ?_ (K1 hc)
    show bq_cp (fun x y => decide (¬ x = y)) off pc ls (.int y :: .int x :: r) h = _
    unfold bq_cp; (try simp only); rw [hj]; (try simp only); rw [if_pos (decide_eq_true hc)]
  · refine go_x hd (Or.inl rfl) ?_ (K2 hc)
    show bq_cp (fun x y => decide (¬ x = y)) off pc ls (.int y :: .int x :: r) h = _
    unfold bq_cp; (try simp only); rw [hj]; (try simp only); rw [if_neg (fun z => hc (of_decide_eq_true z))]
theorem go_icmp_lt {x y : Int32} {off : Int} (hd : decode cc pc = .ok (.if_icmp .lt off, 3)) (hj : bw_jp pc off = some pc') (K1 : x < y → bw_go X d o nL ini rt cc pc' ls r h Q) (K2 : ¬ (x < y) → bw_go X d o nL ini rt cc (pc + 3) ls r h Q) : bw_go X d o nL ini rt cc pc ls (.int y :: .int x :: r) h Q := by
  by_cases hc : x < y
  · refine go_x hd (Or.inl rfl) ?_ (K1 hc)
    show bq_cp (fun x y => decide (x < y)) off pc ls (.int y :: .int x :: r) h = _
    unfold bq_cp; (try simp only); rw [hj]; (try simp only); rw [if_pos (decide_eq_true hc)]
  · refine go_x hd (Or.inl rfl) ?_ (K2 hc)
    show bq_cp (fun x y => decide (x < y)) off pc ls (.int y :: .int x :: r) h = _
    unfold bq_cp; (try simp only); rw [hj]; (try simp only); rw [if_neg (fun z => hc (of_decide_eq_true z))]
theorem go_icmp_ge {x y : Int32} {off : Int} (hd : decode cc pc = .ok (.if_icmp .ge off, 3)) (hj : bw_jp pc off = some pc') (K1 : y ≤ x → bw_go X d o nL ini rt cc pc' ls r h Q) (K2 : ¬ (y ≤ x) → bw_go X d o nL ini rt cc (pc + 3) ls r h Q) : bw_go X d o nL ini rt cc pc ls (.int y :: .int x :: r) h Q := by
  by_cases hc : y ≤ x
  · refine go_x hd (Or.inl rfl) ?_ (K1 hc)
    show bq_cp (fun x y => decide (y ≤ x)) off pc ls (.int y :: .int x :: r) h = _
    unfold bq_cp; (try simp only); rw [hj]; (try simp only); rw [if_pos (decide_eq_true hc)]
  · refine go_x hd (Or.inl rfl) ?_ (K2 hc)
    show bq_cp (fun x y => decide (y ≤ x)) off pc ls (.int y :: .int x :: r) h = _
    unfold bq_cp; (try simp only); rw [hj]; (try simp only); rw [if_neg (fun z => hc (of_decide_eq_true z))]
theorem go_icmp_gt {x y : Int32} {off : Int} (hd : decode cc pc = .ok (.if_icmp .gt off, 3)) (hj : bw_jp pc off = some pc') (K1 : y < x → bw_go X d o nL ini rt cc pc' ls r h Q) (K2 : ¬ (y < x) → bw_go X d o nL ini rt cc (pc + 3) ls r h Q) : bw_go X d o nL ini rt cc pc ls (.int y :: .int x :: r) h Q := by
  by_cases hc : y < x
  · refine go_x hd (Or.inl rfl) ?_ (K1 hc)
    show bq_cp (fun x y => decide (y < x)) off pc ls (.int y :: .int x :: r) h = _
    unfold bq_cp; (try simp only); rw [hj]; (try simp only); rw [if_pos (decide_eq_true hc)]
  · refine go_x hd (Or.inl rfl) ?_ (K2 hc)
    show bq_cp (fun x y => decide (y < x)) off pc ls (.int y :: .int x :: r) h = _
    unfold bq_cp; (try simp only); rw [hj]; (try simp only); rw [if_neg (fun z => hc (of_decide_eq_true z))]
theorem go_icmp_le {x y : Int32} {off : Int} (hd : decode cc pc = .ok (.if_icmp .le off, 3)) (hj : bw_jp pc off = some pc') (K1 : x ≤ y → bw_go X d o nL ini rt cc pc' ls r h Q) (K2 : ¬ (x ≤ y) → bw_go X d o nL ini rt cc (pc + 3) ls r h Q) : bw_go X d o nL ini rt cc pc ls (.int y :: .int x :: r) h Q := by
  by_cases hc : x ≤ y
  · refine go_x hd (Or.inl rfl) ?_ (K1 hc)
    show bq_cp (fun x y => decide (x ≤ y)) off pc ls (.int y :: .int x :: r) h = _
    unfold bq_cp; (try simp only); rw [hj]; (try simp only); rw [if_pos (decide_eq_true hc)]
  · refine go_x hd (Or.inl rfl) ?_ (K2 hc)
    show bq_cp (fun x y => decide (x ≤ y)) off pc ls (.int y :: .int x :: r) h = _
    unfold bq_cp; (try simp only); rw [hj]; (try simp only); rw [if_neg (fun z => hc (of_decide_eq_true z))]
theorem go_ifb_eq {b : Bool} {off : Int} (hd : decode cc pc = .ok (.ifCond .eq off, 3)) (hj : bw_jp pc off = some pc') (K1 : b = false → bw_go X d o nL ini rt cc pc' ls r h Q) (K2 : b = true → bw_go X d o nL ini rt cc (pc + 3) ls r h Q) : bw_go X d o nL ini rt cc pc ls (.int (bi b) :: r) h Q := by
  refine go_if_eq hd hj (fun z => K1 ?_) (fun z => K2 ?_) <;> (cases b <;> first | rfl | (exact absurd z (by decide)) | (exact absurd (by decide) z))
theorem go_ifb_ne {b : Bool} {off : Int} (hd : decode cc pc = .ok (.ifCond .ne off, 3)) (hj : bw_jp pc off = some pc') (K1 : b = true → bw_go X d o nL ini rt cc pc' ls r h Q) (K2 : b = false → bw_go X d o nL ini rt cc (pc + 3) ls r h Q) : bw_go X d o nL ini rt cc pc ls (.int (bi b) :: r) h Q := by
  refine go_if_ne hd hj (fun z => K1 ?_) (fun z => K2 ?_) <;> (cases b <;> first | rfl | (exact absurd z (by decide)) | (exact absurd (by decide) z))
theorem go_nuN {off : Int} (hd : decode cc pc = .ok (.ifnull off, 3)) (hj : bw_jp pc off = some pc') (K : bw_go X d o nL ini rt cc pc' ls r h Q) : bw_go X d o nL ini rt cc pc ls (.null :: r) h Q := by
  refine go_x hd (Or.inl rfl) ?_ K
  show bq_nu off pc ls (.null :: r) h = _
  unfold bq_nu; (try simp only); rw [hj]
theorem go_nuR {off : Int} {x : Nat} (hd : decode cc pc = .ok (.ifnull off, 3)) (K : bw_go X d o nL ini rt cc (pc + 3) ls r h Q) : bw_go X d o nL ini rt cc pc ls (.ref x :: r) h Q := go_x hd (Or.inl rfl) rfl K
theorem go_nnR {off : Int} {x : Nat} (hd : decode cc pc = .ok (.ifnonnull off, 3)) (hj : bw_jp pc off = some pc') (K : bw_go X d o nL ini rt cc pc' ls r h Q) : bw_go X d o nL ini rt cc pc ls (.ref x :: r) h Q := by
  refine go_x hd (Or.inl rfl) ?_ K
  show bq_nn off pc ls (.ref x :: r) h = _
  unfold bq_nn; (try simp only); rw [hj]
theorem go_nnN {off : Int} (hd : decode cc pc = .ok (.ifnonnull off, 3)) (K : bw_go X d o nL ini rt cc (pc + 3) ls r h Q) : bw_go X d o nL ini rt cc pc ls (.null :: r) h Q := go_x hd (Or.inl rfl) rfl K
theorem go_tsOut {df lo hi : Int} {offs : Array Int} {len : Nat} {x : Int32} (hd : decode cc pc = .ok (.tableswitch df lo hi offs, len)) (hx : x.toInt < lo ∨ hi < x.toInt) (hj : bw_jp pc df = some pc') (K : bw_go X d o nL ini rt cc pc' ls r h Q) : bw_go X d o nL ini rt cc pc ls (.int x :: r) h Q := by
  refine go_x hd (Or.inr rfl) ?_ K
  show bq_ts df lo hi offs pc ls (.int x :: r) h = _
  unfold bq_ts; (try simp only); rw [if_pos hx, hj]
theorem go_tsIn {df lo hi : Int} {offs : Array Int} {len : Nat} {x : Int32} {off : Int} (hd : decode cc pc = .ok (.tableswitch df lo hi offs, len)) (h1 : lo ≤ x.toInt) (h2 : x.toInt ≤ hi) (ho : offs[(x.toInt - lo).toNat]? = some off) (hj : bw_jp pc off = some pc') (K : bw_go X d o nL ini rt cc pc' ls r h Q) : bw_go X d o nL ini rt cc pc ls (.int x :: r) h Q := by
  refine go_x hd (Or.inr rfl) ?_ K
  show bq_ts df lo hi offs pc ls (.int x :: r) h = _
  unfold bq_ts; (try simp only); rw [if_neg (by omega), ho]; (try simp only); rw [hj]
theorem go_gfi {ix c k a : Nat} (hd : decode cc pc = .ok (.getfield ix, 3)) (hf : bw_fl o ix = some (c, k)) (hty : bw_ty c k = .int) (ha : a < bw_n h) (hk : bw_k h a = .inl c) (K : bw_go X d o nL ini rt cc (pc + 3) ls (.int (bw_i h a k) :: r) h Q) : bw_go X d o nL ini rt cc pc ls (.ref a :: r) h Q := by
  refine go_x hd (Or.inl rfl) ?_ K
  show bq_gf (bw_fl o ix) pc ls (.ref a :: r) h = _
  rw [hf]; unfold bq_gf; (try simp only); rw [if_pos ⟨ha, hk⟩]; unfold bw_fv; rw [hty]
theorem go_gfl {ix c k a : Nat} (hd : decode cc pc = .ok (.getfield ix, 3)) (hf : bw_fl o ix = some (c, k)) (hty : bw_ty c k = .long) (ha : a < bw_n h) (hk : bw_k h a = .inl c) (K : bw_go X d o nL ini rt cc (pc + 3) ls (.long (bw_l h a k) :: r) h Q) : bw_go X d o nL ini rt cc pc ls (.ref a :: r) h Q := by
  refine go_x hd (Or.inl rfl) ?_ K
  show bq_gf (bw_fl o ix) pc ls (.ref a :: r) h = _
  rw [hf]; unfold bq_gf; (try simp only); rw [if_pos ⟨ha, hk⟩]; unfold bw_fv; rw [hty]
def bw_isR (t : FieldType) : Bool := match t with
  | .int => false
  | .long => false
  | _ => true
theorem go_gfr {ix c k a b : Nat} (hd : decode cc pc = .ok (.getfield ix, 3)) (hf : bw_fl o ix = some (c, k)) (hty : bw_isR (bw_ty c k) = true) (ha : a < bw_n h) (hk : bw_k h a = .inl c) (hb : bw_r h a k = some b) (K : bw_go X d o nL ini rt cc (pc + 3) ls (.ref b :: r) h Q) : bw_go X d o nL ini rt cc pc ls (.ref a :: r) h Q := by
  refine go_x hd (Or.inl rfl) ?_ K
  show bq_gf (bw_fl o ix) pc ls (.ref a :: r) h = _
  rw [hf]; unfold bq_gf; (try simp only); rw [if_pos ⟨ha, hk⟩]; unfold bw_fv bw_isR at *
  revert hty
  cases bw_ty c k <;> simp [hb, bw_rf]
theorem go_pfi {ix c k a : Nat} {x : Int32} (hd : decode cc pc = .ok (.putfield ix, 3)) (hf : bw_fl o ix = some (c, k)) (hty : bw_ty c k = .int) (ha : a < bw_n h) (hk : bw_k h a = .inl c) (hN : k < bw_N c) (hfin : (bw_T c k).2.2.2 = false ∨ ((bw_T c k).2.2.2 = true ∧ ini = true ∧ c = o)) (K : bw_go X d o nL ini rt cc (pc + 3) ls r (bw_si h a k x) Q) : bw_go X d o nL ini rt cc pc ls (.int x :: .ref a :: r) h Q := by
  refine go_x hd (Or.inl rfl) ?_ K
  show bq_pf o ini (bw_fl o ix) pc ls (.int x :: .ref a :: r) h = _
  rw [hf]; unfold bq_pf; simp only
  rcases hfin with hf1 | hf1
  · rw [if_pos ⟨ha, hk, hN, hf1⟩, hty]
  · rw [if_neg (fun z => by rw [hf1.1] at z; exact Bool.noConfusion z.2.2.2), if_pos ⟨ha, hk, hN, hf1⟩, hty]
theorem go_pfl {ix c k a : Nat} {x : Int64} (hd : decode cc pc = .ok (.putfield ix, 3)) (hf : bw_fl o ix = some (c, k)) (hty : bw_ty c k = .long) (ha : a < bw_n h) (hk : bw_k h a = .inl c) (hN : k < bw_N c) (hfin : (bw_T c k).2.2.2 = false) (K : bw_go X d o nL ini rt cc (pc + 3) ls r (bw_sl h a k x) Q) : bw_go X d o nL ini rt cc pc ls (.long x :: .ref a :: r) h Q := by
  refine go_x hd (Or.inl rfl) ?_ K
  show bq_pf o ini (bw_fl o ix) pc ls (.long x :: .ref a :: r) h = _
  rw [hf]; unfold bq_pf; simp only
  rw [if_pos ⟨ha, hk, hN, hfin⟩, hty]
theorem go_pfr {ix c k a x : Nat} (hd : decode cc pc = .ok (.putfield ix, 3)) (hf : bw_fl o ix = some (c, k)) (hty : (∃ n, bw_ty c k = .object n) ∨ ∃ n, bw_ty c k = .array n) (ha : a < bw_n h) (hk : bw_k h a = .inl c) (hN : k < bw_N c) (hfin : (bw_T c k).2.2.2 = true ∧ ini = true ∧ c = o) (K : bw_go X d o nL ini rt cc (pc + 3) ls r (bw_sr h a k (some x)) Q) : bw_go X d o nL ini rt cc pc ls (.ref x :: .ref a :: r) h Q := by
  refine go_x hd (Or.inl rfl) ?_ K
  show bq_pf o ini (bw_fl o ix) pc ls (.ref x :: .ref a :: r) h = _
  rw [hf]; unfold bq_pf; simp only
  rw [if_neg (fun z => by rw [hfin.1] at z; exact Bool.noConfusion z.2.2.2), if_pos ⟨ha, hk, hN, hfin⟩]
  rcases hty with ⟨n, hn⟩ | ⟨n, hn⟩ <;> rw [hn]
theorem go_gs {ix : Nat} (hd : decode cc pc = .ok (.getstatic ix, 3)) (hs : bw_st o ix = true) (K : bw_go X d o nL ini rt cc (pc + 3) ls (.retAddr 0 :: st) h Q) : bw_go X d o nL ini rt cc pc ls st h Q := by
  refine go_x hd (Or.inl rfl) ?_ K
  show bq_gs (bw_st o ix) pc ls st h = _
  unfold bq_gs; rw [if_pos hs]
theorem go_la {i : Int32} (hd : decode cc pc = .ok (.laload, 1)) (h1 : 0 ≤ i.toInt ∧ i.toInt < 6) (K : bw_go X d o nL ini rt cc (pc + 1) ls (.long (bw_set6 i.toNatClampNeg) :: r) h Q) : bw_go X d o nL ini rt cc pc ls (.int i :: .retAddr 0 :: r) h Q := by
  refine go_x hd (Or.inl rfl) ?_ K
  show bq_la pc ls (.int i :: .retAddr 0 :: r) h = _
  unfold bq_la; (try simp only); rw [if_pos h1]
theorem go_len0 (hd : decode cc pc = .ok (.arraylength, 1)) (K : bw_go X d o nL ini rt cc (pc + 1) ls (.int 6 :: r) h Q) : bw_go X d o nL ini rt cc pc ls (.retAddr 0 :: r) h Q := go_x hd (Or.inl rfl) rfl K
theorem go_len1 (hd : decode cc pc = .ok (.arraylength, 1)) (K : bw_go X d o nL ini rt cc (pc + 1) ls (.int (nI X.1) :: r) h Q) : bw_go X d o nL ini rt cc pc ls (.retAddr 1 :: r) h Q := go_x hd (Or.inl rfl) rfl K
theorem go_len {a N : Nat} {ty : FieldType} (hd : decode cc pc = .ok (.arraylength, 1)) (hk : bw_k h a = .inr (ty, N)) (ha : a < bw_n h) (hty : ty = .int ∨ ty = .long ∨ ty = .object RX1) (K : bw_go X d o nL ini rt cc (pc + 1) ls (.int (nI N) :: r) h Q) : bw_go X d o nL ini rt cc pc ls (.ref a :: r) h Q := by
  refine go_x hd (Or.inl rfl) ?_ K
  show bq_len X pc ls (.ref a :: r) h = _
  unfold bq_len; (try simp only); rw [hk]; (try simp only); rw [if_pos ⟨ha, hty⟩]; rfl
theorem go_ia1 {i : Int32} (hd : decode cc pc = .ok (.iaload, 1)) (h1 : 0 ≤ i.toInt ∧ i.toInt < X.1) (K : bw_go X d o nL ini rt cc (pc + 1) ls (.int (X.2 i.toNatClampNeg) :: r) h Q) : bw_go X d o nL ini rt cc pc ls (.int i :: .retAddr 1 :: r) h Q := by
  refine go_x hd (Or.inl rfl) ?_ K
  show bq_ia X pc ls (.int i :: .retAddr 1 :: r) h = _
  unfold bq_ia; (try simp only); rw [if_pos h1]
theorem go_ia {a N : Nat} {i : Int32} (hd : decode cc pc = .ok (.iaload, 1)) (hk : bw_k h a = .inr (.int, N)) (ha : a < bw_n h) (h1 : 0 ≤ i.toInt ∧ i.toInt < N) (K : bw_go X d o nL ini rt cc (pc + 1) ls (.int (bw_i h a i.toNatClampNeg) :: r) h Q) : bw_go X d o nL ini rt cc pc ls (.int i :: .ref a :: r) h Q := by
  refine go_x hd (Or.inl rfl) ?_ K
  show bq_ia X pc ls (.int i :: .ref a :: r) h = _
  unfold bq_ia; (try simp only); rw [hk]; (try simp only); rw [if_pos ⟨ha, trivial, h1.1, h1.2⟩]
theorem go_aaR {a N b : Nat} {i : Int32} (hd : decode cc pc = .ok (.aaload, 1)) (hk : bw_k h a = .inr (.object RX1, N)) (ha : a < bw_n h) (h1 : 0 ≤ i.toInt ∧ i.toInt < N) (hb : bw_r h a i.toNatClampNeg = some b) (K : bw_go X d o nL ini rt cc (pc + 1) ls (.ref b :: r) h Q) : bw_go X d o nL ini rt cc pc ls (.int i :: .ref a :: r) h Q := by
  refine go_x hd (Or.inl rfl) ?_ K
  show bq_aa pc ls (.int i :: .ref a :: r) h = _
  unfold bq_aa; (try simp only); rw [hk]; (try simp only); rw [if_pos ⟨ha, trivial, h1.1, h1.2⟩, hb]; rfl
theorem go_aaN {a N : Nat} {i : Int32} (hd : decode cc pc = .ok (.aaload, 1)) (hk : bw_k h a = .inr (.object RX1, N)) (ha : a < bw_n h) (h1 : 0 ≤ i.toInt ∧ i.toInt < N) (hb : bw_r h a i.toNatClampNeg = none) (K : bw_go X d o nL ini rt cc (pc + 1) ls (.null :: r) h Q) : bw_go X d o nL ini rt cc pc ls (.int i :: .ref a :: r) h Q := by
  refine go_x hd (Or.inl rfl) ?_ K
  show bq_aa pc ls (.int i :: .ref a :: r) h = _
  unfold bq_aa; (try simp only); rw [hk]; (try simp only); rw [if_pos ⟨ha, trivial, h1.1, h1.2⟩, hb]; rfl
theorem go_ist {a N : Nat} {i x : Int32} (hd : decode cc pc = .ok (.iastore, 1)) (hk : bw_k h a = .inr (.int, N)) (ha : a < bw_n h) (h1 : 0 ≤ i.toInt ∧ i.toInt < N) (K : bw_go X d o nL ini rt cc (pc + 1) ls r (bw_si h a i.toNatClampNeg x) Q) : bw_go X d o nL ini rt cc pc ls (.int x :: .int i :: .ref a :: r) h Q := by
  refine go_x hd (Or.inl rfl) ?_ K
  show bq_ist pc ls (.int x :: .int i :: .ref a :: r) h = _
  unfold bq_ist; (try simp only); rw [hk]; (try simp only); rw [if_pos ⟨ha, trivial, h1.1, h1.2⟩]
theorem go_ast {a N x : Nat} {i : Int32} (hd : decode cc pc = .ok (.aastore, 1)) (hk : bw_k h a = .inr (.object RX1, N)) (ha : a < bw_n h) (hx : x < bw_n h) (hkx : bw_k h x = .inl 1) (h1 : 0 ≤ i.toInt ∧ i.toInt < N) (K : bw_go X d o nL ini rt cc (pc + 1) ls r (bw_sr h a i.toNatClampNeg (some x)) Q) : bw_go X d o nL ini rt cc pc ls (.ref x :: .int i :: .ref a :: r) h Q := by
  refine go_x hd (Or.inl rfl) ?_ K
  show bq_ast pc ls (.ref x :: .int i :: .ref a :: r) h = _
  unfold bq_ast; (try simp only); rw [hk]; (try simp only); rw [if_pos ⟨ha, trivial, hx, hkx, h1.1, h1.2⟩]
theorem go_new {ix c : Nat} (hd : decode cc pc = .ok (.new ix, 3)) (hc : bw_cl o ix = some c) (h9 : c < 9) (K : bw_go X d o nL ini rt cc (pc + 3) ls (.ref (bw_n h) :: st) (bw_nw h (.inl c) (bw_N c)) Q) : bw_go X d o nL ini rt cc pc ls st h Q := by
  refine go_x hd (Or.inl rfl) ?_ K
  show bq_new (bw_cl o ix) pc ls st h = _
  rw [hc]; unfold bq_new; (try simp only); rw [if_pos h9]
theorem go_naI {n : Int32} (hd : decode cc pc = .ok (.newarray .int, 2)) (h1 : 0 ≤ n.toInt ∧ n.toInt < 60000) (K : bw_go X d o nL ini rt cc (pc + 2) ls (.ref (bw_n h) :: r) (bw_nw h (.inr (.int, n.toNatClampNeg)) n.toNatClampNeg) Q) : bw_go X d o nL ini rt cc pc ls (.int n :: r) h Q := by
  refine go_x hd (Or.inl rfl) ?_ K
  show bq_na .int pc ls (.int n :: r) h = _
  unfold bq_na; (try simp only); rw [if_pos h1]
theorem go_an {n : Int32} {ix : Nat} (hd : decode cc pc = .ok (.anewarray ix, 3)) (hb : bw_an o ix = true) (h1 : 0 ≤ n.toInt ∧ n.toInt < 60000) (K : bw_go X d o nL ini rt cc (pc + 3) ls (.ref (bw_n h) :: r) (bw_nw h (.inr (.object RX1, n.toNatClampNeg)) n.toNatClampNeg) Q) : bw_go X d o nL ini rt cc pc ls (.int n :: r) h Q := by
  refine go_x hd (Or.inl rfl) ?_ K
  show bq_an (bw_an o ix) pc ls (.int n :: r) h = _
  unfold bq_an; (try simp only); rw [if_pos ⟨hb, h1⟩]
theorem go_oi {a ix : Nat} (hd : decode cc pc = .ok (.invokespecial ix, 3)) (hb : bw_oi o ix = true) (hs : (r.map fun v => v.category).sum ≤ 8) (K : bw_go X d o nL ini rt cc (pc + 3) ls r h Q) : bw_go X d o nL ini rt cc pc ls (.ref a :: r) h Q := by
  refine go_x hd (Or.inl rfl) ?_ K
  show bq_oi (bw_oi o ix) pc ls (.ref a :: r) h = _
  unfold bq_oi; (try simp only); rw [if_pos ⟨hb, hs⟩]
theorem go_max {x y : Int32} {ix : Nat} (hd : decode cc pc = .ok (.invokestatic ix, 3)) (hb : bw_mx o ix = some true) (hs : (r.map fun v => v.category).sum ≤ 8) (K : bw_go X d o nL ini rt cc (pc + 3) ls (.int (if x < y then y else x) :: r) h Q) : bw_go X d o nL ini rt cc pc ls (.int y :: .int x :: r) h Q := by
  refine go_x hd (Or.inl rfl) ?_ K
  show (match bw_mx o ix with | some b => bq_mx b | none => bq_ac (bw_ac o ix)) pc ls (.int y :: .int x :: r) h = _
  rw [hb]; (try simp only); unfold bq_mx; (try simp only); rw [if_pos hs]; rfl
theorem go_min {x y : Int32} {ix : Nat} (hd : decode cc pc = .ok (.invokestatic ix, 3)) (hb : bw_mx o ix = some false) (hs : (r.map fun v => v.category).sum ≤ 8) (K : bw_go X d o nL ini rt cc (pc + 3) ls (.int (if y < x then y else x) :: r) h Q) : bw_go X d o nL ini rt cc pc ls (.int y :: .int x :: r) h Q := by
  refine go_x hd (Or.inl rfl) ?_ K
  show (match bw_mx o ix with | some b => bq_mx b | none => bq_ac (bw_ac o ix)) pc ls (.int y :: .int x :: r) h = _
  rw [hb]; (try simp only); unfold bq_mx; (try simp only); rw [if_pos hs]; rfl
theorem go_ac {a a0 ix n0 n1 : Nat} {n dp sp : Int32} (hd : decode cc pc = .ok (.invokestatic ix, 3)) (hmx : bw_mx o ix = none) (hb : bw_ac o ix = true) (hs : (r.map fun v => v.category).sum ≤ 8) (hk0 : bw_k h a0 = .inr (.int, n0)) (hk : bw_k h a = .inr (.int, n1)) (ha0 : a0 < bw_n h) (ha : a < bw_n h) (hh : 0 ≤ sp.toInt ∧ 0 ≤ dp.toInt ∧ 0 ≤ n.toInt ∧ sp.toInt + n.toInt ≤ n0 ∧ dp.toInt + n.toInt ≤ n1) (K : bw_go X d o nL ini rt cc (pc + 3) ls r (bw_sa h a (va_cpy (bw_i h a0) (bw_i h a) sp.toNatClampNeg dp.toNatClampNeg n.toNatClampNeg)) Q) : bw_go X d o nL ini rt cc pc ls (.int n :: .int dp :: .ref a :: .int sp :: .ref a0 :: r) h Q := by
  refine go_x hd (Or.inl rfl) ?_ K
  show (match bw_mx o ix with | some b => bq_mx b | none => bq_ac (bw_ac o ix)) pc ls (.int n :: .int dp :: .ref a :: .int sp :: .ref a0 :: r) h = _
  rw [hmx]; (try simp only); unfold bq_ac; (try simp only); rw [hk0, hk]; (try simp only); rw [if_pos ⟨hb, hs, ha0, ha, trivial, trivial, hh⟩]
theorem go_iret {v : Int32} {ty : FieldType} (hd : decode cc pc = .ok (.ireturn, 1)) (hrt : rt = some ty) (hn : narrow ty (.int v) = .int v) (hQ : Q (some (.int v)) h) : bw_go X d o nL ini rt cc pc ls [.int v] h Q := by
  refine go_e hd (Or.inl rfl) rfl ?_ hQ
  subst hrt
  unfold bw_e; (try simp only); rw [if_pos hn]
theorem go_lret {v : Int64} (hd : decode cc pc = .ok (.lreturn, 1)) (hrt : rt = some .long) (hQ : Q (some (.long v)) h) : bw_go X d o nL ini rt cc pc ls [.long v] h Q := by
  refine go_e hd (Or.inl rfl) rfl ?_ hQ
  subst hrt
  rfl
theorem go_aret {a : Nat} {C : String} (hd : decode cc pc = .ok (.areturn, 1)) (hrt : rt = some (.object C)) (hQ : Q (some (.ref a)) h) : bw_go X d o nL ini rt cc pc ls [.ref a] h Q := by
  refine go_e hd (Or.inl rfl) rfl ?_ hQ
  subst hrt
  rfl
theorem go_aretN {C : String} (hd : decode cc pc = .ok (.areturn, 1)) (hrt : rt = some (.object C)) (hQ : Q (some .null) h) : bw_go X d o nL ini rt cc pc ls [.null] h Q := by
  refine go_e hd (Or.inl rfl) rfl ?_ hQ
  subst hrt
  rfl
theorem go_vret (hd : decode cc pc = .ok (.return_, 1)) (hrt : rt = none) (hQ : Q none h) : bw_go X d o nL ini rt cc pc ls [] h Q := by
  refine go_e hd (Or.inl rfl) rfl ?_ hQ
  subst hrt
  rfl
theorem go_cs {ix kd : Nat} {M : bw_M} {as : List Value} (d' : Nat) (hd : decode cc pc = .ok (.invokestatic ix, 3)) (hmx : bw_mx o ix = none) (hac : bw_ac o ix = false) (hm : bw_mt o ix = some (kd, M)) (hkd : kd ≤ 1) (hst : st = as.reverse ++ r) (hn : M.2.2.2.2.2 = as.length) (hs : (r.map fun v => v.category).sum ≤ 8) (hl : (lg_sl as).length ≤ M.2.2.2.1) (h30 : M.2.2.2.1 ≤ 30) (hdd : d' ≤ d) (K : bw_me X d' M false as h (fun v h1 => bw_go X (d + 1) o nL ini rt cc (pc + 3) ls (v.toList ++ r) h1 Q)) : bw_go X (d + 1) o nL ini rt cc pc ls st h Q := by
  refine go_c (M := M) (im := false) (as := as) (r := r) hd (Or.inl rfl) ?_ ?_ ?_ (bw_me_mono hdd K)
  · show (match bw_mx o ix with | some b => bq_mx b | none => bq_ac (bw_ac o ix)) pc ls st h = _
    rw [hmx, hac]; (try simp only); unfold bq_ac
    repeat' split
    all_goals first | rfl | (rename_i z; exact absurd z.1 (by decide))
  · rfl
  · subst hst
    have e1 : ((as.reverse ++ r).take as.length).reverse = as := by rw [← List.length_reverse, List.take_left, List.reverse_reverse]
    have e2 : (as.reverse ++ r).drop as.length = r := by rw [← List.length_reverse, List.drop_left]
    unfold bw_c; (try simp only); rw [hm]; (try simp only); rw [hn, e1, e2, if_pos ⟨hkd, by rw [List.length_append, List.length_reverse]; omega, hs, hl, h30⟩]
theorem go_cv {ix kd a : Nat} {M : bw_M} {as : List Value} (d' : Nat) (hd : decode cc pc = .ok (.invokevirtual ix, 3)) (hm : bw_mt o ix = some (kd, M)) (hkd : kd = 2 ∨ kd = 3) (hst : st = as.reverse ++ .ref a :: r) (hn : M.2.2.2.2.2 = as.length) (ha : a < bw_n h) (hk : bw_k h a = .inl M.1) (h9 : M.1 < 9) (hs : (r.map fun v => v.category).sum ≤ 8) (hl : (lg_sl (.ref a :: as)).length ≤ M.2.2.2.1) (h30 : M.2.2.2.1 ≤ 30) (hdd : d' ≤ d) (K : bw_me X d' M false (.ref a :: as) h (fun v h1 => bw_go X (d + 1) o nL ini rt cc (pc + 3) ls (v.toList ++ r) h1 Q)) : bw_go X (d + 1) o nL ini rt cc pc ls st h Q := by
  refine go_c (M := M) (im := false) (as := .ref a :: as) (r := r) hd (Or.inl rfl) rfl rfl ?_ (bw_me_mono hdd K)
  subst hst
  have e1 : ((as.reverse ++ .ref a :: r).take as.length).reverse = as := by rw [← List.length_reverse, List.take_left, List.reverse_reverse]
  have e2 : (as.reverse ++ .ref a :: r).drop as.length = .ref a :: r := by rw [← List.length_reverse, List.drop_left]
  unfold bw_c; (try simp only); rw [hm]; (try simp only); rw [hn, e1, e2]; (try simp only); rw [if_pos ⟨hkd, by rw [List.length_append, List.length_reverse]; omega, ha, hk, h9, hs, hl, h30⟩]
theorem go_ci {ix kd a : Nat} {M : bw_M} {as : List Value} (d' : Nat) (hd : decode cc pc = .ok (.invokespecial ix, 3)) (hoi : bw_oi o ix = false) (hm : bw_mt o ix = some (kd, M)) (hkd : kd = 4 ∨ kd = 5) (hst : st = as.reverse ++ .ref a :: r) (hn : M.2.2.2.2.2 = as.length) (hnm : M.2.1.name = "<init>") (hrt : M.2.2.2.2.1 = none) (hs : (r.map fun v => v.category).sum ≤ 8) (hl : (lg_sl (.ref a :: as)).length ≤ M.2.2.2.1) (h30 : M.2.2.2.1 ≤ 30) (hdd : d' ≤ d) (K : bw_me X d' M true (.ref a :: as) h (fun v h1 => bw_go X (d + 1) o nL ini rt cc (pc + 3) ls (v.toList ++ r) h1 Q)) : bw_go X (d + 1) o nL ini rt cc pc ls st h Q := by
  refine go_c (M := M) (im := true) (as := .ref a :: as) (r := r) hd (Or.inl rfl) ?_ rfl ?_ (bw_me_mono hdd K)
  · show bq_oi (bw_oi o ix) pc ls st h = _
    rw [hoi]; unfold bq_oi
    repeat' split
    all_goals first | rfl | (rename_i z; exact absurd z.1 (by decide))
  subst hst
  have e1 : ((as.reverse ++ .ref a :: r).take as.length).reverse = as := by rw [← List.length_reverse, List.take_left, List.reverse_reverse]
  have e2 : (as.reverse ++ .ref a :: r).drop as.length = .ref a :: r := by rw [← List.length_reverse, List.drop_left]
  unfold bw_c; (try simp only); rw [hm]; (try simp only); rw [hn, e1, e2]; (try simp only); rw [if_pos ⟨hkd, by rw [List.length_append, List.length_reverse]; omega, hnm, hrt, hs, hl, h30⟩]
end GO
end
section
/-! the small machine with its places renamed: it runs the same -/
def sg_v (σ : Nat → Nat) (v : Value) : Value := match v with
  | .ref a => .ref (σ a)
  | .retAddr a => .retAddr a
  | .int x => .int x
  | .long x => .long x
  | .float x => .float x
  | .double x => .double x
  | .null => .null
def sg_l (σ : Nat → Nat) (ls : bw_L) : bw_L := ls.map (fun q => (q.1, sg_v σ q.2))
def sg_h (σ τ : Nat → Nat) (h : bw_H) : bw_H := (h.1, (fun q => bw_k h (τ q)), (fun q => bw_i h (τ q)), (fun q => bw_l h (τ q)), fun q j => (bw_r h (τ q) j).map σ)
def sg_c (σ τ : Nat → Nat) (k : bw_C) : bw_C := (k.1, sg_l σ k.2.1, k.2.2.1.map (sg_v σ), sg_h σ τ k.2.2.2)
def sg_p (σ τ : Nat → Nat) (n : Nat) : Prop := (∀ a, τ (σ a) = a) ∧ (∀ a, σ (τ a) = a) ∧ (∀ a, n ≤ a → σ a = a) ∧ ∀ a, n ≤ a → τ a = a
theorem sg_ps {σ τ : Nat → Nat} {n : Nat} (p : sg_p σ τ n) : sg_p τ σ n := ⟨p.2.1, p.1, p.2.2.2, p.2.2.1⟩
theorem sg_lt {σ τ : Nat → Nat} {n m a : Nat} (p : sg_p σ τ n) (hm : n ≤ m) (ha : a < m) : σ a < m := by
  refine Nat.lt_of_not_le (fun z => ?_)
  have h1 := p.2.2.2 (σ a) (by omega)
  rw [p.1] at h1
  omega
theorem sg_cat (σ : Nat → Nat) (v : Value) : (sg_v σ v).category = v.category := by cases v <;> rfl
theorem sg_sum (σ : Nat → Nat) (r : List Value) : ((r.map (sg_v σ)).map fun v => v.category).sum = (r.map fun v => v.category).sum := by
  rw [List.map_map]
  congr 1
  exact List.map_congr_left fun v _ => sg_cat σ v
theorem sg_lg (σ : Nat → Nat) (i : Nat) : ∀ ls : bw_L, bw_lg (sg_l σ ls) i = (bw_lg ls i).map (sg_v σ)
  | [] => rfl
  | a :: l => by
    have ih := sg_lg σ i l
    unfold bw_lg sg_l at ih ⊢
    rw [List.map_cons, List.find?_cons, List.find?_cons]
    show Option.map _ (match a.1 == i with | true => _ | false => _) = _
    cases a.1 == i with
    | false => exact ih
    | true => rfl
theorem sg_s1 (σ : Nat → Nat) (ls : bw_L) (i : Nat) (v : Value) : sg_l σ (bw_s1 ls i v) = bw_s1 (sg_l σ ls) i (sg_v σ v) := by
  unfold sg_l bw_s1
  rw [List.map_cons, List.filter_map]
  congr 2
  refine List.filter_congr fun q _ => ?_
  simp only [Function.comp, sg_cat]
theorem sg_s2 (σ : Nat → Nat) (ls : bw_L) (i : Nat) (v : Value) : sg_l σ (bw_s2 ls i v) = bw_s2 (sg_l σ ls) i (sg_v σ v) := by
  unfold sg_l bw_s2
  rw [List.map_cons, List.filter_map]
  congr 2
  refine List.filter_congr fun q _ => ?_
  simp only [Function.comp, sg_cat]
theorem sg_lgsl (σ : Nat → Nat) : ∀ as : List Value, (lg_sl (as.map (sg_v σ))).length = (lg_sl as).length
  | [] => rfl
  | v :: as => by
    have ih := sg_lgsl σ as
    unfold lg_sl at ih ⊢
    rw [List.map_cons, List.flatMap_cons, List.flatMap_cons, List.length_append, List.length_append, ih, sg_cat]
    split <;> rfl
theorem sg_args (σ : Nat → Nat) : ∀ (as : List Value) (i : Nat), lv_args i (as.map (sg_v σ)) = sg_l σ (lv_args i as)
  | [], _ => rfl
  | v :: as, i => by
    show (i, sg_v σ v) :: lv_args (if (sg_v σ v).category = 2 then i + 2 else i + 1) (as.map (sg_v σ)) = (i, sg_v σ v) :: sg_l σ (lv_args (if v.category = 2 then i + 2 else i + 1) as)
    rw [sg_cat, sg_args σ as]
theorem sg_vv {σ τ : Nat → Nat} (e : ∀ a, τ (σ a) = a) (v : Value) : sg_v τ (sg_v σ v) = v := by
  cases v with
  | ref a => show Value.ref (τ (σ a)) = _; rw [e]
  | _ => rfl
theorem sg_ss {σ τ : Nat → Nat} (e : ∀ a, τ (σ a) = a) : ∀ st : List Value, (st.map (sg_v σ)).map (sg_v τ) = st
  | [] => rfl
  | v :: st => by rw [List.map_cons, List.map_cons, sg_vv e, sg_ss e st]
theorem sg_ll {σ τ : Nat → Nat} (e : ∀ a, τ (σ a) = a) : ∀ ls : bw_L, sg_l τ (sg_l σ ls) = ls
  | [] => rfl
  | q :: ls => by
    have ih := sg_ll e ls
    show (q.1, sg_v τ (sg_v σ q.2)) :: sg_l τ (sg_l σ ls) = _
    rw [sg_vv e, ih]
theorem sg_hh {σ τ : Nat → Nat} (e : ∀ a, τ (σ a) = a) (h : bw_H) : sg_h τ σ (sg_h σ τ h) = h := by
  obtain ⟨h1, h2, h3, h4, h5⟩ := h
  have e5 : (fun q j => ((h5 (τ (σ q)) j).map σ).map τ) = h5 := by
    funext q j
    rw [e q]
    cases h5 q j with
    | none => rfl
    | some x => show some (τ (σ x)) = some x; rw [e x]
  have e2 : (fun q => h2 (τ (σ q))) = h2 := by funext q; rw [e q]
  have e3 : (fun q => h3 (τ (σ q))) = h3 := by funext q; rw [e q]
  have e4 : (fun q => h4 (τ (σ q))) = h4 := by funext q; rw [e q]
  show (h1, (fun q => h2 (τ (σ q))), (fun q => h3 (τ (σ q))), (fun q => h4 (τ (σ q))), (fun q j => ((h5 (τ (σ q)) j).map σ).map τ)) = _
  rw [e2, e3, e4, e5]
section SG
variable {σ τ : Nat → Nat} {n0 : Nat}
theorem sg_up {α : Type} (p : sg_p σ τ n0) (f : Nat → α) (a : Nat) (v : α) : (fun q => bw_up f a v (τ q)) = bw_up (fun q => f (τ q)) (σ a) v := by
  funext q
  unfold bw_up
  by_cases h : q = σ a
  · rw [if_pos h, if_pos (by rw [h, p.1])]
  · rw [if_neg h, if_neg (fun z => h (by rw [← z, p.2.1]))]
theorem sg_up2 {α : Type} (p : sg_p σ τ n0) (f : Nat → Nat → α) (a k : Nat) (v : α) : (fun q => bw_up2 f a k v (τ q)) = bw_up2 (fun q => f (τ q)) (σ a) k v := by
  unfold bw_up2
  rw [sg_up p]
  show _ = bw_up _ _ (bw_up (f (τ (σ a))) k v)
  rw [p.1]
theorem sg_up2r (p : sg_p σ τ n0) (f : Nat → Nat → Option Nat) (a k : Nat) (v : Option Nat) : (fun q j => (bw_up2 f a k v (τ q) j).map σ) = bw_up2 (fun q j => (f (τ q) j).map σ) (σ a) k (v.map σ) := by
  funext q j
  unfold bw_up2 bw_up
  by_cases h : q = σ a
  · rw [if_pos h, if_pos (by rw [h, p.1])]
    show Option.map σ (if j = k then v else f a j) = if j = k then Option.map σ v else (f (τ (σ a)) j).map σ
    rw [p.1]
    split <;> rfl
  · rw [if_neg h, if_neg (fun z => h (by rw [← z, p.2.1]))]
theorem sg_upn (p : sg_p σ τ n0) (f : Nat → Nat → Option Nat) (a : Nat) : (fun q j => (bw_up f a (fun _ => none) (τ q) j).map σ) = bw_up (fun q j => (f (τ q) j).map σ) (σ a) (fun _ => none) := by
  funext q j
  unfold bw_up
  by_cases h : q = σ a
  · rw [if_pos h, if_pos (by rw [h, p.1])]
    rfl
  · rw [if_neg h, if_neg (fun z => h (by rw [← z, p.2.1]))]
theorem sg_si (p : sg_p σ τ n0) (h : bw_H) (a k : Nat) (x : Int32) : sg_h σ τ (bw_si h a k x) = bw_si (sg_h σ τ h) (σ a) k x := by
  show (h.1, _, (fun q => bw_up2 h.2.2.1 a k x (τ q)), _, _) = (h.1, _, bw_up2 (fun q => h.2.2.1 (τ q)) (σ a) k x, _, _)
  rw [sg_up2 p]
  rfl
theorem sg_sl (p : sg_p σ τ n0) (h : bw_H) (a k : Nat) (x : Int64) : sg_h σ τ (bw_sl h a k x) = bw_sl (sg_h σ τ h) (σ a) k x := by
  show (h.1, _, _, (fun q => bw_up2 h.2.2.2.1 a k x (τ q)), _) = (h.1, _, _, bw_up2 (fun q => h.2.2.2.1 (τ q)) (σ a) k x, _)
  rw [sg_up2 p]
  rfl
theorem sg_sr (p : sg_p σ τ n0) (h : bw_H) (a k : Nat) (x : Option Nat) : sg_h σ τ (bw_sr h a k x) = bw_sr (sg_h σ τ h) (σ a) k (x.map σ) := by
  show (h.1, _, _, _, fun q j => (bw_up2 h.2.2.2.2 a k x (τ q) j).map σ) = (h.1, _, _, _, bw_up2 (fun q j => (h.2.2.2.2 (τ q) j).map σ) (σ a) k (x.map σ))
  rw [sg_up2r p]
  rfl
theorem sg_sa (p : sg_p σ τ n0) (h : bw_H) (a : Nat) (f : Nat → Int32) : sg_h σ τ (bw_sa h a f) = bw_sa (sg_h σ τ h) (σ a) f := by
  show (h.1, _, (fun q => bw_up h.2.2.1 a f (τ q)), _, _) = (h.1, _, bw_up (fun q => h.2.2.1 (τ q)) (σ a) f, _, _)
  rw [sg_up p]
  rfl
theorem sg_nw (p : sg_p σ τ n0) (h : bw_H) (hn : n0 ≤ bw_n h) (kd : bw_K) (N : Nat) : sg_h σ τ (bw_nw h kd N) = bw_nw (sg_h σ τ h) kd N := by
  have e : σ h.1.1 = h.1.1 := p.2.2.1 _ hn
  show ((h.1.1 + 1, h.1.2 + N), (fun q => bw_up h.2.1 h.1.1 kd (τ q)), (fun q => bw_up h.2.2.1 h.1.1 (fun _ => 0) (τ q)), (fun q => bw_up h.2.2.2.1 h.1.1 (fun _ => 0) (τ q)), fun q j => (bw_up h.2.2.2.2 h.1.1 (fun _ => none) (τ q) j).map σ) = ((h.1.1 + 1, h.1.2 + N), bw_up (fun q => h.2.1 (τ q)) h.1.1 kd, bw_up (fun q => h.2.2.1 (τ q)) h.1.1 (fun _ => 0), bw_up (fun q => h.2.2.2.1 (τ q)) h.1.1 (fun _ => 0), bw_up (fun q j => (h.2.2.2.2 (τ q) j).map σ) h.1.1 (fun _ => none))
  rw [sg_up p, sg_up p, sg_up p, sg_upn p, e]
theorem sg_k (p : sg_p σ τ n0) (h : bw_H) (a : Nat) : bw_k (sg_h σ τ h) (σ a) = bw_k h a := by
  show bw_k h (τ (σ a)) = _
  rw [p.1]
theorem sg_i (p : sg_p σ τ n0) (h : bw_H) (a : Nat) : bw_i (sg_h σ τ h) (σ a) = bw_i h a := by
  show bw_i h (τ (σ a)) = _
  rw [p.1]
theorem sg_lo (p : sg_p σ τ n0) (h : bw_H) (a : Nat) : bw_l (sg_h σ τ h) (σ a) = bw_l h a := by
  show bw_l h (τ (σ a)) = _
  rw [p.1]
theorem sg_r (p : sg_p σ τ n0) (h : bw_H) (a j : Nat) : bw_r (sg_h σ τ h) (σ a) j = (bw_r h a j).map σ := by
  show (bw_r h (τ (σ a)) j).map σ = _
  rw [p.1]
theorem sg_rf (r : Option Nat) : bw_rf (r.map σ) = sg_v σ (bw_rf r) := by cases r <;> rfl
theorem sg_fv (p : sg_p σ τ n0) (h : bw_H) (a c k : Nat) : bw_fv (sg_h σ τ h) (σ a) c k = sg_v σ (bw_fv h a c k) := by
  unfold bw_fv
  rw [sg_i p, sg_lo p, sg_r p, sg_rf]
  split <;> rfl
/-- an instruction does the same with its places renamed -/
def sg_q (σ τ : Nat → Nat) (n0 : Nat) (f : Nat → bw_L → List Value → bw_H → Option bw_C) : Prop := ∀ (pc : Nat) (ls : bw_L) (st : List Value) (h : bw_H) (k : bw_C), n0 ≤ bw_n h → f pc ls st h = some k → f pc (sg_l σ ls) (st.map (sg_v σ)) (sg_h σ τ h) = some (sg_c σ τ k)
theorem sq_il {w k : Nat} : sg_q σ τ n0 (bq_il w k) := by
  intro pc ls st h r hn hq
  unfold bq_il at hq ⊢
  rw [sg_lg]
  split at hq
  · rename_i x hx
    cases hq
    rw [hx]
    rfl
  · cases hq
theorem sq_ll {w k : Nat} : sg_q σ τ n0 (bq_ll w k) := by
  intro pc ls st h r hn hq
  unfold bq_ll at hq ⊢
  rw [sg_lg]
  split at hq
  · rename_i x hx
    cases hq
    rw [hx]
    rfl
  · cases hq
theorem sq_al {w k : Nat} : sg_q σ τ n0 (bq_al w k) := by
  intro pc ls st h r hn hq
  unfold bq_al at hq ⊢
  rw [sg_lg]
  split at hq
  · rename_i x hx
    cases hq
    rw [hx]
    rfl
  · rename_i x hx
    cases hq
    rw [hx]
    rfl
  · rename_i hx
    cases hq
    rw [hx]
    rfl
  · cases hq
theorem sq_is {nL w k : Nat} : sg_q σ τ n0 (bq_is nL w k) := by
  intro pc ls st h r hn hq
  unfold bq_is at hq
  split at hq
  · rename_i x r
    split at hq
    · rename_i hk
      cases hq
      show (if k < nL then some (pc + w, bw_s1 (sg_l σ ls) k (.int x), r.map (sg_v σ), sg_h σ τ h) else none) = some (pc + w, sg_l σ (bw_s1 ls k (.int x)), r.map (sg_v σ), sg_h σ τ h)
      rw [if_pos hk, sg_s1]
      rfl
    · cases hq
  · cases hq
theorem sq_ls {nL w k : Nat} : sg_q σ τ n0 (bq_ls nL w k) := by
  intro pc ls st h r hn hq
  unfold bq_ls at hq
  split at hq
  · rename_i x r
    split at hq
    · rename_i hk
      cases hq
      show (if k + 1 < nL then some (pc + w, bw_s2 (sg_l σ ls) k (.long x), r.map (sg_v σ), sg_h σ τ h) else none) = some (pc + w, sg_l σ (bw_s2 ls k (.long x)), r.map (sg_v σ), sg_h σ τ h)
      rw [if_pos hk, sg_s2]
      rfl
    · cases hq
  · cases hq
theorem sq_as {nL w k : Nat} : sg_q σ τ n0 (bq_as nL w k) := by
  intro pc ls st h r hn hq
  unfold bq_as at hq
  split at hq
  · rename_i x r
    split at hq
    · rename_i hk
      cases hq
      show (if k < nL then some (pc + w, bw_s1 (sg_l σ ls) k (.ref (σ x)), r.map (sg_v σ), sg_h σ τ h) else none) = some (pc + w, sg_l σ (bw_s1 ls k (.ref x)), r.map (sg_v σ), sg_h σ τ h)
      rw [if_pos hk, sg_s1]
      rfl
    · cases hq
  · rename_i r
    split at hq
    · rename_i hk
      cases hq
      show (if k < nL then some (pc + w, bw_s1 (sg_l σ ls) k .null, r.map (sg_v σ), sg_h σ τ h) else none) = some (pc + w, sg_l σ (bw_s1 ls k .null), r.map (sg_v σ), sg_h σ τ h)
      rw [if_pos hk, sg_s1]
      rfl
    · cases hq
  · cases hq
theorem sq_ic {nL k : Nat} {n : Int} : sg_q σ τ n0 (bq_ic nL k n) := by
  intro pc ls st h r hn hq
  unfold bq_ic at hq ⊢
  rw [sg_lg]
  split at hq
  · rename_i x hx
    split at hq
    · rename_i hk
      cases hq
      rw [hx]
      show (if k < nL then some (pc + 3, bw_s1 (sg_l σ ls) k (.int (x + Int32.ofInt n)), st.map (sg_v σ), sg_h σ τ h) else none) = some (pc + 3, sg_l σ (bw_s1 ls k (.int (x + Int32.ofInt n))), st.map (sg_v σ), sg_h σ τ h)
      rw [if_pos hk, sg_s1]
      rfl
    · cases hq
  · cases hq
theorem sq_ii {f : Int32 → Int32 → Int32} : sg_q σ τ n0 (bq_ii f) := by
  intro pc ls st h r hn hq
  unfold bq_ii at hq
  repeat' split at hq
  all_goals first | (cases hq; rfl) | cases hq
theorem sq_jj {f : Int64 → Int64 → Int64} : sg_q σ τ n0 (bq_jj f) := by
  intro pc ls st h r hn hq
  unfold bq_jj at hq
  repeat' split at hq
  all_goals first | (cases hq; rfl) | cases hq
theorem sq_i1 {f : Int32 → Value} (hf : ∀ x, sg_v σ (f x) = f x) : sg_q σ τ n0 (bq_i1 f) := by
  intro pc ls st h r hn hq
  unfold bq_i1 at hq
  split at hq
  · rename_i x r
    cases hq
    show some (pc + 1, sg_l σ ls, f x :: r.map (sg_v σ), sg_h σ τ h) = some (pc + 1, sg_l σ ls, sg_v σ (f x) :: r.map (sg_v σ), sg_h σ τ h)
    rw [hf]
  · cases hq
theorem sq_j1 {f : Int64 → Value} (hf : ∀ x, sg_v σ (f x) = f x) : sg_q σ τ n0 (bq_j1 f) := by
  intro pc ls st h r hn hq
  unfold bq_j1 at hq
  split at hq
  · rename_i x r
    cases hq
    show some (pc + 1, sg_l σ ls, f x :: r.map (sg_v σ), sg_h σ τ h) = some (pc + 1, sg_l σ ls, sg_v σ (f x) :: r.map (sg_v σ), sg_h σ τ h)
    rw [hf]
  · cases hq
theorem sq_ju : sg_q σ τ n0 (bq_ju) := by
  intro pc ls st h r hn hq
  unfold bq_ju at hq
  repeat' split at hq
  all_goals first | (cases hq; rfl) | cases hq
theorem sq_cm : sg_q σ τ n0 (bq_cm) := by
  intro pc ls st h r hn hq
  unfold bq_cm at hq
  repeat' split at hq
  all_goals first | (cases hq; rfl) | cases hq
theorem sq_cn {w : Nat} {v : Value} (hv : sg_v σ v = v) : sg_q σ τ n0 (bq_cn w v) := by
  intro pc ls st h r hn hq
  unfold bq_cn at hq
  cases hq
  show some (pc + w, sg_l σ ls, v :: st.map (sg_v σ), sg_h σ τ h) = some (pc + w, sg_l σ ls, sg_v σ v :: st.map (sg_v σ), sg_h σ τ h)
  rw [hv]
theorem sq_id {f : Int32 → Int32 → Int32} : sg_q σ τ n0 (bq_id f) := by
  intro pc ls st h r hn hq
  unfold bq_id at hq
  split at hq
  · rename_i y x r
    split at hq
    · cases hq
    · rename_i hk
      cases hq
      show (if y = 0 then none else some (pc + 1, sg_l σ ls, Value.int (f x y) :: r.map (sg_v σ), sg_h σ τ h)) = some (pc + 1, sg_l σ ls, .int (f x y) :: r.map (sg_v σ), sg_h σ τ h)
      rw [if_neg hk]
  · cases hq
theorem sq_jd {f : Int64 → Int64 → Int64} : sg_q σ τ n0 (bq_jd f) := by
  intro pc ls st h r hn hq
  unfold bq_jd at hq
  split at hq
  · rename_i y x r
    split at hq
    · cases hq
    · rename_i hk
      cases hq
      show (if y = 0 then none else some (pc + 1, sg_l σ ls, Value.long (f x y) :: r.map (sg_v σ), sg_h σ τ h)) = some (pc + 1, sg_l σ ls, .long (f x y) :: r.map (sg_v σ), sg_h σ τ h)
      rw [if_neg hk]
  · cases hq
theorem sq_du : sg_q σ τ n0 (bq_du) := by
  intro pc ls st h r hn hq
  unfold bq_du at hq
  split at hq
  · rename_i v r
    split at hq
    · rename_i hk
      cases hq
      show (if (sg_v σ v).category = 1 then some (pc + 1, sg_l σ ls, sg_v σ v :: sg_v σ v :: r.map (sg_v σ), sg_h σ τ h) else none) = _
      rw [if_pos (by rw [sg_cat]; exact hk)]
      rfl
    · cases hq
  · cases hq
theorem sq_d2 : sg_q σ τ n0 (bq_d2) := by
  intro pc ls st h r hn hq
  unfold bq_d2 at hq
  split at hq
  · rename_i v w r
    split at hq
    · rename_i hk
      cases hq
      show (if (sg_v σ v).category = 1 ∧ (sg_v σ w).category = 1 then some (pc + 1, sg_l σ ls, sg_v σ v :: sg_v σ w :: sg_v σ v :: sg_v σ w :: r.map (sg_v σ), sg_h σ τ h) else none) = _
      rw [if_pos (by rw [sg_cat, sg_cat]; exact hk)]
      rfl
    · cases hq
  · cases hq
theorem sq_go {off : Int} : sg_q σ τ n0 (bq_go off) := by
  intro pc ls st h r hn hq
  unfold bq_go at hq
  split at hq
  · rename_i q hj
    cases hq
    unfold bq_go
    rw [hj]
    rfl
  · cases hq
theorem sq_if {d : Int32 → Bool} {off : Int} : sg_q σ τ n0 (bq_if d off) := by
  intro pc ls st h r hn hq
  unfold bq_if at hq
  split at hq
  · rename_i x r
    split at hq
    · rename_i q hj
      cases hq
      show (match bw_jp pc off with | some q => some (if d x = true then q else pc + 3, sg_l σ ls, r.map (sg_v σ), sg_h σ τ h) | none => none) = _
      rw [hj]
      rfl
    · cases hq
  · cases hq
theorem sq_cp {d : Int32 → Int32 → Bool} {off : Int} : sg_q σ τ n0 (bq_cp d off) := by
  intro pc ls st h r hn hq
  unfold bq_cp at hq
  split at hq
  · rename_i y x r
    split at hq
    · rename_i q hj
      cases hq
      show (match bw_jp pc off with | some q => some (if d x y = true then q else pc + 3, sg_l σ ls, r.map (sg_v σ), sg_h σ τ h) | none => none) = _
      rw [hj]
      rfl
    · cases hq
  · cases hq
theorem sq_nu {off : Int} : sg_q σ τ n0 (bq_nu off) := by
  intro pc ls st h r hn hq
  unfold bq_nu at hq
  split at hq
  · rename_i r
    split at hq
    · rename_i q hj
      cases hq
      show (match bw_jp pc off with | some q => some (q, sg_l σ ls, r.map (sg_v σ), sg_h σ τ h) | none => none) = _
      rw [hj]
      rfl
    · cases hq
  · cases hq; rfl
  · cases hq
theorem sq_nn {off : Int} : sg_q σ τ n0 (bq_nn off) := by
  intro pc ls st h r hn hq
  unfold bq_nn at hq
  split at hq
  · rename_i a r
    split at hq
    · rename_i q hj
      cases hq
      show (match bw_jp pc off with | some q => some (q, sg_l σ ls, r.map (sg_v σ), sg_h σ τ h) | none => none) = _
      rw [hj]
      rfl
    · cases hq
  · cases hq; rfl
  · cases hq
theorem sq_ts {df lo hi : Int} {offs : Array Int} : sg_q σ τ n0 (bq_ts df lo hi offs) := by
  intro pc ls st h r hn hq
  unfold bq_ts at hq
  split at hq
  · rename_i x r
    split at hq
    · rename_i hc
      split at hq
      · rename_i q hj
        cases hq
        show (if x.toInt < lo ∨ hi < x.toInt then (match bw_jp pc df with | some q => some (q, sg_l σ ls, r.map (sg_v σ), sg_h σ τ h) | none => none) else _) = _
        rw [if_pos hc, hj]
        rfl
      · cases hq
    · rename_i hc
      split at hq
      · rename_i off ho
        split at hq
        · rename_i q hj
          cases hq
          show (if x.toInt < lo ∨ hi < x.toInt then _ else (match offs[(x.toInt - lo).toNat]? with | some off => (match bw_jp pc off with | some q => some (q, sg_l σ ls, r.map (sg_v σ), sg_h σ τ h) | none => none) | none => none)) = _
          rw [if_neg hc, ho]
          show (match bw_jp pc off with | some q => some (q, sg_l σ ls, r.map (sg_v σ), sg_h σ τ h) | none => none) = _
          rw [hj]
          rfl
        · cases hq
      · cases hq
  · cases hq
theorem sq_gf (p : sg_p σ τ n0) {f : Option (Nat × Nat)} : sg_q σ τ n0 (bq_gf f) := by
  intro pc ls st h r hn hq
  unfold bq_gf at hq
  split at hq
  · rename_i c k a r
    split at hq
    · rename_i hh
      cases hq
      show (if σ a < bw_n h ∧ bw_k (sg_h σ τ h) (σ a) = .inl c then some (pc + 3, sg_l σ ls, bw_fv (sg_h σ τ h) (σ a) c k :: r.map (sg_v σ), sg_h σ τ h) else none) = _
      rw [if_pos ⟨sg_lt p hn hh.1, by rw [sg_k p]; exact hh.2⟩, sg_fv p]
      rfl
    · cases hq
  · cases hq
theorem sq_pf (p : sg_p σ τ n0) {o : Nat} {ini : Bool} {f : Option (Nat × Nat)} : sg_q σ τ n0 (bq_pf o ini f) := by
  intro pc ls st h r hn hq
  unfold bq_pf at hq ⊢
  split at hq
  · rename_i c k v a r
    have pl : a < bw_n h → σ a < bw_n (sg_h σ τ h) := fun z => sg_lt p hn z
    simp only [List.map_cons]
    show (if σ a < bw_n (sg_h σ τ h) ∧ bw_k (sg_h σ τ h) (σ a) = .inl c ∧ k < bw_N c ∧ (bw_T c k).2.2.2 = false then _ else if σ a < bw_n (sg_h σ τ h) ∧ bw_k (sg_h σ τ h) (σ a) = .inl c ∧ k < bw_N c ∧ (bw_T c k).2.2.2 = true ∧ ini = true ∧ c = o then _ else none) = _
    rw [sg_k p]
    split at hq
    · rename_i hh
      rw [if_pos ⟨pl hh.1, hh.2⟩]
      split at hq
      · rename_i x e1
        cases hq
        rw [e1]
        show some (pc + 3, sg_l σ ls, r.map (sg_v σ), bw_si (sg_h σ τ h) (σ a) k x) = some (pc + 3, sg_l σ ls, r.map (sg_v σ), sg_h σ τ (bw_si h a k x))
        rw [sg_si p]
      · rename_i x e1
        cases hq
        rw [e1]
        show some (pc + 3, sg_l σ ls, r.map (sg_v σ), bw_sl (sg_h σ τ h) (σ a) k x) = some (pc + 3, sg_l σ ls, r.map (sg_v σ), sg_h σ τ (bw_sl h a k x))
        rw [sg_sl p]
      · cases hq
    · rename_i hh0
      have hh1 : ¬ (σ a < bw_n (sg_h σ τ h) ∧ bw_k h a = .inl c ∧ k < bw_N c ∧ (bw_T c k).2.2.2 = false) := fun z => hh0 ⟨by
        have z1 := sg_lt (sg_ps p) (a := σ a) (m := bw_n h) hn z.1
        rw [p.1] at z1; exact z1, z.2⟩
      rw [if_neg hh1]
      split at hq
      · rename_i hh
        rw [if_pos ⟨pl hh.1, hh.2⟩]
        split at hq
        · rename_i x e1
          cases hq
          rw [e1]
          show some (pc + 3, sg_l σ ls, r.map (sg_v σ), bw_si (sg_h σ τ h) (σ a) k x) = some (pc + 3, sg_l σ ls, r.map (sg_v σ), sg_h σ τ (bw_si h a k x))
          rw [sg_si p]
        · rename_i n x e1
          cases hq
          rw [e1]
          show some (pc + 3, sg_l σ ls, r.map (sg_v σ), bw_sr (sg_h σ τ h) (σ a) k (some (σ x))) = some (pc + 3, sg_l σ ls, r.map (sg_v σ), sg_h σ τ (bw_sr h a k (some x)))
          rw [sg_sr p]
          rfl
        · rename_i n x e1
          cases hq
          rw [e1]
          show some (pc + 3, sg_l σ ls, r.map (sg_v σ), bw_sr (sg_h σ τ h) (σ a) k (some (σ x))) = some (pc + 3, sg_l σ ls, r.map (sg_v σ), sg_h σ τ (bw_sr h a k (some x)))
          rw [sg_sr p]
          rfl
        · cases hq
      · cases hq
  · cases hq
theorem sq_gs {b : Bool} : sg_q σ τ n0 (bq_gs b) := by
  intro pc ls st h r hn hq
  unfold bq_gs at hq
  split at hq
  · rename_i hb
    cases hq
    unfold bq_gs
    rw [if_pos hb]
    rfl
  · cases hq
theorem sq_la : sg_q σ τ n0 (bq_la) := by
  intro pc ls st h r hn hq
  unfold bq_la at hq
  split at hq
  · rename_i i r
    split at hq
    · rename_i hc
      cases hq
      show (if 0 ≤ i.toInt ∧ i.toInt < 6 then some (pc + 1, sg_l σ ls, .long (bw_set6 i.toNatClampNeg) :: r.map (sg_v σ), sg_h σ τ h) else none) = _
      rw [if_pos hc]
      rfl
    · cases hq
  · cases hq
theorem sq_ia (p : sg_p σ τ n0) {X : Nat × (Nat → Int32)} : sg_q σ τ n0 (bq_ia X) := by
  intro pc ls st h r hn hq
  unfold bq_ia at hq
  split at hq
  · rename_i i r
    split at hq
    · rename_i hc
      cases hq
      show (if 0 ≤ i.toInt ∧ i.toInt < X.1 then some (pc + 1, sg_l σ ls, .int (X.2 i.toNatClampNeg) :: r.map (sg_v σ), sg_h σ τ h) else none) = _
      rw [if_pos hc]
      rfl
    · cases hq
  · rename_i i a r
    split at hq
    · rename_i ty N hk
      split at hq
      · rename_i hh
        cases hq
        show (match bw_k (sg_h σ τ h) (σ a) with | .inr (ty, N) => if σ a < bw_n h ∧ ty = FieldType.int ∧ 0 ≤ i.toInt ∧ i.toInt < N then some (pc + 1, sg_l σ ls, Value.int (bw_i (sg_h σ τ h) (σ a) i.toNatClampNeg) :: r.map (sg_v σ), sg_h σ τ h) else none | _ => none) = _
        rw [sg_k p, hk]
        show (if σ a < bw_n h ∧ ty = .int ∧ 0 ≤ i.toInt ∧ i.toInt < N then _ else none) = _
        rw [if_pos ⟨sg_lt p hn hh.1, hh.2⟩, sg_i p]
        rfl
      · cases hq
    · cases hq
  · cases hq
theorem sq_ba (p : sg_p σ τ n0) : sg_q σ τ n0 (bq_ba) := by
  intro pc ls st h r hn hq
  unfold bq_ba at hq
  cases hq
theorem sq_aa (p : sg_p σ τ n0) : sg_q σ τ n0 (bq_aa) := by
  intro pc ls st h r hn hq
  unfold bq_aa at hq
  split at hq
  · rename_i i a r
    split at hq
    · rename_i ty N hk
      split at hq
      · rename_i hh
        cases hq
        show (match bw_k (sg_h σ τ h) (σ a) with | .inr (ty, N) => if σ a < bw_n h ∧ ty = FieldType.object RX1 ∧ 0 ≤ i.toInt ∧ i.toInt < N then some (pc + 1, sg_l σ ls, bw_rf (bw_r (sg_h σ τ h) (σ a) i.toNatClampNeg) :: r.map (sg_v σ), sg_h σ τ h) else none | _ => none) = _
        rw [sg_k p, hk]
        show (if σ a < bw_n h ∧ ty = .object RX1 ∧ 0 ≤ i.toInt ∧ i.toInt < N then _ else none) = _
        rw [if_pos ⟨sg_lt p hn hh.1, hh.2⟩, sg_r p, sg_rf]
        rfl
      · cases hq
    · cases hq
  · cases hq
theorem sq_ist (p : sg_p σ τ n0) : sg_q σ τ n0 (bq_ist) := by
  intro pc ls st h r hn hq
  unfold bq_ist at hq
  split at hq
  · rename_i x i a r
    split at hq
    · rename_i ty N hk
      split at hq
      · rename_i hh
        cases hq
        show (match bw_k (sg_h σ τ h) (σ a) with | .inr (ty, N) => if σ a < bw_n h ∧ ty = FieldType.int ∧ 0 ≤ i.toInt ∧ i.toInt < N then some (pc + 1, sg_l σ ls, r.map (sg_v σ), bw_si (sg_h σ τ h) (σ a) i.toNatClampNeg (x)) else none | _ => none) = some (pc + 1, sg_l σ ls, r.map (sg_v σ), sg_h σ τ (bw_si h a i.toNatClampNeg (x)))
        rw [sg_k p, hk]
        show (if σ a < bw_n h ∧ ty = .int ∧ 0 ≤ i.toInt ∧ i.toInt < N then _ else none) = _
        rw [if_pos ⟨sg_lt p hn hh.1, hh.2⟩, sg_si p]
      · cases hq
    · cases hq
  · cases hq
theorem sq_bst (p : sg_p σ τ n0) : sg_q σ τ n0 (bq_bst) := by
  intro pc ls st h r hn hq
  unfold bq_bst at hq
  cases hq
theorem sq_ast (p : sg_p σ τ n0) : sg_q σ τ n0 (bq_ast) := by
  intro pc ls st h r hn hq
  unfold bq_ast at hq
  split at hq
  · rename_i x i a r
    split at hq
    · rename_i ty N hk
      split at hq
      · rename_i hh
        cases hq
        show (match bw_k (sg_h σ τ h) (σ a) with | .inr (ty, N) => if σ a < bw_n h ∧ ty = FieldType.object RX1 ∧ σ x < bw_n h ∧ bw_k (sg_h σ τ h) (σ x) = .inl 1 ∧ 0 ≤ i.toInt ∧ i.toInt < N then some (pc + 1, sg_l σ ls, r.map (sg_v σ), bw_sr (sg_h σ τ h) (σ a) i.toNatClampNeg (some (σ x))) else none | _ => none) = some (pc + 1, sg_l σ ls, r.map (sg_v σ), sg_h σ τ (bw_sr h a i.toNatClampNeg (some x)))
        rw [sg_k p, sg_k p, hk]
        show (if σ a < bw_n h ∧ ty = .object RX1 ∧ σ x < bw_n h ∧ bw_k h x = .inl 1 ∧ 0 ≤ i.toInt ∧ i.toInt < N then _ else none) = _
        rw [if_pos ⟨sg_lt p hn hh.1, hh.2.1, sg_lt p hn hh.2.2.1, hh.2.2.2⟩, sg_sr p]
        rfl
      · cases hq
    · cases hq
  · cases hq
theorem sq_len (p : sg_p σ τ n0) {X : Nat × (Nat → Int32)} : sg_q σ τ n0 (bq_len X) := by
  intro pc ls st h r hn hq
  unfold bq_len at hq
  split at hq
  · cases hq; rfl
  · cases hq; rfl
  · rename_i a r
    split at hq
    · rename_i ty N hk
      split at hq
      · rename_i hh
        cases hq
        show (match bw_k (sg_h σ τ h) (σ a) with | .inr (ty, N) => if σ a < bw_n h ∧ (ty = FieldType.int ∨ ty = FieldType.long ∨ ty = FieldType.object RX1) then some (pc + 1, sg_l σ ls, Value.int (Int32.ofNat N) :: r.map (sg_v σ), sg_h σ τ h) else none | _ => none) = _
        rw [sg_k p, hk]
        show (if σ a < bw_n h ∧ (ty = FieldType.int ∨ ty = FieldType.long ∨ ty = FieldType.object RX1) then _ else none) = _
        rw [if_pos ⟨sg_lt p hn hh.1, hh.2⟩]
        rfl
      · cases hq
    · cases hq
  · cases hq
theorem sq_new (p : sg_p σ τ n0) {c : Option Nat} : sg_q σ τ n0 (bq_new c) := by
  intro pc ls st h r hn hq
  unfold bq_new at hq
  split at hq
  · rename_i c
    split at hq
    · rename_i hc
      cases hq
      show (if c < 9 then some (pc + 3, sg_l σ ls, .ref (bw_n h) :: st.map (sg_v σ), bw_nw (sg_h σ τ h) (.inl c) (bw_N c)) else none) = some (pc + 3, sg_l σ ls, .ref (σ (bw_n h)) :: st.map (sg_v σ), sg_h σ τ (bw_nw h (.inl c) (bw_N c)))
      rw [if_pos hc, p.2.2.1 _ hn, sg_nw p h hn]
    · cases hq
  · cases hq
theorem sq_na (p : sg_p σ τ n0) {t : ArrayType} : sg_q σ τ n0 (bq_na t) := by
  intro pc ls st h r hn hq
  unfold bq_na at hq
  split at hq
  · rename_i n r
    split at hq
    · rename_i hc
      cases hq
      show (if 0 ≤ n.toInt ∧ n.toInt < 60000 then some (pc + 2, sg_l σ ls, .ref (bw_n h) :: r.map (sg_v σ), bw_nw (sg_h σ τ h) (.inr (.int, n.toNatClampNeg)) n.toNatClampNeg) else none) = some (pc + 2, sg_l σ ls, .ref (σ (bw_n h)) :: r.map (sg_v σ), sg_h σ τ (bw_nw h (.inr (.int, n.toNatClampNeg)) n.toNatClampNeg))
      rw [if_pos hc, p.2.2.1 _ hn, sg_nw p h hn]
    · cases hq
  · cases hq
theorem sq_an (p : sg_p σ τ n0) {b : Bool} : sg_q σ τ n0 (bq_an b) := by
  intro pc ls st h r hn hq
  unfold bq_an at hq
  split at hq
  · rename_i n r
    split at hq
    · rename_i hc
      cases hq
      show (if b = true ∧ 0 ≤ n.toInt ∧ n.toInt < 60000 then some (pc + 3, sg_l σ ls, .ref (bw_n h) :: r.map (sg_v σ), bw_nw (sg_h σ τ h) (.inr (.object RX1, n.toNatClampNeg)) n.toNatClampNeg) else none) = some (pc + 3, sg_l σ ls, .ref (σ (bw_n h)) :: r.map (sg_v σ), sg_h σ τ (bw_nw h (.inr (.object RX1, n.toNatClampNeg)) n.toNatClampNeg))
      rw [if_pos hc, p.2.2.1 _ hn, sg_nw p h hn]
    · cases hq
  · cases hq
theorem sq_oi {b : Bool} : sg_q σ τ n0 (bq_oi b) := by
  intro pc ls st h r hn hq
  unfold bq_oi at hq
  split at hq
  · rename_i a r
    split at hq
    · rename_i hh
      cases hq
      show (if b = true ∧ ((r.map (sg_v σ)).map fun v => v.category).sum ≤ 8 then some (pc + 3, sg_l σ ls, r.map (sg_v σ), sg_h σ τ h) else none) = _
      rw [if_pos ⟨hh.1, by rw [sg_sum]; exact hh.2⟩]
      rfl
    · cases hq
  · cases hq
theorem sq_ac (p : sg_p σ τ n0) {b : Bool} : sg_q σ τ n0 (bq_ac b) := by
  intro pc ls st h r hn hq
  unfold bq_ac at hq
  split at hq
  · rename_i n dp a sp a0 r
    split at hq
    · rename_i t0 m0 t1 m1 hk0 hk1
      split at hq
      · rename_i hh
        cases hq
        show (match bw_k (sg_h σ τ h) (σ a0), bw_k (sg_h σ τ h) (σ a) with
          | .inr (t0, n0), .inr (t1, n1) => if b = true ∧ ((r.map (sg_v σ)).map fun v => v.category).sum ≤ 8 ∧ σ a0 < bw_n h ∧ σ a < bw_n h ∧ t0 = .int ∧ t1 = .int ∧ 0 ≤ sp.toInt ∧ 0 ≤ dp.toInt ∧ 0 ≤ n.toInt ∧ sp.toInt + n.toInt ≤ n0 ∧ dp.toInt + n.toInt ≤ n1
            then some (pc + 3, sg_l σ ls, r.map (sg_v σ), bw_sa (sg_h σ τ h) (σ a) (va_cpy (bw_i (sg_h σ τ h) (σ a0)) (bw_i (sg_h σ τ h) (σ a)) sp.toNatClampNeg dp.toNatClampNeg n.toNatClampNeg)) else none
          | _, _ => none) = some (pc + 3, sg_l σ ls, r.map (sg_v σ), sg_h σ τ (bw_sa h a (va_cpy (bw_i h a0) (bw_i h a) sp.toNatClampNeg dp.toNatClampNeg n.toNatClampNeg)))
        rw [sg_k p, sg_k p, hk0, hk1]
        show (if b = true ∧ ((r.map (sg_v σ)).map fun v => v.category).sum ≤ 8 ∧ σ a0 < bw_n h ∧ σ a < bw_n h ∧ t0 = .int ∧ t1 = .int ∧ 0 ≤ sp.toInt ∧ 0 ≤ dp.toInt ∧ 0 ≤ n.toInt ∧ sp.toInt + n.toInt ≤ m0 ∧ dp.toInt + n.toInt ≤ m1 then _ else none) = _
        rw [if_pos ⟨hh.1, by rw [sg_sum]; exact hh.2.1, sg_lt p hn hh.2.2.1, sg_lt p hn hh.2.2.2.1, hh.2.2.2.2⟩, sg_sa p, sg_i p, sg_i p]
      · cases hq
    · cases hq
  · cases hq
theorem sq_mx {b : Bool} : sg_q σ τ n0 (bq_mx b) := by
  intro pc ls st h r hn hq
  unfold bq_mx at hq
  split at hq
  · rename_i y x r
    split at hq
    · rename_i hh
      cases hq
      show (if ((r.map (sg_v σ)).map fun v => v.category).sum ≤ 8 then some (pc + 3, sg_l σ ls, Value.int (if b = true then (if x < y then y else x) else (if y < x then y else x)) :: r.map (sg_v σ), sg_h σ τ h) else none) = _
      rw [if_pos (by rw [sg_sum]; exact hh)]
      rfl
    · cases hq
  · cases hq
theorem sg_x (p : sg_p σ τ n0) {X : Nat × (Nat → Int32)} {o nL : Nat} {ini : Bool} {i : Instr} {pc : Nat} {ls : bw_L} {st : List Value} {h : bw_H} {k : bw_C} (hn : n0 ≤ bw_n h) (hq : bw_x X o nL ini i pc ls st h = some k) : bw_x X o nL ini i pc (sg_l σ ls) (st.map (sg_v σ)) (sg_h σ τ h) = some (sg_c σ τ k) := by
  cases i with
  | iload a => exact sq_il _ _ _ _ _ hn hq
  | iload_n a => exact sq_il _ _ _ _ _ hn hq
  | lload a => exact sq_ll _ _ _ _ _ hn hq
  | lload_n a => exact sq_ll _ _ _ _ _ hn hq
  | aload a => exact sq_al _ _ _ _ _ hn hq
  | aload_n a => exact sq_al _ _ _ _ _ hn hq
  | istore a => exact sq_is _ _ _ _ _ hn hq
  | istore_n a => exact sq_is _ _ _ _ _ hn hq
  | lstore a => exact sq_ls _ _ _ _ _ hn hq
  | lstore_n a => exact sq_ls _ _ _ _ _ hn hq
  | astore a => exact sq_as _ _ _ _ _ hn hq
  | astore_n a => exact sq_as _ _ _ _ _ hn hq
  | iinc a n => exact sq_ic _ _ _ _ _ hn hq
  | iconst a => exact sq_cn (by first | rfl | exact fun _ => rfl) _ _ _ _ _ hn hq
  | bipush a => exact sq_cn (by first | rfl | exact fun _ => rfl) _ _ _ _ _ hn hq
  | sipush a => exact sq_cn (by first | rfl | exact fun _ => rfl) _ _ _ _ _ hn hq
  | lconst a => exact sq_cn (by first | rfl | exact fun _ => rfl) _ _ _ _ _ hn hq
  | aconst_null => exact sq_cn (by first | rfl | exact fun _ => rfl) _ _ _ _ _ hn hq
  | iadd => exact sq_ii _ _ _ _ _ hn hq
  | isub => exact sq_ii _ _ _ _ _ hn hq
  | imul => exact sq_ii _ _ _ _ _ hn hq
  | iand => exact sq_ii _ _ _ _ _ hn hq
  | ior => exact sq_ii _ _ _ _ _ hn hq
  | ixor => exact sq_ii _ _ _ _ _ hn hq
  | ishl => exact sq_ii _ _ _ _ _ hn hq
  | ishr => exact sq_ii _ _ _ _ _ hn hq
  | iushr => exact sq_ii _ _ _ _ _ hn hq
  | idiv => exact sq_id _ _ _ _ _ hn hq
  | irem => exact sq_id _ _ _ _ _ hn hq
  | ladd => exact sq_jj _ _ _ _ _ hn hq
  | lsub => exact sq_jj _ _ _ _ _ hn hq
  | lmul => exact sq_jj _ _ _ _ _ hn hq
  | land => exact sq_jj _ _ _ _ _ hn hq
  | lor => exact sq_jj _ _ _ _ _ hn hq
  | lxor => exact sq_jj _ _ _ _ _ hn hq
  | ldiv => exact sq_jd _ _ _ _ _ hn hq
  | lrem => exact sq_jd _ _ _ _ _ hn hq
  | lushr => exact sq_ju _ _ _ _ _ hn hq
  | ineg => exact sq_i1 (by first | rfl | exact fun _ => rfl) _ _ _ _ _ hn hq
  | lneg => exact sq_j1 (by first | rfl | exact fun _ => rfl) _ _ _ _ _ hn hq
  | i2l => exact sq_i1 (by first | rfl | exact fun _ => rfl) _ _ _ _ _ hn hq
  | i2b => exact sq_i1 (by first | rfl | exact fun _ => rfl) _ _ _ _ _ hn hq
  | l2i => exact sq_j1 (by first | rfl | exact fun _ => rfl) _ _ _ _ _ hn hq
  | lcmp => exact sq_cm _ _ _ _ _ hn hq
  | dup => exact sq_du _ _ _ _ _ hn hq
  | dup2 => exact sq_d2 _ _ _ _ _ hn hq
  | goto a => exact sq_go _ _ _ _ _ hn hq
  | ifnull a => exact sq_nu _ _ _ _ _ hn hq
  | ifnonnull a => exact sq_nn _ _ _ _ _ hn hq
  | tableswitch a b d f => exact sq_ts _ _ _ _ _ hn hq
  | getfield a => exact sq_gf p _ _ _ _ _ hn hq
  | putfield a => exact sq_pf p _ _ _ _ _ hn hq
  | getstatic a => exact sq_gs _ _ _ _ _ hn hq
  | laload => exact sq_la _ _ _ _ _ hn hq
  | iaload => exact sq_ia p _ _ _ _ _ hn hq
  | baload => exact absurd (show (none : Option bw_C) = some k from hq) (fun z => by cases z)
  | aaload => exact sq_aa p _ _ _ _ _ hn hq
  | iastore => exact sq_ist p _ _ _ _ _ hn hq
  | bastore => exact absurd (show (none : Option bw_C) = some k from hq) (fun z => by cases z)
  | aastore => exact sq_ast p _ _ _ _ _ hn hq
  | arraylength => exact sq_len p _ _ _ _ _ hn hq
  | new a => exact sq_new p _ _ _ _ _ hn hq
  | newarray a => exact sq_na p _ _ _ _ _ hn hq
  | anewarray a => exact sq_an p _ _ _ _ _ hn hq
  | invokespecial a => exact sq_oi _ _ _ _ _ hn hq
  | ldc a =>
    have hq' : (match bw_kc o a with | some (.int v) => bq_cn 2 (.int v) | _ => fun _ _ _ _ => none) pc ls st h = some k := hq
    show (match bw_kc o a with | some (.int v) => bq_cn 2 (.int v) | _ => fun _ _ _ _ => none) pc _ _ _ = _
    cases hkc : bw_kc o a with
    | none => rw [hkc] at hq'; cases hq'
    | some v =>
      rw [hkc] at hq'
      cases v with
      | int v => exact sq_cn (by first | rfl | exact fun _ => rfl) _ _ _ _ _ hn hq'
      | _ => cases hq'
  | ldc_w a =>
    have hq' : (match bw_kc o a with | some (.int v) => bq_cn 3 (.int v) | _ => fun _ _ _ _ => none) pc ls st h = some k := hq
    show (match bw_kc o a with | some (.int v) => bq_cn 3 (.int v) | _ => fun _ _ _ _ => none) pc _ _ _ = _
    cases hkc : bw_kc o a with
    | none => rw [hkc] at hq'; cases hq'
    | some v =>
      rw [hkc] at hq'
      cases v with
      | int v => exact sq_cn (by first | rfl | exact fun _ => rfl) _ _ _ _ _ hn hq'
      | _ => cases hq'
  | ldc2_w a =>
    have hq' : (match bw_kc o a with | some (.long v) => bq_cn 3 (.long v) | _ => fun _ _ _ _ => none) pc ls st h = some k := hq
    show (match bw_kc o a with | some (.long v) => bq_cn 3 (.long v) | _ => fun _ _ _ _ => none) pc _ _ _ = _
    cases hkc : bw_kc o a with
    | none => rw [hkc] at hq'; cases hq'
    | some v =>
      rw [hkc] at hq'
      cases v with
      | long v => exact sq_cn (by first | rfl | exact fun _ => rfl) _ _ _ _ _ hn hq'
      | _ => cases hq'
  | ifCond cd off => cases cd <;> exact sq_if _ _ _ _ _ hn hq
  | if_icmp cd off => cases cd <;> exact sq_cp _ _ _ _ _ hn hq
  | invokestatic a =>
    have hq' : (match bw_mx o a with | some b => bq_mx b | none => bq_ac (bw_ac o a)) pc ls st h = some k := hq
    show (match bw_mx o a with | some b => bq_mx b | none => bq_ac (bw_ac o a)) pc _ _ _ = _
    cases hmx : bw_mx o a with
    | some b => rw [hmx] at hq'; exact sq_mx _ _ _ _ _ hn hq'
    | none => rw [hmx] at hq'; exact sq_ac p _ _ _ _ _ hn hq'
  | _ => exact absurd (show (none : Option bw_C) = some k from hq) (fun z => by cases z)
theorem sg_xn (p : sg_p σ τ n0) {X : Nat × (Nat → Int32)} {o nL : Nat} {ini : Bool} {i : Instr} {pc : Nat} {ls : bw_L} {st : List Value} {h : bw_H} (hn : n0 ≤ bw_n h) (hq : bw_x X o nL ini i pc ls st h = none) : bw_x X o nL ini i pc (sg_l σ ls) (st.map (sg_v σ)) (sg_h σ τ h) = none := by
  cases e : bw_x X o nL ini i pc (sg_l σ ls) (st.map (sg_v σ)) (sg_h σ τ h) with
  | none => rfl
  | some k =>
    have h1 := sg_x (sg_ps p) (h := sg_h σ τ h) hn e
    rw [sg_ll p.1, sg_ss p.1, sg_hh p.1, hq] at h1
    cases h1
theorem sg_e {rt : Option FieldType} {i : Instr} {st : List Value} {v : Option Value} (he : bw_e rt i st = some v) : bw_e rt i (st.map (sg_v σ)) = some (v.map (sg_v σ)) := by
  unfold bw_e at he
  split at he
  · rename_i v
    split at he
    · rename_i ty
      split at he
      · rename_i hc
        cases he
        show (if narrow ty (.int v) = .int v then some (some (Value.int v)) else none) = _
        rw [if_pos hc]
        rfl
      · cases he
    · cases he
  · rename_i v
    split at he
    · rename_i hc
      cases he
      show (if rt = some .long then some (some (Value.long v)) else none) = _
      rw [if_pos hc]
      rfl
    · cases he
  · rename_i a
    split at he
    · cases he; rfl
    · cases he
  · split at he
    · cases he; rfl
    · cases he
  · split at he
    · rename_i hc
      cases he
      show (if rt = none then some none else none) = _
      rw [if_pos hc]
      rfl
    · cases he
  · cases he
theorem sg_en (p : sg_p σ τ n0) {rt : Option FieldType} {i : Instr} {st : List Value} (he : bw_e rt i st = none) : bw_e rt i (st.map (sg_v σ)) = none := by
  cases e : bw_e rt i (st.map (sg_v σ)) with
  | none => rfl
  | some k =>
    have h1 := sg_e (σ := τ) e
    rw [sg_ss p.1, he] at h1
    cases h1
theorem sg_cc (p : sg_p σ τ n0) {o : Nat} {i : Instr} {st : List Value} {h : bw_H} {M : bw_M} {im : Bool} {as r : List Value} (hn : n0 ≤ bw_n h) (hc : bw_c o i st h = some (M, im, as, r)) : bw_c o i (st.map (sg_v σ)) (sg_h σ τ h) = some (M, im, as.map (sg_v σ), r.map (sg_v σ)) := by
  have tk : ∀ k, (List.take k (st.map (sg_v σ))).reverse = (List.take k st).reverse.map (sg_v σ) := fun k => by rw [← List.map_take, List.map_reverse]
  have dk : ∀ k, List.drop k (st.map (sg_v σ)) = (List.drop k st).map (sg_v σ) := fun k => by rw [← List.map_drop]
  unfold bw_c at hc ⊢
  split at hc
  · rename_i ix
    split at hc
    · rename_i kd M0 hmt
      split at hc
      · rename_i hh
        cases hc
        try simp only
        show (if kd ≤ 1 ∧ M.2.2.2.2.2 ≤ (st.map (sg_v σ)).length ∧ (((st.map (sg_v σ)).drop M.2.2.2.2.2).map fun v => v.category).sum ≤ 8 ∧ (lg_sl ((st.map (sg_v σ)).take M.2.2.2.2.2).reverse).length ≤ M.2.2.2.1 ∧ M.2.2.2.1 ≤ 30 then some (M, false, ((st.map (sg_v σ)).take M.2.2.2.2.2).reverse, (st.map (sg_v σ)).drop M.2.2.2.2.2) else none) = _
        rw [tk, dk, sg_sum, sg_lgsl, List.length_map, if_pos hh]
      · cases hc
    · cases hc
  · rename_i ix
    split at hc
    · rename_i kd M0 hmt
      split at hc
      · rename_i a r0 hdr
        split at hc
        · rename_i hh
          cases hc
          try simp only
          show (match (st.map (sg_v σ)).drop M.2.2.2.2.2 with
            | Value.ref a :: r => if (kd = 2 ∨ kd = 3) ∧ M.2.2.2.2.2 ≤ (st.map (sg_v σ)).length ∧ a < bw_n h ∧ bw_k (sg_h σ τ h) a = Sum.inl M.1 ∧ M.1 < 9 ∧ (r.map fun v : Value => v.category).sum ≤ 8 ∧ (lg_sl (Value.ref a :: ((st.map (sg_v σ)).take M.2.2.2.2.2).reverse)).length ≤ M.2.2.2.1 ∧ M.2.2.2.1 ≤ 30
              then some (M, false, Value.ref a :: ((st.map (sg_v σ)).take M.2.2.2.2.2).reverse, r) else none
            | _ => none) = _
          rw [tk, dk, hdr, List.map_cons]
          show (if (kd = 2 ∨ kd = 3) ∧ M.2.2.2.2.2 ≤ (st.map (sg_v σ)).length ∧ σ a < bw_n h ∧ bw_k (sg_h σ τ h) (σ a) = .inl M.1 ∧ M.1 < 9 ∧ ((r.map (sg_v σ)).map fun v => v.category).sum ≤ 8 ∧ (lg_sl ((Value.ref a :: (st.take M.2.2.2.2.2).reverse).map (sg_v σ))).length ≤ M.2.2.2.1 ∧ M.2.2.2.1 ≤ 30 then _ else none) = _
          rw [sg_k p, sg_sum, sg_lgsl, List.length_map, if_pos ⟨hh.1, hh.2.1, sg_lt p hn hh.2.2.1, hh.2.2.2⟩]
          rfl
        · cases hc
      · cases hc
    · cases hc
  · rename_i ix
    split at hc
    · rename_i kd M0 hmt
      split at hc
      · rename_i a r0 hdr
        split at hc
        · rename_i hh
          cases hc
          try simp only
          show (match (st.map (sg_v σ)).drop M.2.2.2.2.2 with
            | Value.ref a :: r => if (kd = 4 ∨ kd = 5) ∧ M.2.2.2.2.2 ≤ (st.map (sg_v σ)).length ∧ M.2.1.name = "<init>" ∧ M.2.2.2.2.1 = none ∧ (r.map fun v : Value => v.category).sum ≤ 8 ∧ (lg_sl (Value.ref a :: ((st.map (sg_v σ)).take M.2.2.2.2.2).reverse)).length ≤ M.2.2.2.1 ∧ M.2.2.2.1 ≤ 30
              then some (M, true, Value.ref a :: ((st.map (sg_v σ)).take M.2.2.2.2.2).reverse, r) else none
            | _ => none) = _
          rw [tk, dk, hdr, List.map_cons]
          show (if (kd = 4 ∨ kd = 5) ∧ M.2.2.2.2.2 ≤ (st.map (sg_v σ)).length ∧ M.2.1.name = "<init>" ∧ M.2.2.2.2.1 = none ∧ ((r.map (sg_v σ)).map fun v => v.category).sum ≤ 8 ∧ (lg_sl ((Value.ref a :: (st.take M.2.2.2.2.2).reverse).map (sg_v σ))).length ≤ M.2.2.2.1 ∧ M.2.2.2.1 ≤ 30 then _ else none) = _
          rw [sg_sum, sg_lgsl, List.length_map, if_pos hh]
          rfl
        · cases hc
      · cases hc
    · cases hc
  · cases hc
theorem sg_run (p : sg_p σ τ n0) (X : Nat × (Nat → Int32)) : ∀ (n d o nL : Nat) (ini : Bool) (rt : Option FieldType) (cc : ByteArray) (pc : Nat) (ls : bw_L) (st : List Value) (h : bw_H) (v : Option Value) (h' : bw_H), n0 ≤ bw_n h → bw_run X n d o nL ini rt cc pc ls st h = some (v, h') → n0 ≤ bw_n h' ∧ bw_run X n d o nL ini rt cc pc (sg_l σ ls) (st.map (sg_v σ)) (sg_h σ τ h) = some (v.map (sg_v σ), sg_h σ τ h') := by
  intro n
  induction n with
  | zero =>
    intro d o nL ini rt cc pc ls st h v h' hn hr
    unfold bw_run at hr
    cases hr
  | succ n ih =>
    intro d o nL ini rt cc pc ls st h v h' hn hr
    unfold bw_run at hr ⊢
    split at hr
    · cases hr
    · rename_i i len hdg
      try simp only
      split at hr
      · cases hr
      · rename_i hw0
        rw [if_neg hw0]
        split at hr
        · rename_i pc' ls' st' h1 hx1
          have m1 := (bw_x_mono hx1).1
          have e1 := sg_x p hn hx1
          rw [e1]
          exact ih d o nL ini rt cc pc' ls' st' h1 v h' (Nat.le_trans hn m1) hr
        · rename_i hx1
          rw [sg_xn p hn hx1]
          try simp only
          split at hr
          · rename_i v1 he
            cases hr
            rw [sg_e (σ := σ) he]
            exact ⟨hn, rfl⟩
          · rename_i he
            rw [sg_en p he]
            try simp only
            split at hr
            · cases hr
            · rename_i d'
              try simp only
              split at hr
              · rename_i M im as r hcc
                split at hr
                · rename_i v1 h1 hrun
                  rw [sg_cc p hn hcc]
                  try simp only
                  obtain ⟨m0, e0⟩ := ih _ _ _ _ _ _ _ _ _ _ _ _ hn hrun
                  rw [sg_args, show ([] : List Value) = ([] : List Value).map (sg_v σ) from rfl, e0]
                  obtain ⟨m1, e1⟩ := ih _ _ _ _ _ _ _ _ _ _ _ _ m0 hr
                  refine ⟨m1, ?_⟩
                  rw [List.map_append] at e1
                  rw [← e1]
                  cases v1 <;> rfl
                · cases hr
              · cases hr
theorem go_ren {X : Nat × (Nat → Int32)} {d o nL : Nat} {ini : Bool} {rt : Option FieldType} {cc : ByteArray} {pc : Nat} {ls : bw_L} {st : List Value} {h : bw_H} {Q : Option Value → bw_H → Prop} (p : sg_p σ τ n0) (hn : n0 ≤ bw_n h) (K : bw_go X d o nL ini rt cc pc (sg_l σ ls) (st.map (sg_v σ)) (sg_h σ τ h) (fun v g => Q (v.map (sg_v τ)) (sg_h τ σ g))) : bw_go X d o nL ini rt cc pc ls st h Q := by
  obtain ⟨n, v, g, hr, hQ⟩ := K
  have h1 := (sg_run (sg_ps p) X _ _ _ _ _ _ _ _ _ _ (sg_h σ τ h) _ _ hn hr).2
  rw [sg_ll p.1, sg_ss p.1, sg_hh p.1] at h1
  exact ⟨n, _, _, h1, hQ⟩
end SG
end
section
/-! the small machine in a larger heap: its places moved by an injection, what else there is untouched -/
def fr_p (σ : Nat → Nat) (τ : Nat → Option Nat) (n0 n1 z0 : Nat) : Prop := (∀ a, τ (σ a) = some a) ∧ (∀ p a, τ p = some a → σ a = p) ∧ (∀ a, n0 ≤ a → a + 1 ≤ n1 → σ a = a + z0) ∧ ∀ n a, n0 ≤ n → n ≤ n1 → (σ a < n + z0 ↔ a < n)
def fg1 {α : Type} (τ : Nat → Option Nat) (N : Nat) (f g : Nat → α) : Nat → α := fun p => if p < N then (match τ p with | some q => f q | none => g p) else g p
def fh (σ : Nat → Nat) (τ : Nat → Option Nat) (z0 s0 : Nat) (E h : bw_H) : bw_H := ((bw_n h + z0, bw_s h + s0), fg1 τ (bw_n h + z0) (bw_k h) (bw_k E), fg1 τ (bw_n h + z0) (bw_i h) (bw_i E), fg1 τ (bw_n h + z0) (bw_l h) (bw_l E), fg1 τ (bw_n h + z0) (fun q j => (bw_r h q j).map σ) (bw_r E))
def fr_c (σ : Nat → Nat) (τ : Nat → Option Nat) (z0 s0 : Nat) (E : bw_H) (k : bw_C) : bw_C := (k.1, sg_l σ k.2.1, k.2.2.1.map (sg_v σ), fh σ τ z0 s0 E k.2.2.2)
section FR
variable {σ : Nat → Nat} {τ : Nat → Option Nat} {n0 n1 z0 s0 : Nat} {E : bw_H}
theorem fr_lt (p : fr_p σ τ n0 n1 z0) {a n : Nat} (hn : n0 ≤ n) (hb : n ≤ n1) (ha : a < n) : σ a < n + z0 := (p.2.2.2 n a hn hb).mpr ha
theorem fr_lt2 (p : fr_p σ τ n0 n1 z0) {a n : Nat} (hn : n0 ≤ n) (hb : n ≤ n1) (ha : σ a < n + z0) : a < n := (p.2.2.2 n a hn hb).mp ha
theorem fr_at {α : Type} (p : fr_p σ τ n0 n1 z0) (f g : Nat → α) {a n : Nat} (hn : n0 ≤ n) (hb : n ≤ n1) (ha : a < n) : fg1 τ (n + z0) f g (σ a) = f a := by
  unfold fg1
  rw [if_pos (fr_lt p hn hb ha), p.1]
theorem fr_up {α : Type} (p : fr_p σ τ n0 n1 z0) (f g : Nat → α) {a n : Nat} (v : α) (hn : n0 ≤ n) (hb : n ≤ n1) (ha : a < n) : fg1 τ (n + z0) (bw_up f a v) g = bw_up (fg1 τ (n + z0) f g) (σ a) v := by
  funext q
  by_cases h : q = σ a
  · subst h
    rw [bw_up_s, fr_at p _ _ hn hb ha]
    exact bw_up_s _ _ _
  · rw [bw_up_o h]
    unfold fg1
    by_cases hq : q < n + z0
    · rw [if_pos hq, if_pos hq]
      cases e : τ q with
      | none => rfl
      | some x =>
        show bw_up f a v x = f x
        exact bw_up_o (fun z => h (by rw [← z]; exact (p.2.1 _ _ e).symm))
    · rw [if_neg hq, if_neg hq]
theorem fr_upn {α : Type} (p : fr_p σ τ n0 n1 z0) (f g : Nat → α) {n : Nat} (v : α) (hn : n0 ≤ n) (hb : n + 1 ≤ n1) : fg1 τ (n + 1 + z0) (bw_up f n v) g = bw_up (fg1 τ (n + z0) f g) (n + z0) v := by
  have e : σ n = n + z0 := p.2.2.1 _ hn hb
  funext q
  by_cases h : q = n + z0
  · subst h
    rw [bw_up_s]
    unfold fg1
    rw [if_pos (by omega), ← e, p.1]
    exact bw_up_s _ _ _
  · rw [bw_up_o h]
    unfold fg1
    by_cases hq : q < n + z0
    · rw [if_pos hq, if_pos (by omega)]
      cases e2 : τ q with
      | none => rfl
      | some x =>
        show bw_up f n v x = f x
        exact bw_up_o (fun z => h (by rw [← e, ← z]; exact (p.2.1 _ _ e2).symm))
    · rw [if_neg hq, if_neg (by omega)]
theorem fr_up2 {α : Type} (p : fr_p σ τ n0 n1 z0) (f g : Nat → Nat → α) {a n : Nat} (k : Nat) (v : α) (hn : n0 ≤ n) (hb : n ≤ n1) (ha : a < n) : fg1 τ (n + z0) (bw_up2 f a k v) g = bw_up2 (fg1 τ (n + z0) f g) (σ a) k v := by
  unfold bw_up2
  rw [fr_up p _ _ _ hn hb ha, fr_at p _ _ hn hb ha]
theorem fr_mu {f : Nat → Option Nat} {k : Nat} {v : Option Nat} : (fun j => (bw_up f k v j).map σ) = bw_up (fun j => (f j).map σ) k (v.map σ) := by
  funext j
  unfold bw_up
  split <;> rfl
theorem fr_up2m {f : Nat → Nat → Option Nat} {a k : Nat} {v : Option Nat} : (fun q j => (bw_up2 f a k v q j).map σ) = bw_up2 (fun q j => (f q j).map σ) a k (v.map σ) := by
  funext x
  unfold bw_up2
  by_cases h : x = a
  · subst h
    rw [bw_up_s, bw_up_s]
    exact fr_mu
  · rw [bw_up_o h, bw_up_o h]
theorem fr_upm {f : Nat → Nat → Option Nat} {a : Nat} : (fun q j => (bw_up f a (fun _ : Nat => (none : Option Nat)) q j).map σ) = bw_up (fun q j => (f q j).map σ) a (fun _ : Nat => (none : Option Nat)) := by
  funext x
  by_cases h : x = a
  · subst h
    rw [bw_up_s, bw_up_s]
    rfl
  · rw [bw_up_o h, bw_up_o h]
theorem fr_si (p : fr_p σ τ n0 n1 z0) {h : bw_H} {a : Nat} (k : Nat) (x : Int32) (hn : n0 ≤ bw_n h) (hb : bw_n h ≤ n1) (ha : a < bw_n h) : fh σ τ z0 s0 E (bw_si h a k x) = bw_si (fh σ τ z0 s0 E h) (σ a) k x := by
  show (_, _, fg1 τ (bw_n h + z0) (bw_up2 (bw_i h) a k x) (bw_i E), _, _) = (_, _, bw_up2 (fg1 τ (bw_n h + z0) (bw_i h) (bw_i E)) (σ a) k x, _, _)
  rw [fr_up2 p _ _ _ _ hn hb ha]
  rfl
theorem fr_sl (p : fr_p σ τ n0 n1 z0) {h : bw_H} {a : Nat} (k : Nat) (x : Int64) (hn : n0 ≤ bw_n h) (hb : bw_n h ≤ n1) (ha : a < bw_n h) : fh σ τ z0 s0 E (bw_sl h a k x) = bw_sl (fh σ τ z0 s0 E h) (σ a) k x := by
  show (_, _, _, fg1 τ (bw_n h + z0) (bw_up2 (bw_l h) a k x) (bw_l E), _) = (_, _, _, bw_up2 (fg1 τ (bw_n h + z0) (bw_l h) (bw_l E)) (σ a) k x, _)
  rw [fr_up2 p _ _ _ _ hn hb ha]
  rfl
theorem fr_sr (p : fr_p σ τ n0 n1 z0) {h : bw_H} {a : Nat} (k : Nat) (x : Option Nat) (hn : n0 ≤ bw_n h) (hb : bw_n h ≤ n1) (ha : a < bw_n h) : fh σ τ z0 s0 E (bw_sr h a k x) = bw_sr (fh σ τ z0 s0 E h) (σ a) k (x.map σ) := by
  show (_, _, _, _, fg1 τ (bw_n h + z0) (fun q j => (bw_up2 (bw_r h) a k x q j).map σ) (bw_r E)) = (_, _, _, _, bw_up2 (fg1 τ (bw_n h + z0) (fun q j => (bw_r h q j).map σ) (bw_r E)) (σ a) k (x.map σ))
  rw [fr_up2m, fr_up2 p _ _ _ _ hn hb ha]
  rfl
theorem fr_sa (p : fr_p σ τ n0 n1 z0) {h : bw_H} {a : Nat} (f : Nat → Int32) (hn : n0 ≤ bw_n h) (hb : bw_n h ≤ n1) (ha : a < bw_n h) : fh σ τ z0 s0 E (bw_sa h a f) = bw_sa (fh σ τ z0 s0 E h) (σ a) f := by
  show (_, _, fg1 τ (bw_n h + z0) (bw_up (bw_i h) a f) (bw_i E), _, _) = (_, _, bw_up (fg1 τ (bw_n h + z0) (bw_i h) (bw_i E)) (σ a) f, _, _)
  rw [fr_up p _ _ _ hn hb ha]
  rfl
theorem fr_nw (p : fr_p σ τ n0 n1 z0) (h : bw_H) (hn : n0 ≤ bw_n h) (hkb : bw_n h + 1 ≤ n1) (kd : bw_K) (N : Nat) : fh σ τ z0 s0 E (bw_nw h kd N) = bw_nw (fh σ τ z0 s0 E h) kd N := by
  show ((bw_n h + 1 + z0, bw_s h + N + s0), fg1 τ (bw_n h + 1 + z0) (bw_up (bw_k h) (bw_n h) kd) (bw_k E), fg1 τ (bw_n h + 1 + z0) (bw_up (bw_i h) (bw_n h) (fun _ : Nat => (0 : Int32))) (bw_i E), fg1 τ (bw_n h + 1 + z0) (bw_up (bw_l h) (bw_n h) (fun _ : Nat => (0 : Int64))) (bw_l E), fg1 τ (bw_n h + 1 + z0) (fun q j => (bw_up (bw_r h) (bw_n h) (fun _ : Nat => (none : Option Nat)) q j).map σ) (bw_r E)) = ((bw_n h + z0 + 1, bw_s h + s0 + N), bw_up (fg1 τ (bw_n h + z0) (bw_k h) (bw_k E)) (bw_n h + z0) kd, bw_up (fg1 τ (bw_n h + z0) (bw_i h) (bw_i E)) (bw_n h + z0) (fun _ : Nat => (0 : Int32)), bw_up (fg1 τ (bw_n h + z0) (bw_l h) (bw_l E)) (bw_n h + z0) (fun _ : Nat => (0 : Int64)), bw_up (fg1 τ (bw_n h + z0) (fun q j => (bw_r h q j).map σ) (bw_r E)) (bw_n h + z0) (fun _ : Nat => (none : Option Nat)))
  rw [fr_upm, fr_upn p _ _ _ hn hkb, fr_upn p _ _ _ hn hkb, fr_upn p _ _ _ hn hkb, fr_upn p _ _ _ hn hkb, Nat.add_right_comm (bw_n h), Nat.add_right_comm (bw_s h)]
theorem fr_k (p : fr_p σ τ n0 n1 z0) {h : bw_H} {a : Nat} (hn : n0 ≤ bw_n h) (hb : bw_n h ≤ n1) (ha : a < bw_n h) : bw_k (fh σ τ z0 s0 E h) (σ a) = bw_k h a := fr_at p (bw_k h) (bw_k E) hn hb ha
theorem fr_i (p : fr_p σ τ n0 n1 z0) {h : bw_H} {a : Nat} (hn : n0 ≤ bw_n h) (hb : bw_n h ≤ n1) (ha : a < bw_n h) : bw_i (fh σ τ z0 s0 E h) (σ a) = bw_i h a := fr_at p (bw_i h) (bw_i E) hn hb ha
theorem fr_lo (p : fr_p σ τ n0 n1 z0) {h : bw_H} {a : Nat} (hn : n0 ≤ bw_n h) (hb : bw_n h ≤ n1) (ha : a < bw_n h) : bw_l (fh σ τ z0 s0 E h) (σ a) = bw_l h a := fr_at p (bw_l h) (bw_l E) hn hb ha
theorem fr_r (p : fr_p σ τ n0 n1 z0) {h : bw_H} {a : Nat} (j : Nat) (hn : n0 ≤ bw_n h) (hb : bw_n h ≤ n1) (ha : a < bw_n h) : bw_r (fh σ τ z0 s0 E h) (σ a) j = (bw_r h a j).map σ := congrFun (fr_at p (fun x j => (bw_r h x j).map σ) (bw_r E) hn hb ha) j
theorem fr_fv (p : fr_p σ τ n0 n1 z0) {h : bw_H} {a : Nat} (c k : Nat) (hn : n0 ≤ bw_n h) (hb : bw_n h ≤ n1) (ha : a < bw_n h) : bw_fv (fh σ τ z0 s0 E h) (σ a) c k = sg_v σ (bw_fv h a c k) := by
  unfold bw_fv
  rw [fr_i p hn hb ha, fr_lo p hn hb ha, fr_r p _ hn hb ha, sg_rf]
  split <;> rfl
/-- an instruction does the same with its places renamed -/
def fr_q (σ : Nat → Nat) (τ : Nat → Option Nat) (n0 n1 z0 s0 : Nat) (E : bw_H) (f : Nat → bw_L → List Value → bw_H → Option bw_C) : Prop := ∀ (pc : Nat) (ls : bw_L) (st : List Value) (h : bw_H) (k : bw_C), n0 ≤ bw_n h → bw_n h ≤ n1 → bw_n k.2.2.2 ≤ n1 → f pc ls st h = some k → f pc (sg_l σ ls) (st.map (sg_v σ)) (fh σ τ z0 s0 E h) = some (fr_c σ τ z0 s0 E k)
theorem fq_il {w k : Nat} : fr_q σ τ n0 n1 z0 s0 E (bq_il w k) := by
  intro pc ls st h r hn hb hkb hq
  unfold bq_il at hq ⊢
  rw [sg_lg]
  split at hq
  · rename_i x hx
    cases hq
    rw [hx]
    rfl
  · cases hq
theorem fq_ll {w k : Nat} : fr_q σ τ n0 n1 z0 s0 E (bq_ll w k) := by
  intro pc ls st h r hn hb hkb hq
  unfold bq_ll at hq ⊢
  rw [sg_lg]
  split at hq
  · rename_i x hx
    cases hq
    rw [hx]
    rfl
  · cases hq
theorem fq_al {w k : Nat} : fr_q σ τ n0 n1 z0 s0 E (bq_al w k) := by
  intro pc ls st h r hn hb hkb hq
  unfold bq_al at hq ⊢
  rw [sg_lg]
  split at hq
  · rename_i x hx
    cases hq
    rw [hx]
    rfl
  · rename_i x hx
    cases hq
    rw [hx]
    rfl
  · rename_i hx
    cases hq
    rw [hx]
    rfl
  · cases hq
theorem fq_is {nL w k : Nat} : fr_q σ τ n0 n1 z0 s0 E (bq_is nL w k) := by
  intro pc ls st h r hn hb hkb hq
  unfold bq_is at hq
  split at hq
  · rename_i x r
    split at hq
    · rename_i hk
      cases hq
      show (if k < nL then some (pc + w, bw_s1 (sg_l σ ls) k (.int x), r.map (sg_v σ), fh σ τ z0 s0 E h) else none) = some (pc + w, sg_l σ (bw_s1 ls k (.int x)), r.map (sg_v σ), fh σ τ z0 s0 E h)
      rw [if_pos hk, sg_s1]
      rfl
    · cases hq
  · cases hq
theorem fq_ls {nL w k : Nat} : fr_q σ τ n0 n1 z0 s0 E (bq_ls nL w k) := by
  intro pc ls st h r hn hb hkb hq
  unfold bq_ls at hq
  split at hq
  · rename_i x r
    split at hq
    · rename_i hk
      cases hq
      show (if k + 1 < nL then some (pc + w, bw_s2 (sg_l σ ls) k (.long x), r.map (sg_v σ), fh σ τ z0 s0 E h) else none) = some (pc + w, sg_l σ (bw_s2 ls k (.long x)), r.map (sg_v σ), fh σ τ z0 s0 E h)
      rw [if_pos hk, sg_s2]
      rfl
    · cases hq
  · cases hq
theorem fq_as {nL w k : Nat} : fr_q σ τ n0 n1 z0 s0 E (bq_as nL w k) := by
  intro pc ls st h r hn hb hkb hq
  unfold bq_as at hq
  split at hq
  · rename_i x r
    split at hq
    · rename_i hk
      cases hq
      show (if k < nL then some (pc + w, bw_s1 (sg_l σ ls) k (.ref (σ x)), r.map (sg_v σ), fh σ τ z0 s0 E h) else none) = some (pc + w, sg_l σ (bw_s1 ls k (.ref x)), r.map (sg_v σ), fh σ τ z0 s0 E h)
      rw [if_pos hk, sg_s1]
      rfl
    · cases hq
  · rename_i r
    split at hq
    · rename_i hk
      cases hq
      show (if k < nL then some (pc + w, bw_s1 (sg_l σ ls) k .null, r.map (sg_v σ), fh σ τ z0 s0 E h) else none) = some (pc + w, sg_l σ (bw_s1 ls k .null), r.map (sg_v σ), fh σ τ z0 s0 E h)
      rw [if_pos hk, sg_s1]
      rfl
    · cases hq
  · cases hq
theorem fq_ic {nL k : Nat} {n : Int} : fr_q σ τ n0 n1 z0 s0 E (bq_ic nL k n) := by
  intro pc ls st h r hn hb hkb hq
  unfold bq_ic at hq ⊢
  rw [sg_lg]
  split at hq
  · rename_i x hx
    split at hq
    · rename_i hk
      cases hq
      rw [hx]
      show (if k < nL then some (pc + 3, bw_s1 (sg_l σ ls) k (.int (x + Int32.ofInt n)), st.map (sg_v σ), fh σ τ z0 s0 E h) else none) = some (pc + 3, sg_l σ (bw_s1 ls k (.int (x + Int32.ofInt n))), st.map (sg_v σ), fh σ τ z0 s0 E h)
      rw [if_pos hk, sg_s1]
      rfl
    · cases hq
  · cases hq
theorem fq_ii {f : Int32 → Int32 → Int32} : fr_q σ τ n0 n1 z0 s0 E (bq_ii f) := by
  intro pc ls st h r hn hb hkb hq
  unfold bq_ii at hq
  repeat' split at hq
  all_goals first | (cases hq; rfl) | cases hq
theorem fq_jj {f : Int64 → Int64 → Int64} : fr_q σ τ n0 n1 z0 s0 E (bq_jj f) := by
  intro pc ls st h r hn hb hkb hq
  unfold bq_jj at hq
  repeat' split at hq
  all_goals first | (cases hq; rfl) | cases hq
theorem fq_i1 {f : Int32 → Value} (hf : ∀ x, sg_v σ (f x) = f x) : fr_q σ τ n0 n1 z0 s0 E (bq_i1 f) := by
  intro pc ls st h r hn hb hkb hq
  unfold bq_i1 at hq
  split at hq
  · rename_i x r
    cases hq
    show some (pc + 1, sg_l σ ls, f x :: r.map (sg_v σ), fh σ τ z0 s0 E h) = some (pc + 1, sg_l σ ls, sg_v σ (f x) :: r.map (sg_v σ), fh σ τ z0 s0 E h)
    rw [hf]
  · cases hq
theorem fq_j1 {f : Int64 → Value} (hf : ∀ x, sg_v σ (f x) = f x) : fr_q σ τ n0 n1 z0 s0 E (bq_j1 f) := by
  intro pc ls st h r hn hb hkb hq
  unfold bq_j1 at hq
  split at hq
  · rename_i x r
    cases hq
    show some (pc + 1, sg_l σ ls, f x :: r.map (sg_v σ), fh σ τ z0 s0 E h) = some (pc + 1, sg_l σ ls, sg_v σ (f x) :: r.map (sg_v σ), fh σ τ z0 s0 E h)
    rw [hf]
  · cases hq
theorem fq_ju : fr_q σ τ n0 n1 z0 s0 E (bq_ju) := by
  intro pc ls st h r hn hb hkb hq
  unfold bq_ju at hq
  repeat' split at hq
  all_goals first | (cases hq; rfl) | cases hq
theorem fq_cm : fr_q σ τ n0 n1 z0 s0 E (bq_cm) := by
  intro pc ls st h r hn hb hkb hq
  unfold bq_cm at hq
  repeat' split at hq
  all_goals first | (cases hq; rfl) | cases hq
theorem fq_cn {w : Nat} {v : Value} (hv : sg_v σ v = v) : fr_q σ τ n0 n1 z0 s0 E (bq_cn w v) := by
  intro pc ls st h r hn hb hkb hq
  unfold bq_cn at hq
  cases hq
  show some (pc + w, sg_l σ ls, v :: st.map (sg_v σ), fh σ τ z0 s0 E h) = some (pc + w, sg_l σ ls, sg_v σ v :: st.map (sg_v σ), fh σ τ z0 s0 E h)
  rw [hv]
theorem fq_id {f : Int32 → Int32 → Int32} : fr_q σ τ n0 n1 z0 s0 E (bq_id f) := by
  intro pc ls st h r hn hb hkb hq
  unfold bq_id at hq
  split at hq
  · rename_i y x r
    split at hq
    · cases hq
    · rename_i hk
      cases hq
      show (if y = 0 then none else some (pc + 1, sg_l σ ls, Value.int (f x y) :: r.map (sg_v σ), fh σ τ z0 s0 E h)) = some (pc + 1, sg_l σ ls, .int (f x y) :: r.map (sg_v σ), fh σ τ z0 s0 E h)
      rw [if_neg hk]
  · cases hq
theorem fq_jd {f : Int64 → Int64 → Int64} : fr_q σ τ n0 n1 z0 s0 E (bq_jd f) := by
  intro pc ls st h r hn hb hkb hq
  unfold bq_jd at hq
  split at hq
  · rename_i y x r
    split at hq
    · cases hq
    · rename_i hk
      cases hq
      show (if y = 0 then none else some (pc + 1, sg_l σ ls, Value.long (f x y) :: r.map (sg_v σ), fh σ τ z0 s0 E h)) = some (pc + 1, sg_l σ ls, .long (f x y) :: r.map (sg_v σ), fh σ τ z0 s0 E h)
      rw [if_neg hk]
  · cases hq
theorem fq_du : fr_q σ τ n0 n1 z0 s0 E (bq_du) := by
  intro pc ls st h r hn hb hkb hq
  unfold bq_du at hq
  split at hq
  · rename_i v r
    split at hq
    · rename_i hk
      cases hq
      show (if (sg_v σ v).category = 1 then some (pc + 1, sg_l σ ls, sg_v σ v :: sg_v σ v :: r.map (sg_v σ), fh σ τ z0 s0 E h) else none) = _
      rw [if_pos (by rw [sg_cat]; exact hk)]
      rfl
    · cases hq
  · cases hq
theorem fq_d2 : fr_q σ τ n0 n1 z0 s0 E (bq_d2) := by
  intro pc ls st h r hn hb hkb hq
  unfold bq_d2 at hq
  split at hq
  · rename_i v w r
    split at hq
    · rename_i hk
      cases hq
      show (if (sg_v σ v).category = 1 ∧ (sg_v σ w).category = 1 then some (pc + 1, sg_l σ ls, sg_v σ v :: sg_v σ w :: sg_v σ v :: sg_v σ w :: r.map (sg_v σ), fh σ τ z0 s0 E h) else none) = _
      rw [if_pos (by rw [sg_cat, sg_cat]; exact hk)]
      rfl
    · cases hq
  · cases hq
theorem fq_go {off : Int} : fr_q σ τ n0 n1 z0 s0 E (bq_go off) := by
  intro pc ls st h r hn hb hkb hq
  unfold bq_go at hq
  split at hq
  · rename_i q hj
    cases hq
    unfold bq_go
    rw [hj]
    rfl
  · cases hq
theorem fq_if {d : Int32 → Bool} {off : Int} : fr_q σ τ n0 n1 z0 s0 E (bq_if d off) := by
  intro pc ls st h r hn hb hkb hq
  unfold bq_if at hq
  split at hq
  · rename_i x r
    split at hq
    · rename_i q hj
      cases hq
      show (match bw_jp pc off with | some q => some (if d x = true then q else pc + 3, sg_l σ ls, r.map (sg_v σ), fh σ τ z0 s0 E h) | none => none) = _
      rw [hj]
      rfl
    · cases hq
  · cases hq
theorem fq_cp {d : Int32 → Int32 → Bool} {off : Int} : fr_q σ τ n0 n1 z0 s0 E (bq_cp d off) := by
  intro pc ls st h r hn hb hkb hq
  unfold bq_cp at hq
  split at hq
  · rename_i y x r
    split at hq
    · rename_i q hj
      cases hq
      show (match bw_jp pc off with | some q => some (if d x y = true then q else pc + 3, sg_l σ ls, r.map (sg_v σ), fh σ τ z0 s0 E h) | none => none) = _
      rw [hj]
      rfl
    · cases hq
  · cases hq
theorem fq_nu {off : Int} : fr_q σ τ n0 n1 z0 s0 E (bq_nu off) := by
  intro pc ls st h r hn hb hkb hq
  unfold bq_nu at hq
  split at hq
  · rename_i r
    split at hq
    · rename_i q hj
      cases hq
      show (match bw_jp pc off with | some q => some (q, sg_l σ ls, r.map (sg_v σ), fh σ τ z0 s0 E h) | none => none) = _
      rw [hj]
      rfl
    · cases hq
  · cases hq; rfl
  · cases hq
theorem fq_nn {off : Int} : fr_q σ τ n0 n1 z0 s0 E (bq_nn off) := by
  intro pc ls st h r hn hb hkb hq
  unfold bq_nn at hq
  split at hq
  · rename_i a r
    split at hq
    · rename_i q hj
      cases hq
      show (match bw_jp pc off with | some q => some (q, sg_l σ ls, r.map (sg_v σ), fh σ τ z0 s0 E h) | none => none) = _
      rw [hj]
      rfl
    · cases hq
  · cases hq; rfl
  · cases hq
theorem fq_ts {df lo hi : Int} {offs : Array Int} : fr_q σ τ n0 n1 z0 s0 E (bq_ts df lo hi offs) := by
  intro pc ls st h r hn hb hkb hq
  unfold bq_ts at hq
  split at hq
  · rename_i x r
    split at hq
    · rename_i hc
      split at hq
      · rename_i q hj
        cases hq
        show (if x.toInt < lo ∨ hi < x.toInt then (match bw_jp pc df with | some q => some (q, sg_l σ ls, r.map (sg_v σ), fh σ τ z0 s0 E h) | none => none) else _) = _
        rw [if_pos hc, hj]
        rfl
      · cases hq
    · rename_i hc
      split at hq
      · rename_i off ho
        split at hq
        · rename_i q hj
          cases hq
          show (if x.toInt < lo ∨ hi < x.toInt then _ else (match offs[(x.toInt - lo).toNat]? with | some off => (match bw_jp pc off with | some q => some (q, sg_l σ ls, r.map (sg_v σ), fh σ τ z0 s0 E h) | none => none) | none => none)) = _
          rw [if_neg hc, ho]
          show (match bw_jp pc off with | some q => some (q, sg_l σ ls, r.map (sg_v σ), fh σ τ z0 s0 E h) | none => none) = _
          rw [hj]
          rfl
        · cases hq
      · cases hq
  · cases hq
theorem fq_gf (p : fr_p σ τ n0 n1 z0) {f : Option (Nat × Nat)} : fr_q σ τ n0 n1 z0 s0 E (bq_gf f) := by
  intro pc ls st h r hn hb hkb hq
  unfold bq_gf at hq
  split at hq
  · rename_i c k a r
    split at hq
    · rename_i hh
      cases hq
      show (if σ a < bw_n h + z0 ∧ bw_k (fh σ τ z0 s0 E h) (σ a) = .inl c then some (pc + 3, sg_l σ ls, bw_fv (fh σ τ z0 s0 E h) (σ a) c k :: r.map (sg_v σ), fh σ τ z0 s0 E h) else none) = _
      rw [if_pos ⟨fr_lt p hn hb hh.1, by rw [fr_k p hn hb hh.1]; exact hh.2⟩, fr_fv p _ _ hn hb hh.1]
      rfl
    · cases hq
  · cases hq
theorem fq_pf (p : fr_p σ τ n0 n1 z0) {o : Nat} {ini : Bool} {f : Option (Nat × Nat)} : fr_q σ τ n0 n1 z0 s0 E (bq_pf o ini f) := by
  intro pc ls st h r hn hb hkb hq
  unfold bq_pf at hq ⊢
  split at hq
  · rename_i c k v a r
    have pl : a < bw_n h → σ a < bw_n (fh σ τ z0 s0 E h) := fun z => fr_lt p hn hb z
    simp only [List.map_cons]
    show (if σ a < bw_n (fh σ τ z0 s0 E h) ∧ bw_k (fh σ τ z0 s0 E h) (σ a) = .inl c ∧ k < bw_N c ∧ (bw_T c k).2.2.2 = false then _ else if σ a < bw_n (fh σ τ z0 s0 E h) ∧ bw_k (fh σ τ z0 s0 E h) (σ a) = .inl c ∧ k < bw_N c ∧ (bw_T c k).2.2.2 = true ∧ ini = true ∧ c = o then _ else none) = _
    by_cases hal : a < bw_n h
    case neg =>
      rw [if_neg (fun z => hal z.1), if_neg (fun z => hal z.1)] at hq
      cases hq
    rw [fr_k p hn hb hal]
    split at hq
    · rename_i hh
      rw [if_pos ⟨pl hh.1, hh.2⟩]
      split at hq
      · rename_i x e1
        cases hq
        rw [e1]
        show some (pc + 3, sg_l σ ls, r.map (sg_v σ), bw_si (fh σ τ z0 s0 E h) (σ a) k x) = some (pc + 3, sg_l σ ls, r.map (sg_v σ), fh σ τ z0 s0 E (bw_si h a k x))
        rw [fr_si p _ _ hn hb hal]
      · rename_i x e1
        cases hq
        rw [e1]
        show some (pc + 3, sg_l σ ls, r.map (sg_v σ), bw_sl (fh σ τ z0 s0 E h) (σ a) k x) = some (pc + 3, sg_l σ ls, r.map (sg_v σ), fh σ τ z0 s0 E (bw_sl h a k x))
        rw [fr_sl p _ _ hn hb hal]
      · cases hq
    · rename_i hh0
      have hh1 : ¬ (σ a < bw_n (fh σ τ z0 s0 E h) ∧ bw_k h a = .inl c ∧ k < bw_N c ∧ (bw_T c k).2.2.2 = false) := fun z => hh0 ⟨fr_lt2 p hn hb z.1, z.2⟩
      rw [if_neg hh1]
      split at hq
      · rename_i hh
        rw [if_pos ⟨pl hh.1, hh.2⟩]
        split at hq
        · rename_i x e1
          cases hq
          rw [e1]
          show some (pc + 3, sg_l σ ls, r.map (sg_v σ), bw_si (fh σ τ z0 s0 E h) (σ a) k x) = some (pc + 3, sg_l σ ls, r.map (sg_v σ), fh σ τ z0 s0 E (bw_si h a k x))
          rw [fr_si p _ _ hn hb hal]
        · rename_i n x e1
          cases hq
          rw [e1]
          show some (pc + 3, sg_l σ ls, r.map (sg_v σ), bw_sr (fh σ τ z0 s0 E h) (σ a) k (some (σ x))) = some (pc + 3, sg_l σ ls, r.map (sg_v σ), fh σ τ z0 s0 E (bw_sr h a k (some x)))
          rw [fr_sr p _ _ hn hb hal]
          rfl
        · rename_i n x e1
          cases hq
          rw [e1]
          show some (pc + 3, sg_l σ ls, r.map (sg_v σ), bw_sr (fh σ τ z0 s0 E h) (σ a) k (some (σ x))) = some (pc + 3, sg_l σ ls, r.map (sg_v σ), fh σ τ z0 s0 E (bw_sr h a k (some x)))
          rw [fr_sr p _ _ hn hb hal]
          rfl
        · cases hq
      · cases hq
  · cases hq
theorem fq_gs {b : Bool} : fr_q σ τ n0 n1 z0 s0 E (bq_gs b) := by
  intro pc ls st h r hn hb hkb hq
  unfold bq_gs at hq
  split at hq
  · rename_i hb
    cases hq
    unfold bq_gs
    rw [if_pos hb]
    rfl
  · cases hq
theorem fq_la : fr_q σ τ n0 n1 z0 s0 E (bq_la) := by
  intro pc ls st h r hn hb hkb hq
  unfold bq_la at hq
  split at hq
  · rename_i i r
    split at hq
    · rename_i hc
      cases hq
      show (if 0 ≤ i.toInt ∧ i.toInt < 6 then some (pc + 1, sg_l σ ls, .long (bw_set6 i.toNatClampNeg) :: r.map (sg_v σ), fh σ τ z0 s0 E h) else none) = _
      rw [if_pos hc]
      rfl
    · cases hq
  · cases hq
theorem fq_ia (p : fr_p σ τ n0 n1 z0) {X : Nat × (Nat → Int32)} : fr_q σ τ n0 n1 z0 s0 E (bq_ia X) := by
  intro pc ls st h r hn hb hkb hq
  unfold bq_ia at hq
  split at hq
  · rename_i i r
    split at hq
    · rename_i hc
      cases hq
      show (if 0 ≤ i.toInt ∧ i.toInt < X.1 then some (pc + 1, sg_l σ ls, .int (X.2 i.toNatClampNeg) :: r.map (sg_v σ), fh σ τ z0 s0 E h) else none) = _
      rw [if_pos hc]
      rfl
    · cases hq
  · rename_i i a r
    split at hq
    · rename_i ty N hk
      split at hq
      · rename_i hh
        cases hq
        show (match bw_k (fh σ τ z0 s0 E h) (σ a) with | .inr (ty, N) => if σ a < bw_n h + z0 ∧ ty = FieldType.int ∧ 0 ≤ i.toInt ∧ i.toInt < N then some (pc + 1, sg_l σ ls, Value.int (bw_i (fh σ τ z0 s0 E h) (σ a) i.toNatClampNeg) :: r.map (sg_v σ), fh σ τ z0 s0 E h) else none | _ => none) = _
        rw [fr_k p hn hb hh.1, hk]
        show (if σ a < bw_n h + z0 ∧ ty = .int ∧ 0 ≤ i.toInt ∧ i.toInt < N then _ else none) = _
        rw [if_pos ⟨fr_lt p hn hb hh.1, hh.2⟩, fr_i p hn hb hh.1]
        rfl
      · cases hq
    · cases hq
  · cases hq
theorem fq_ba (p : fr_p σ τ n0 n1 z0) : fr_q σ τ n0 n1 z0 s0 E (bq_ba) := by
  intro pc ls st h r hn hb hkb hq
  unfold bq_ba at hq
  cases hq
theorem fq_aa (p : fr_p σ τ n0 n1 z0) : fr_q σ τ n0 n1 z0 s0 E (bq_aa) := by
  intro pc ls st h r hn hb hkb hq
  unfold bq_aa at hq
  split at hq
  · rename_i i a r
    split at hq
    · rename_i ty N hk
      split at hq
      · rename_i hh
        cases hq
        show (match bw_k (fh σ τ z0 s0 E h) (σ a) with | .inr (ty, N) => if σ a < bw_n h + z0 ∧ ty = FieldType.object RX1 ∧ 0 ≤ i.toInt ∧ i.toInt < N then some (pc + 1, sg_l σ ls, bw_rf (bw_r (fh σ τ z0 s0 E h) (σ a) i.toNatClampNeg) :: r.map (sg_v σ), fh σ τ z0 s0 E h) else none | _ => none) = _
        rw [fr_k p hn hb hh.1, hk]
        show (if σ a < bw_n h + z0 ∧ ty = .object RX1 ∧ 0 ≤ i.toInt ∧ i.toInt < N then _ else none) = _
        rw [if_pos ⟨fr_lt p hn hb hh.1, hh.2⟩, fr_r p _ hn hb hh.1, sg_rf]
        rfl
      · cases hq
    · cases hq
  · cases hq
theorem fq_ist (p : fr_p σ τ n0 n1 z0) : fr_q σ τ n0 n1 z0 s0 E (bq_ist) := by
  intro pc ls st h r hn hb hkb hq
  unfold bq_ist at hq
  split at hq
  · rename_i x i a r
    split at hq
    · rename_i ty N hk
      split at hq
      · rename_i hh
        cases hq
        show (match bw_k (fh σ τ z0 s0 E h) (σ a) with | .inr (ty, N) => if σ a < bw_n h + z0 ∧ ty = FieldType.int ∧ 0 ≤ i.toInt ∧ i.toInt < N then some (pc + 1, sg_l σ ls, r.map (sg_v σ), bw_si (fh σ τ z0 s0 E h) (σ a) i.toNatClampNeg (x)) else none | _ => none) = some (pc + 1, sg_l σ ls, r.map (sg_v σ), fh σ τ z0 s0 E (bw_si h a i.toNatClampNeg (x)))
        rw [fr_k p hn hb hh.1, hk]
        show (if σ a < bw_n h + z0 ∧ ty = .int ∧ 0 ≤ i.toInt ∧ i.toInt < N then _ else none) = _
        rw [if_pos ⟨fr_lt p hn hb hh.1, hh.2⟩, fr_si p _ _ hn hb hh.1]
      · cases hq
    · cases hq
  · cases hq
theorem fq_bst (p : fr_p σ τ n0 n1 z0) : fr_q σ τ n0 n1 z0 s0 E (bq_bst) := by
  intro pc ls st h r hn hb hkb hq
  unfold bq_bst at hq
  cases hq
theorem fq_ast (p : fr_p σ τ n0 n1 z0) : fr_q σ τ n0 n1 z0 s0 E (bq_ast) := by
  intro pc ls st h r hn hb hkb hq
  unfold bq_ast at hq
  split at hq
  · rename_i x i a r
    split at hq
    · rename_i ty N hk
      split at hq
      · rename_i hh
        cases hq
        show (match bw_k (fh σ τ z0 s0 E h) (σ a) with | .inr (ty, N) => if σ a < bw_n h + z0 ∧ ty = FieldType.object RX1 ∧ σ x < bw_n h + z0 ∧ bw_k (fh σ τ z0 s0 E h) (σ x) = .inl 1 ∧ 0 ≤ i.toInt ∧ i.toInt < N then some (pc + 1, sg_l σ ls, r.map (sg_v σ), bw_sr (fh σ τ z0 s0 E h) (σ a) i.toNatClampNeg (some (σ x))) else none | _ => none) = some (pc + 1, sg_l σ ls, r.map (sg_v σ), fh σ τ z0 s0 E (bw_sr h a i.toNatClampNeg (some x)))
        rw [fr_k p hn hb hh.1, fr_k p hn hb hh.2.2.1, hk]
        show (if σ a < bw_n h + z0 ∧ ty = .object RX1 ∧ σ x < bw_n h + z0 ∧ bw_k h x = .inl 1 ∧ 0 ≤ i.toInt ∧ i.toInt < N then _ else none) = _
        rw [if_pos ⟨fr_lt p hn hb hh.1, hh.2.1, fr_lt p hn hb hh.2.2.1, hh.2.2.2⟩, fr_sr p _ _ hn hb hh.1]
        rfl
      · cases hq
    · cases hq
  · cases hq
theorem fq_len (p : fr_p σ τ n0 n1 z0) {X : Nat × (Nat → Int32)} : fr_q σ τ n0 n1 z0 s0 E (bq_len X) := by
  intro pc ls st h r hn hb hkb hq
  unfold bq_len at hq
  split at hq
  · cases hq; rfl
  · cases hq; rfl
  · rename_i a r
    split at hq
    · rename_i ty N hk
      split at hq
      · rename_i hh
        cases hq
        show (match bw_k (fh σ τ z0 s0 E h) (σ a) with | .inr (ty, N) => if σ a < bw_n h + z0 ∧ (ty = FieldType.int ∨ ty = FieldType.long ∨ ty = FieldType.object RX1) then some (pc + 1, sg_l σ ls, Value.int (Int32.ofNat N) :: r.map (sg_v σ), fh σ τ z0 s0 E h) else none | _ => none) = _
        rw [fr_k p hn hb hh.1, hk]
        show (if σ a < bw_n h + z0 ∧ (ty = FieldType.int ∨ ty = FieldType.long ∨ ty = FieldType.object RX1) then _ else none) = _
        rw [if_pos ⟨fr_lt p hn hb hh.1, hh.2⟩]
        rfl
      · cases hq
    · cases hq
  · cases hq
theorem fq_new (p : fr_p σ τ n0 n1 z0) {c : Option Nat} : fr_q σ τ n0 n1 z0 s0 E (bq_new c) := by
  intro pc ls st h r hn hb hkb hq
  unfold bq_new at hq
  split at hq
  · rename_i c
    split at hq
    · rename_i hc
      cases hq
      show (if c < 9 then some (pc + 3, sg_l σ ls, .ref (bw_n h + z0) :: st.map (sg_v σ), bw_nw (fh σ τ z0 s0 E h) (.inl c) (bw_N c)) else none) = some (pc + 3, sg_l σ ls, .ref (σ (bw_n h)) :: st.map (sg_v σ), fh σ τ z0 s0 E (bw_nw h (.inl c) (bw_N c)))
      rw [if_pos hc, p.2.2.1 _ hn hkb, fr_nw p h hn hkb]
    · cases hq
  · cases hq
theorem fq_na (p : fr_p σ τ n0 n1 z0) {t : ArrayType} : fr_q σ τ n0 n1 z0 s0 E (bq_na t) := by
  intro pc ls st h r hn hb hkb hq
  unfold bq_na at hq
  split at hq
  · rename_i n r
    split at hq
    · rename_i hc
      cases hq
      show (if 0 ≤ n.toInt ∧ n.toInt < 60000 then some (pc + 2, sg_l σ ls, .ref (bw_n h + z0) :: r.map (sg_v σ), bw_nw (fh σ τ z0 s0 E h) (.inr (.int, n.toNatClampNeg)) n.toNatClampNeg) else none) = some (pc + 2, sg_l σ ls, .ref (σ (bw_n h)) :: r.map (sg_v σ), fh σ τ z0 s0 E (bw_nw h (.inr (.int, n.toNatClampNeg)) n.toNatClampNeg))
      rw [if_pos hc, p.2.2.1 _ hn hkb, fr_nw p h hn hkb]
    · cases hq
  · cases hq
theorem fq_an (p : fr_p σ τ n0 n1 z0) {b : Bool} : fr_q σ τ n0 n1 z0 s0 E (bq_an b) := by
  intro pc ls st h r hn hb hkb hq
  unfold bq_an at hq
  split at hq
  · rename_i n r
    split at hq
    · rename_i hc
      cases hq
      show (if b = true ∧ 0 ≤ n.toInt ∧ n.toInt < 60000 then some (pc + 3, sg_l σ ls, .ref (bw_n h + z0) :: r.map (sg_v σ), bw_nw (fh σ τ z0 s0 E h) (.inr (.object RX1, n.toNatClampNeg)) n.toNatClampNeg) else none) = some (pc + 3, sg_l σ ls, .ref (σ (bw_n h)) :: r.map (sg_v σ), fh σ τ z0 s0 E (bw_nw h (.inr (.object RX1, n.toNatClampNeg)) n.toNatClampNeg))
      rw [if_pos hc, p.2.2.1 _ hn hkb, fr_nw p h hn hkb]
    · cases hq
  · cases hq
theorem fq_oi {b : Bool} : fr_q σ τ n0 n1 z0 s0 E (bq_oi b) := by
  intro pc ls st h r hn hb hkb hq
  unfold bq_oi at hq
  split at hq
  · rename_i a r
    split at hq
    · rename_i hh
      cases hq
      show (if b = true ∧ ((r.map (sg_v σ)).map fun v => v.category).sum ≤ 8 then some (pc + 3, sg_l σ ls, r.map (sg_v σ), fh σ τ z0 s0 E h) else none) = _
      rw [if_pos ⟨hh.1, by rw [sg_sum]; exact hh.2⟩]
      rfl
    · cases hq
  · cases hq
theorem fq_ac (p : fr_p σ τ n0 n1 z0) {b : Bool} : fr_q σ τ n0 n1 z0 s0 E (bq_ac b) := by
  intro pc ls st h r hn hb hkb hq
  unfold bq_ac at hq
  split at hq
  · rename_i n dp a sp a0 r
    split at hq
    · rename_i t0 m0 t1 m1 hk0 hk1
      split at hq
      · rename_i hh
        cases hq
        show (match bw_k (fh σ τ z0 s0 E h) (σ a0), bw_k (fh σ τ z0 s0 E h) (σ a) with
          | .inr (t0, n0), .inr (t1, n1) => if b = true ∧ ((r.map (sg_v σ)).map fun v => v.category).sum ≤ 8 ∧ σ a0 < bw_n h + z0 ∧ σ a < bw_n h + z0 ∧ t0 = .int ∧ t1 = .int ∧ 0 ≤ sp.toInt ∧ 0 ≤ dp.toInt ∧ 0 ≤ n.toInt ∧ sp.toInt + n.toInt ≤ n0 ∧ dp.toInt + n.toInt ≤ n1
            then some (pc + 3, sg_l σ ls, r.map (sg_v σ), bw_sa (fh σ τ z0 s0 E h) (σ a) (va_cpy (bw_i (fh σ τ z0 s0 E h) (σ a0)) (bw_i (fh σ τ z0 s0 E h) (σ a)) sp.toNatClampNeg dp.toNatClampNeg n.toNatClampNeg)) else none
          | _, _ => none) = some (pc + 3, sg_l σ ls, r.map (sg_v σ), fh σ τ z0 s0 E (bw_sa h a (va_cpy (bw_i h a0) (bw_i h a) sp.toNatClampNeg dp.toNatClampNeg n.toNatClampNeg)))
        rw [fr_k p hn hb hh.2.2.1, fr_k p hn hb hh.2.2.2.1, hk0, hk1]
        show (if b = true ∧ ((r.map (sg_v σ)).map fun v => v.category).sum ≤ 8 ∧ σ a0 < bw_n h + z0 ∧ σ a < bw_n h + z0 ∧ t0 = .int ∧ t1 = .int ∧ 0 ≤ sp.toInt ∧ 0 ≤ dp.toInt ∧ 0 ≤ n.toInt ∧ sp.toInt + n.toInt ≤ m0 ∧ dp.toInt + n.toInt ≤ m1 then _ else none) = _
        rw [if_pos ⟨hh.1, by rw [sg_sum]; exact hh.2.1, fr_lt p hn hb hh.2.2.1, fr_lt p hn hb hh.2.2.2.1, hh.2.2.2.2⟩, fr_sa p _ hn hb hh.2.2.2.1, fr_i p hn hb hh.2.2.1, fr_i p hn hb hh.2.2.2.1]
      · cases hq
    · cases hq
  · cases hq
theorem fq_mx {b : Bool} : fr_q σ τ n0 n1 z0 s0 E (bq_mx b) := by
  intro pc ls st h r hn hb hkb hq
  unfold bq_mx at hq
  split at hq
  · rename_i y x r
    split at hq
    · rename_i hh
      cases hq
      show (if ((r.map (sg_v σ)).map fun v => v.category).sum ≤ 8 then some (pc + 3, sg_l σ ls, Value.int (if b = true then (if x < y then y else x) else (if y < x then y else x)) :: r.map (sg_v σ), fh σ τ z0 s0 E h) else none) = _
      rw [if_pos (by rw [sg_sum]; exact hh)]
      rfl
    · cases hq
  · cases hq
theorem fr_x (p : fr_p σ τ n0 n1 z0) {X : Nat × (Nat → Int32)} {o nL : Nat} {ini : Bool} {i : Instr} {pc : Nat} {ls : bw_L} {st : List Value} {h : bw_H} {k : bw_C} (hn : n0 ≤ bw_n h) (hb : bw_n h ≤ n1) (hkb : bw_n k.2.2.2 ≤ n1) (hq : bw_x X o nL ini i pc ls st h = some k) : bw_x X o nL ini i pc (sg_l σ ls) (st.map (sg_v σ)) (fh σ τ z0 s0 E h) = some (fr_c σ τ z0 s0 E k) := by
  cases i with
  | iload a => exact fq_il _ _ _ _ _ hn hb hkb hq
  | iload_n a => exact fq_il _ _ _ _ _ hn hb hkb hq
  | lload a => exact fq_ll _ _ _ _ _ hn hb hkb hq
  | lload_n a => exact fq_ll _ _ _ _ _ hn hb hkb hq
  | aload a => exact fq_al _ _ _ _ _ hn hb hkb hq
  | aload_n a => exact fq_al _ _ _ _ _ hn hb hkb hq
  | istore a => exact fq_is _ _ _ _ _ hn hb hkb hq
  | istore_n a => exact fq_is _ _ _ _ _ hn hb hkb hq
  | lstore a => exact fq_ls _ _ _ _ _ hn hb hkb hq
  | lstore_n a => exact fq_ls _ _ _ _ _ hn hb hkb hq
  | astore a => exact fq_as _ _ _ _ _ hn hb hkb hq
  | astore_n a => exact fq_as _ _ _ _ _ hn hb hkb hq
  | iinc a n => exact fq_ic _ _ _ _ _ hn hb hkb hq
  | iconst a => exact fq_cn (by first | rfl | exact fun _ => rfl) _ _ _ _ _ hn hb hkb hq
  | bipush a => exact fq_cn (by first | rfl | exact fun _ => rfl) _ _ _ _ _ hn hb hkb hq
  | sipush a => exact fq_cn (by first | rfl | exact fun _ => rfl) _ _ _ _ _ hn hb hkb hq
  | lconst a => exact fq_cn (by first | rfl | exact fun _ => rfl) _ _ _ _ _ hn hb hkb hq
  | aconst_null => exact fq_cn (by first | rfl | exact fun _ => rfl) _ _ _ _ _ hn hb hkb hq
  | iadd => exact fq_ii _ _ _ _ _ hn hb hkb hq
  | isub => exact fq_ii _ _ _ _ _ hn hb hkb hq
  | imul => exact fq_ii _ _ _ _ _ hn hb hkb hq
  | iand => exact fq_ii _ _ _ _ _ hn hb hkb hq
  | ior => exact fq_ii _ _ _ _ _ hn hb hkb hq
  | ixor => exact fq_ii _ _ _ _ _ hn hb hkb hq
  | ishl => exact fq_ii _ _ _ _ _ hn hb hkb hq
  | ishr => exact fq_ii _ _ _ _ _ hn hb hkb hq
  | iushr => exact fq_ii _ _ _ _ _ hn hb hkb hq
  | idiv => exact fq_id _ _ _ _ _ hn hb hkb hq
  | irem => exact fq_id _ _ _ _ _ hn hb hkb hq
  | ladd => exact fq_jj _ _ _ _ _ hn hb hkb hq
  | lsub => exact fq_jj _ _ _ _ _ hn hb hkb hq
  | lmul => exact fq_jj _ _ _ _ _ hn hb hkb hq
  | land => exact fq_jj _ _ _ _ _ hn hb hkb hq
  | lor => exact fq_jj _ _ _ _ _ hn hb hkb hq
  | lxor => exact fq_jj _ _ _ _ _ hn hb hkb hq
  | ldiv => exact fq_jd _ _ _ _ _ hn hb hkb hq
  | lrem => exact fq_jd _ _ _ _ _ hn hb hkb hq
  | lushr => exact fq_ju _ _ _ _ _ hn hb hkb hq
  | ineg => exact fq_i1 (by first | rfl | exact fun _ => rfl) _ _ _ _ _ hn hb hkb hq
  | lneg => exact fq_j1 (by first | rfl | exact fun _ => rfl) _ _ _ _ _ hn hb hkb hq
  | i2l => exact fq_i1 (by first | rfl | exact fun _ => rfl) _ _ _ _ _ hn hb hkb hq
  | i2b => exact fq_i1 (by first | rfl | exact fun _ => rfl) _ _ _ _ _ hn hb hkb hq
  | l2i => exact fq_j1 (by first | rfl | exact fun _ => rfl) _ _ _ _ _ hn hb hkb hq
  | lcmp => exact fq_cm _ _ _ _ _ hn hb hkb hq
  | dup => exact fq_du _ _ _ _ _ hn hb hkb hq
  | dup2 => exact fq_d2 _ _ _ _ _ hn hb hkb hq
  | goto a => exact fq_go _ _ _ _ _ hn hb hkb hq
  | ifnull a => exact fq_nu _ _ _ _ _ hn hb hkb hq
  | ifnonnull a => exact fq_nn _ _ _ _ _ hn hb hkb hq
  | tableswitch a b d f => exact fq_ts _ _ _ _ _ hn hb hkb hq
  | getfield a => exact fq_gf p _ _ _ _ _ hn hb hkb hq
  | putfield a => exact fq_pf p _ _ _ _ _ hn hb hkb hq
  | getstatic a => exact fq_gs _ _ _ _ _ hn hb hkb hq
  | laload => exact fq_la _ _ _ _ _ hn hb hkb hq
  | iaload => exact fq_ia p _ _ _ _ _ hn hb hkb hq
  | baload => exact absurd (show (none : Option bw_C) = some k from hq) (fun z => by cases z)
  | aaload => exact fq_aa p _ _ _ _ _ hn hb hkb hq
  | iastore => exact fq_ist p _ _ _ _ _ hn hb hkb hq
  | bastore => exact absurd (show (none : Option bw_C) = some k from hq) (fun z => by cases z)
  | aastore => exact fq_ast p _ _ _ _ _ hn hb hkb hq
  | arraylength => exact fq_len p _ _ _ _ _ hn hb hkb hq
  | new a => exact fq_new p _ _ _ _ _ hn hb hkb hq
  | newarray a => exact fq_na p _ _ _ _ _ hn hb hkb hq
  | anewarray a => exact fq_an p _ _ _ _ _ hn hb hkb hq
  | invokespecial a => exact fq_oi _ _ _ _ _ hn hb hkb hq
  | ldc a =>
    have hq' : (match bw_kc o a with | some (.int v) => bq_cn 2 (.int v) | _ => fun _ _ _ _ => none) pc ls st h = some k := hq
    show (match bw_kc o a with | some (.int v) => bq_cn 2 (.int v) | _ => fun _ _ _ _ => none) pc _ _ _ = _
    cases hkc : bw_kc o a with
    | none => rw [hkc] at hq'; cases hq'
    | some v =>
      rw [hkc] at hq'
      cases v with
      | int v => exact fq_cn (by first | rfl | exact fun _ => rfl) _ _ _ _ _ hn hb hkb hq'
      | _ => cases hq'
  | ldc_w a =>
    have hq' : (match bw_kc o a with | some (.int v) => bq_cn 3 (.int v) | _ => fun _ _ _ _ => none) pc ls st h = some k := hq
    show (match bw_kc o a with | some (.int v) => bq_cn 3 (.int v) | _ => fun _ _ _ _ => none) pc _ _ _ = _
    cases hkc : bw_kc o a with
    | none => rw [hkc] at hq'; cases hq'
    | some v =>
      rw [hkc] at hq'
      cases v with
      | int v => exact fq_cn (by first | rfl | exact fun _ => rfl) _ _ _ _ _ hn hb hkb hq'
      | _ => cases hq'
  | ldc2_w a =>
    have hq' : (match bw_kc o a with | some (.long v) => bq_cn 3 (.long v) | _ => fun _ _ _ _ => none) pc ls st h = some k := hq
    show (match bw_kc o a with | some (.long v) => bq_cn 3 (.long v) | _ => fun _ _ _ _ => none) pc _ _ _ = _
    cases hkc : bw_kc o a with
    | none => rw [hkc] at hq'; cases hq'
    | some v =>
      rw [hkc] at hq'
      cases v with
      | long v => exact fq_cn (by first | rfl | exact fun _ => rfl) _ _ _ _ _ hn hb hkb hq'
      | _ => cases hq'
  | ifCond cd off => cases cd <;> exact fq_if _ _ _ _ _ hn hb hkb hq
  | if_icmp cd off => cases cd <;> exact fq_cp _ _ _ _ _ hn hb hkb hq
  | invokestatic a =>
    have hq' : (match bw_mx o a with | some b => bq_mx b | none => bq_ac (bw_ac o a)) pc ls st h = some k := hq
    show (match bw_mx o a with | some b => bq_mx b | none => bq_ac (bw_ac o a)) pc _ _ _ = _
    cases hmx : bw_mx o a with
    | some b => rw [hmx] at hq'; exact fq_mx _ _ _ _ _ hn hb hkb hq'
    | none => rw [hmx] at hq'; exact fq_ac p _ _ _ _ _ hn hb hkb hq'
  | _ => exact absurd (show (none : Option bw_C) = some k from hq) (fun z => by cases z)
theorem fr_xe {X : Nat × (Nat → Int32)} {o nL : Nat} {ini : Bool} {i : Instr} {pc : Nat} {ls : bw_L} {st st0 : List Value} {h : bw_H} {rt : Option FieldType} {v : Option Value} (he : bw_e rt i st0 = some v) : bw_x X o nL ini i pc ls st h = none := by
  cases i with
  | ireturn => rfl
  | lreturn => rfl
  | areturn => rfl
  | return_ => rfl
  | _ => exact absurd (show (none : Option (Option Value)) = some v from he) (fun z => by cases z)
theorem fr_mt_ok : bw_MT.all (fun e => (bw_mx e.1 e.2.1).isNone && !bw_ac e.1 e.2.1 && !bw_oi e.1 e.2.1) = true := by decide +kernel
theorem fr_mt {o ix : Nat} {q : Nat × bw_M} (h : bw_mt o ix = some q) : bw_mx o ix = none ∧ bw_ac o ix = false ∧ bw_oi o ix = false := by
  unfold bw_mt at h
  cases hf : bw_MT.find? (fun e => e.1 == o && e.2.1 == ix) with
  | none => rw [hf] at h; cases h
  | some x =>
    have h1 := List.all_eq_true.mp fr_mt_ok x (List.mem_of_find?_eq_some hf)
    have h2 := List.find?_some hf
    simp only [Bool.and_eq_true, beq_iff_eq, Bool.not_eq_true', Option.isNone_iff_eq_none] at h1 h2
    rw [← h2.1, ← h2.2]
    exact ⟨h1.1.1, h1.1.2, h1.2⟩
theorem fr_xc {X : Nat × (Nat → Int32)} {o nL : Nat} {ini : Bool} {i : Instr} {pc : Nat} {ls : bw_L} {st st0 : List Value} {h h0 : bw_H} {c : bw_M × Bool × List Value × List Value} (hc : bw_c o i st0 h0 = some c) : bw_x X o nL ini i pc ls st h = none := by
  cases i with
  | invokevirtual ix => rfl
  | invokestatic ix =>
    cases e : bw_mt o ix with
    | none =>
      simp [bw_c, e] at hc
    | some q =>
      obtain ⟨h1, h2, h3⟩ := fr_mt e
      show (match bw_mx o ix with | some b => bq_mx b | none => bq_ac (bw_ac o ix)) pc ls st h = none
      rw [h1, h2]
      show bq_ac false pc ls st h = none
      unfold bq_ac
      repeat' split
      all_goals first | rfl | (rename_i hh; exact absurd hh.1 (by decide))
  | invokespecial ix =>
    cases e : bw_mt o ix with
    | none =>
      simp [bw_c, e] at hc
    | some q =>
      obtain ⟨h1, h2, h3⟩ := fr_mt e
      show bq_oi (bw_oi o ix) pc ls st h = none
      rw [h3]
      unfold bq_oi
      repeat' split
      all_goals first | rfl | (rename_i hh; exact absurd hh.1 (by decide))
  | _ => exact absurd (show (none : Option (bw_M × Bool × List Value × List Value)) = some c from hc) (fun z => by cases z)
theorem fr_ec {o : Nat} {i : Instr} {rt : Option FieldType} {st st0 : List Value} {h0 : bw_H} {c : bw_M × Bool × List Value × List Value} (hc : bw_c o i st0 h0 = some c) : bw_e rt i st = none := by
  cases i with
  | invokevirtual ix => rfl
  | invokestatic ix => rfl
  | invokespecial ix => rfl
  | _ => exact absurd (show (none : Option (bw_M × Bool × List Value × List Value)) = some c from hc) (fun z => by cases z)
theorem fr_cc (p : fr_p σ τ n0 n1 z0) {o : Nat} {i : Instr} {st : List Value} {h : bw_H} {M : bw_M} {im : Bool} {as r : List Value} (hn : n0 ≤ bw_n h) (hb : bw_n h ≤ n1) (hc : bw_c o i st h = some (M, im, as, r)) : bw_c o i (st.map (sg_v σ)) (fh σ τ z0 s0 E h) = some (M, im, as.map (sg_v σ), r.map (sg_v σ)) := by
  have tk : ∀ k, (List.take k (st.map (sg_v σ))).reverse = (List.take k st).reverse.map (sg_v σ) := fun k => by rw [← List.map_take, List.map_reverse]
  have dk : ∀ k, List.drop k (st.map (sg_v σ)) = (List.drop k st).map (sg_v σ) := fun k => by rw [← List.map_drop]
  unfold bw_c at hc ⊢
  split at hc
  · rename_i ix
    split at hc
    · rename_i kd M0 hmt
      split at hc
      · rename_i hh
        cases hc
        try simp only
        show (if kd ≤ 1 ∧ M.2.2.2.2.2 ≤ (st.map (sg_v σ)).length ∧ (((st.map (sg_v σ)).drop M.2.2.2.2.2).map fun v => v.category).sum ≤ 8 ∧ (lg_sl ((st.map (sg_v σ)).take M.2.2.2.2.2).reverse).length ≤ M.2.2.2.1 ∧ M.2.2.2.1 ≤ 30 then some (M, false, ((st.map (sg_v σ)).take M.2.2.2.2.2).reverse, (st.map (sg_v σ)).drop M.2.2.2.2.2) else none) = _
        rw [tk, dk, sg_sum, sg_lgsl, List.length_map, if_pos hh]
      · cases hc
    · cases hc
  · rename_i ix
    split at hc
    · rename_i kd M0 hmt
      split at hc
      · rename_i a r0 hdr
        split at hc
        · rename_i hh
          cases hc
          try simp only
          show (match (st.map (sg_v σ)).drop M.2.2.2.2.2 with
            | Value.ref a :: r => if (kd = 2 ∨ kd = 3) ∧ M.2.2.2.2.2 ≤ (st.map (sg_v σ)).length ∧ a < bw_n h + z0 ∧ bw_k (fh σ τ z0 s0 E h) a = Sum.inl M.1 ∧ M.1 < 9 ∧ (r.map fun v : Value => v.category).sum ≤ 8 ∧ (lg_sl (Value.ref a :: ((st.map (sg_v σ)).take M.2.2.2.2.2).reverse)).length ≤ M.2.2.2.1 ∧ M.2.2.2.1 ≤ 30
              then some (M, false, Value.ref a :: ((st.map (sg_v σ)).take M.2.2.2.2.2).reverse, r) else none
            | _ => none) = _
          rw [tk, dk, hdr, List.map_cons]
          show (if (kd = 2 ∨ kd = 3) ∧ M.2.2.2.2.2 ≤ (st.map (sg_v σ)).length ∧ σ a < bw_n h + z0 ∧ bw_k (fh σ τ z0 s0 E h) (σ a) = .inl M.1 ∧ M.1 < 9 ∧ ((r.map (sg_v σ)).map fun v => v.category).sum ≤ 8 ∧ (lg_sl ((Value.ref a :: (st.take M.2.2.2.2.2).reverse).map (sg_v σ))).length ≤ M.2.2.2.1 ∧ M.2.2.2.1 ≤ 30 then _ else none) = _
          rw [fr_k p hn hb hh.2.2.1, sg_sum, sg_lgsl, List.length_map, if_pos ⟨hh.1, hh.2.1, fr_lt p hn hb hh.2.2.1, hh.2.2.2⟩]
          rfl
        · cases hc
      · cases hc
    · cases hc
  · rename_i ix
    split at hc
    · rename_i kd M0 hmt
      split at hc
      · rename_i a r0 hdr
        split at hc
        · rename_i hh
          cases hc
          try simp only
          show (match (st.map (sg_v σ)).drop M.2.2.2.2.2 with
            | Value.ref a :: r => if (kd = 4 ∨ kd = 5) ∧ M.2.2.2.2.2 ≤ (st.map (sg_v σ)).length ∧ M.2.1.name = "<init>" ∧ M.2.2.2.2.1 = none ∧ (r.map fun v : Value => v.category).sum ≤ 8 ∧ (lg_sl (Value.ref a :: ((st.map (sg_v σ)).take M.2.2.2.2.2).reverse)).length ≤ M.2.2.2.1 ∧ M.2.2.2.1 ≤ 30
              then some (M, true, Value.ref a :: ((st.map (sg_v σ)).take M.2.2.2.2.2).reverse, r) else none
            | _ => none) = _
          rw [tk, dk, hdr, List.map_cons]
          show (if (kd = 4 ∨ kd = 5) ∧ M.2.2.2.2.2 ≤ (st.map (sg_v σ)).length ∧ M.2.1.name = "<init>" ∧ M.2.2.2.2.1 = none ∧ ((r.map (sg_v σ)).map fun v => v.category).sum ≤ 8 ∧ (lg_sl ((Value.ref a :: (st.take M.2.2.2.2.2).reverse).map (sg_v σ))).length ≤ M.2.2.2.1 ∧ M.2.2.2.1 ≤ 30 then _ else none) = _
          rw [sg_sum, sg_lgsl, List.length_map, if_pos hh]
          rfl
        · cases hc
      · cases hc
    · cases hc
  · cases hc
theorem fr_run (p : fr_p σ τ n0 n1 z0) (X : Nat × (Nat → Int32)) : ∀ (n d o nL : Nat) (ini : Bool) (rt : Option FieldType) (cc : ByteArray) (pc : Nat) (ls : bw_L) (st : List Value) (h : bw_H) (v : Option Value) (h' : bw_H), n0 ≤ bw_n h → bw_n h' ≤ n1 → bw_run X n d o nL ini rt cc pc ls st h = some (v, h') → n0 ≤ bw_n h' ∧ bw_run X n d o nL ini rt cc pc (sg_l σ ls) (st.map (sg_v σ)) (fh σ τ z0 s0 E h) = some (v.map (sg_v σ), fh σ τ z0 s0 E h') := by
  intro n
  induction n with
  | zero =>
    intro d o nL ini rt cc pc ls st h v h' hn hb hr
    unfold bw_run at hr
    cases hr
  | succ n ih =>
    intro d o nL ini rt cc pc ls st h v h' hn hb hr
    unfold bw_run at hr ⊢
    split at hr
    · cases hr
    · rename_i i len hdg
      try simp only
      split at hr
      · cases hr
      · rename_i hw0
        rw [if_neg hw0]
        split at hr
        · rename_i pc' ls' st' h1 hx1
          have m1 := (bw_x_mono hx1).1
          have m2 := (bw_snd X n d o nL ini rt cc pc' ls' st' h1 v h' hr).1.1
          have e1 := fr_x (E := E) (s0 := s0) p hn (Nat.le_trans m1 (Nat.le_trans m2 hb)) (Nat.le_trans m2 hb) hx1
          rw [e1]
          exact ih d o nL ini rt cc pc' ls' st' h1 v h' (Nat.le_trans hn m1) hb hr
        · rename_i hx1
          split at hr
          · rename_i v1 he
            cases hr
            rw [fr_xe he]
            try simp only
            rw [sg_e (σ := σ) he]
            exact ⟨hn, rfl⟩
          · rename_i he
            split at hr
            · cases hr
            · rename_i d'
              split at hr
              · rename_i M im as r hcc
                rw [fr_xc hcc]
                try simp only
                rw [fr_ec hcc]
                try simp only
                split at hr
                · rename_i v1 h1 hrun
                  have q1 := (bw_snd _ _ _ _ _ _ _ _ _ _ _ _ _ _ hrun).1.1
                  have q2 := (bw_snd _ _ _ _ _ _ _ _ _ _ _ _ _ _ hr).1.1
                  rw [fr_cc p hn (Nat.le_trans q1 (Nat.le_trans q2 hb)) hcc]
                  try simp only
                  obtain ⟨m0, e0⟩ := ih _ _ _ _ _ _ _ _ _ _ _ _ hn (Nat.le_trans q2 hb) hrun
                  rw [sg_args, show ([] : List Value) = ([] : List Value).map (sg_v σ) from rfl, e0]
                  obtain ⟨m1, e1⟩ := ih _ _ _ _ _ _ _ _ _ _ _ _ m0 hb hr
                  refine ⟨m1, ?_⟩
                  rw [List.map_append] at e1
                  rw [← e1]
                  cases v1 <;> rfl
                · cases hr
              · cases hr
/-- the frame rule: what a method does in a heap, it does in a larger one -/
theorem me_fr {X : Nat × (Nat → Int32)} {d : Nat} {M : bw_M} {im : Bool} {as : List Value} {h : bw_H} {Q : Option Value → bw_H → Prop} (p : fr_p σ τ n0 n1 z0) (hn : n0 ≤ bw_n h) (K : bw_me X d M im as h (fun v g => bw_n g ≤ n1 ∧ Q (v.map (sg_v σ)) (fh σ τ z0 s0 E g))) : bw_me X d M im (as.map (sg_v σ)) (fh σ τ z0 s0 E h) Q := by
  obtain ⟨n, v, g, hr, hQ⟩ := K
  have h1 := fr_run (E := E) (s0 := s0) p X _ _ _ _ _ _ _ _ _ _ _ _ _ hn hQ.1 hr
  rw [← sg_args] at h1
  exact ⟨n, _, _, h1.2, hQ.2⟩
end FR
end
section
/-! locals: what is not looked at, and the order in which they are listed, doesn't matter -/
def bw_nd (ls : bw_L) : Prop := (ls.map (fun q => q.1)).Nodup
def bw_le (ls ls' : bw_L) : Prop := ∀ (i : Nat) (v : Value), bw_lg ls i = some v → bw_lg ls' i = some v
theorem lg_nil (i : Nat) : bw_lg [] i = none := rfl
theorem lg_cons (q : Nat × Value) (ls : bw_L) (i : Nat) : bw_lg (q :: ls) i = if q.1 = i then some q.2 else bw_lg ls i := by
  unfold bw_lg
  rw [List.find?_cons]
  by_cases h : q.1 = i
  · have e : (q.1 == i) = true := by simpa using h
    rw [if_pos h, e]; rfl
  · have e : (q.1 == i) = false := by simpa using h
    rw [if_neg h, e]
theorem lg_none {ls : bw_L} {i : Nat} (h : i ∉ ls.map (fun q => q.1)) : bw_lg ls i = none := by
  induction ls with
  | nil => rfl
  | cons q ls ih =>
    rw [List.map_cons, List.mem_cons, not_or] at h
    rw [lg_cons, if_neg (fun z => h.1 z.symm)]
    exact ih h.2
theorem lg_filter {ls : bw_L} (hn : bw_nd ls) (f : Nat × Value → Bool) (i : Nat) : bw_lg (ls.filter f) i = match bw_lg ls i with
    | some w => if f (i, w) = true then some w else none
    | none => none := by
  induction ls with
  | nil => rfl
  | cons q ls ih =>
    have hq := List.nodup_cons.mp hn
    have ih := ih hq.2
    rw [List.filter_cons, lg_cons]
    by_cases h : q.1 = i
    · rw [if_pos h]
      subst h
      have h0 : bw_lg ls q.1 = none := lg_none hq.1
      rw [h0] at ih
      by_cases hf : f q = true
      · rw [if_pos hf, lg_cons, if_pos rfl]
        simp only
        rw [if_pos hf]
      · rw [if_neg hf, ih]
        simp only
        rw [if_neg hf]
    · rw [if_neg h]
      by_cases hf : f q = true
      · rw [if_pos hf, lg_cons, if_neg h, ih]
      · rw [if_neg hf, ih]
theorem nd_filter {ls : bw_L} (hn : bw_nd ls) (f : Nat × Value → Bool) : bw_nd (ls.filter f) := by
  unfold bw_nd at hn ⊢
  exact List.Nodup.sublist (List.Sublist.map _ List.filter_sublist) hn
theorem nd_s1 {ls : bw_L} (hn : bw_nd ls) (i : Nat) (v : Value) : bw_nd (bw_s1 ls i v) := by
  unfold bw_s1
  refine List.nodup_cons.mpr ⟨fun h => ?_, nd_filter hn _⟩
  obtain ⟨q, hq, he⟩ := List.mem_map.mp h
  have := (List.mem_filter.mp hq).2
  simp only [Bool.and_eq_true, Bool.not_eq_true', beq_eq_false_iff_ne] at this
  exact this.1 he
theorem nd_s2 {ls : bw_L} (hn : bw_nd ls) (i : Nat) (v : Value) : bw_nd (bw_s2 ls i v) := by
  unfold bw_s2
  refine List.nodup_cons.mpr ⟨fun h => ?_, nd_filter hn _⟩
  obtain ⟨q, hq, he⟩ := List.mem_map.mp h
  have := (List.mem_filter.mp hq).2
  simp only [Bool.and_eq_true, Bool.not_eq_true', beq_eq_false_iff_ne] at this
  exact this.1 he
theorem le_s {ls ls' : bw_L} (hn : bw_nd ls) (hn' : bw_nd ls') (h : bw_le ls ls') (f : Nat × Value → Bool) (i : Nat) (v : Value) : bw_le ((i, v) :: ls.filter f) ((i, v) :: ls'.filter f) := by
  intro j w hw
  rw [lg_cons] at hw ⊢
  by_cases hj : i = j
  · rw [if_pos hj] at hw ⊢; exact hw
  · rw [if_neg hj] at hw ⊢
    rw [lg_filter hn] at hw
    rw [lg_filter hn']
    cases hl : bw_lg ls j with
    | none => rw [hl] at hw; cases hw
    | some x => rw [hl] at hw; rw [h j x hl]; exact hw
theorem bl_ii {f : Int32 → Int32 → Int32} {pc : Nat} {ls ls' : bw_L} {st : List Value} {h : bw_H} {k : bw_C} (hq : bq_ii f pc ls st h = some k) : k.2.1 = ls ∧ bq_ii f pc ls' st h = some (k.1, ls', k.2.2.1, k.2.2.2) := by
  unfold bq_ii at hq ⊢
  repeat' split at hq
  all_goals first | (cases hq; done) | (cases hq; exact ⟨rfl, rfl⟩) | (cases hq; refine ⟨rfl, ?_⟩; simp_all)
theorem bl_id {f : Int32 → Int32 → Int32} {pc : Nat} {ls ls' : bw_L} {st : List Value} {h : bw_H} {k : bw_C} (hq : bq_id f pc ls st h = some k) : k.2.1 = ls ∧ bq_id f pc ls' st h = some (k.1, ls', k.2.2.1, k.2.2.2) := by
  unfold bq_id at hq ⊢
  repeat' split at hq
  all_goals first | (cases hq; done) | (cases hq; exact ⟨rfl, rfl⟩) | (cases hq; refine ⟨rfl, ?_⟩; simp_all)
theorem bl_jj {f : Int64 → Int64 → Int64} {pc : Nat} {ls ls' : bw_L} {st : List Value} {h : bw_H} {k : bw_C} (hq : bq_jj f pc ls st h = some k) : k.2.1 = ls ∧ bq_jj f pc ls' st h = some (k.1, ls', k.2.2.1, k.2.2.2) := by
  unfold bq_jj at hq ⊢
  repeat' split at hq
  all_goals first | (cases hq; done) | (cases hq; exact ⟨rfl, rfl⟩) | (cases hq; refine ⟨rfl, ?_⟩; simp_all)
theorem bl_jd {f : Int64 → Int64 → Int64} {pc : Nat} {ls ls' : bw_L} {st : List Value} {h : bw_H} {k : bw_C} (hq : bq_jd f pc ls st h = some k) : k.2.1 = ls ∧ bq_jd f pc ls' st h = some (k.1, ls', k.2.2.1, k.2.2.2) := by
  unfold bq_jd at hq ⊢
  repeat' split at hq
  all_goals first | (cases hq; done) | (cases hq; exact ⟨rfl, rfl⟩) | (cases hq; refine ⟨rfl, ?_⟩; simp_all)
theorem bl_i1 {f : Int32 → Value} {pc : Nat} {ls ls' : bw_L} {st : List Value} {h : bw_H} {k : bw_C} (hq : bq_i1 f pc ls st h = some k) : k.2.1 = ls ∧ bq_i1 f pc ls' st h = some (k.1, ls', k.2.2.1, k.2.2.2) := by
  unfold bq_i1 at hq ⊢
  repeat' split at hq
  all_goals first | (cases hq; done) | (cases hq; exact ⟨rfl, rfl⟩) | (cases hq; refine ⟨rfl, ?_⟩; simp_all)
theorem bl_j1 {f : Int64 → Value} {pc : Nat} {ls ls' : bw_L} {st : List Value} {h : bw_H} {k : bw_C} (hq : bq_j1 f pc ls st h = some k) : k.2.1 = ls ∧ bq_j1 f pc ls' st h = some (k.1, ls', k.2.2.1, k.2.2.2) := by
  unfold bq_j1 at hq ⊢
  repeat' split at hq
  all_goals first | (cases hq; done) | (cases hq; exact ⟨rfl, rfl⟩) | (cases hq; refine ⟨rfl, ?_⟩; simp_all)
theorem bl_ju  {pc : Nat} {ls ls' : bw_L} {st : List Value} {h : bw_H} {k : bw_C} (hq : bq_ju  pc ls st h = some k) : k.2.1 = ls ∧ bq_ju  pc ls' st h = some (k.1, ls', k.2.2.1, k.2.2.2) := by
  unfold bq_ju at hq ⊢
  repeat' split at hq
  all_goals first | (cases hq; done) | (cases hq; exact ⟨rfl, rfl⟩) | (cases hq; refine ⟨rfl, ?_⟩; simp_all)
theorem bl_cm  {pc : Nat} {ls ls' : bw_L} {st : List Value} {h : bw_H} {k : bw_C} (hq : bq_cm  pc ls st h = some k) : k.2.1 = ls ∧ bq_cm  pc ls' st h = some (k.1, ls', k.2.2.1, k.2.2.2) := by
  unfold bq_cm at hq ⊢
  repeat' split at hq
  all_goals first | (cases hq; done) | (cases hq; exact ⟨rfl, rfl⟩) | (cases hq; refine ⟨rfl, ?_⟩; simp_all)
theorem bl_du  {pc : Nat} {ls ls' : bw_L} {st : List Value} {h : bw_H} {k : bw_C} (hq : bq_du  pc ls st h = some k) : k.2.1 = ls ∧ bq_du  pc ls' st h = some (k.1, ls', k.2.2.1, k.2.2.2) := by
  unfold bq_du at hq ⊢
  repeat' split at hq
  all_goals first | (cases hq; done) | (cases hq; exact ⟨rfl, rfl⟩) | (cases hq; refine ⟨rfl, ?_⟩; simp_all)
theorem bl_d2  {pc : Nat} {ls ls' : bw_L} {st : List Value} {h : bw_H} {k : bw_C} (hq : bq_d2  pc ls st h = some k) : k.2.1 = ls ∧ bq_d2  pc ls' st h = some (k.1, ls', k.2.2.1, k.2.2.2) := by
  unfold bq_d2 at hq ⊢
  repeat' split at hq
  all_goals first | (cases hq; done) | (cases hq; exact ⟨rfl, rfl⟩) | (cases hq; refine ⟨rfl, ?_⟩; simp_all)
theorem bl_cn {w : Nat} {v : Value} {pc : Nat} {ls ls' : bw_L} {st : List Value} {h : bw_H} {k : bw_C} (hq : bq_cn w v pc ls st h = some k) : k.2.1 = ls ∧ bq_cn w v pc ls' st h = some (k.1, ls', k.2.2.1, k.2.2.2) := by
  unfold bq_cn at hq ⊢
  repeat' split at hq
  all_goals first | (cases hq; done) | (cases hq; exact ⟨rfl, rfl⟩) | (cases hq; refine ⟨rfl, ?_⟩; simp_all)
theorem bl_go {off : Int} {pc : Nat} {ls ls' : bw_L} {st : List Value} {h : bw_H} {k : bw_C} (hq : bq_go off pc ls st h = some k) : k.2.1 = ls ∧ bq_go off pc ls' st h = some (k.1, ls', k.2.2.1, k.2.2.2) := by
  unfold bq_go at hq ⊢
  repeat' split at hq
  all_goals first | (cases hq; done) | (cases hq; exact ⟨rfl, rfl⟩) | (cases hq; refine ⟨rfl, ?_⟩; simp_all)
theorem bl_if {d : Int32 → Bool} {off : Int} {pc : Nat} {ls ls' : bw_L} {st : List Value} {h : bw_H} {k : bw_C} (hq : bq_if d off pc ls st h = some k) : k.2.1 = ls ∧ bq_if d off pc ls' st h = some (k.1, ls', k.2.2.1, k.2.2.2) := by
  unfold bq_if at hq ⊢
  repeat' split at hq
  all_goals first | (cases hq; done) | (cases hq; exact ⟨rfl, rfl⟩) | (cases hq; refine ⟨rfl, ?_⟩; simp_all)
theorem bl_cp {d : Int32 → Int32 → Bool} {off : Int} {pc : Nat} {ls ls' : bw_L} {st : List Value} {h : bw_H} {k : bw_C} (hq : bq_cp d off pc ls st h = some k) : k.2.1 = ls ∧ bq_cp d off pc ls' st h = some (k.1, ls', k.2.2.1, k.2.2.2) := by
  unfold bq_cp at hq ⊢
  repeat' split at hq
  all_goals first | (cases hq; done) | (cases hq; exact ⟨rfl, rfl⟩) | (cases hq; refine ⟨rfl, ?_⟩; simp_all)
theorem bl_nu {off : Int} {pc : Nat} {ls ls' : bw_L} {st : List Value} {h : bw_H} {k : bw_C} (hq : bq_nu off pc ls st h = some k) : k.2.1 = ls ∧ bq_nu off pc ls' st h = some (k.1, ls', k.2.2.1, k.2.2.2) := by
  unfold bq_nu at hq ⊢
  repeat' split at hq
  all_goals first | (cases hq; done) | (cases hq; exact ⟨rfl, rfl⟩) | (cases hq; refine ⟨rfl, ?_⟩; simp_all)
theorem bl_nn {off : Int} {pc : Nat} {ls ls' : bw_L} {st : List Value} {h : bw_H} {k : bw_C} (hq : bq_nn off pc ls st h = some k) : k.2.1 = ls ∧ bq_nn off pc ls' st h = some (k.1, ls', k.2.2.1, k.2.2.2) := by
  unfold bq_nn at hq ⊢
  repeat' split at hq
  all_goals first | (cases hq; done) | (cases hq; exact ⟨rfl, rfl⟩) | (cases hq; refine ⟨rfl, ?_⟩; simp_all)
theorem bl_ts {df lo hi : Int} {offs : Array Int} {pc : Nat} {ls ls' : bw_L} {st : List Value} {h : bw_H} {k : bw_C} (hq : bq_ts df lo hi offs pc ls st h = some k) : k.2.1 = ls ∧ bq_ts df lo hi offs pc ls' st h = some (k.1, ls', k.2.2.1, k.2.2.2) := by
  unfold bq_ts at hq ⊢
  split at hq
  · split at hq
    · rename_i hh
      try simp only
      rw [if_pos hh]
      split at hq
      · rename_i q hj
        cases hq
        (try rw [hj]); exact ⟨rfl, rfl⟩
      · cases hq
    · rename_i hh
      try simp only
      rw [if_neg hh]
      split at hq
      · rename_i off ho
        try rw [ho]
        try simp only
        split at hq
        · rename_i q hj
          cases hq
          (try rw [hj]); exact ⟨rfl, rfl⟩
        · cases hq
      · cases hq
  · cases hq
theorem bl_gf {f : Option (Nat × Nat)} {pc : Nat} {ls ls' : bw_L} {st : List Value} {h : bw_H} {k : bw_C} (hq : bq_gf f pc ls st h = some k) : k.2.1 = ls ∧ bq_gf f pc ls' st h = some (k.1, ls', k.2.2.1, k.2.2.2) := by
  unfold bq_gf at hq ⊢
  repeat' split at hq
  all_goals first | (cases hq; done) | (cases hq; exact ⟨rfl, rfl⟩) | (cases hq; refine ⟨rfl, ?_⟩; simp_all)
theorem bl_pf {o : Nat} {ini : Bool} {f : Option (Nat × Nat)} {pc : Nat} {ls ls' : bw_L} {st : List Value} {h : bw_H} {k : bw_C} (hq : bq_pf o ini f pc ls st h = some k) : k.2.1 = ls ∧ bq_pf o ini f pc ls' st h = some (k.1, ls', k.2.2.1, k.2.2.2) := by
  unfold bq_pf at hq ⊢
  split at hq
  · split at hq
    · rename_i hh
      try simp only
      rw [if_pos hh]
      split at hq
      · rename_i hty; cases hq; (try rw [hty]); exact ⟨rfl, rfl⟩
      · rename_i hty; cases hq; (try rw [hty]); exact ⟨rfl, rfl⟩
      · cases hq
    · rename_i hh
      try simp only
      rw [if_neg hh]
      split at hq
      · rename_i hh2
        rw [if_pos hh2]
        split at hq
        · rename_i hty; cases hq; (try rw [hty]); exact ⟨rfl, rfl⟩
        · rename_i hty; cases hq; (try rw [hty]); exact ⟨rfl, rfl⟩
        · rename_i hty; cases hq; (try rw [hty]); exact ⟨rfl, rfl⟩
        · cases hq
      · cases hq
  · cases hq
theorem bl_gs {b : Bool} {pc : Nat} {ls ls' : bw_L} {st : List Value} {h : bw_H} {k : bw_C} (hq : bq_gs b pc ls st h = some k) : k.2.1 = ls ∧ bq_gs b pc ls' st h = some (k.1, ls', k.2.2.1, k.2.2.2) := by
  unfold bq_gs at hq ⊢
  repeat' split at hq
  all_goals first | (cases hq; done) | (cases hq; exact ⟨rfl, rfl⟩) | (cases hq; refine ⟨rfl, ?_⟩; simp_all)
theorem bl_la  {pc : Nat} {ls ls' : bw_L} {st : List Value} {h : bw_H} {k : bw_C} (hq : bq_la  pc ls st h = some k) : k.2.1 = ls ∧ bq_la  pc ls' st h = some (k.1, ls', k.2.2.1, k.2.2.2) := by
  unfold bq_la at hq ⊢
  repeat' split at hq
  all_goals first | (cases hq; done) | (cases hq; exact ⟨rfl, rfl⟩) | (cases hq; refine ⟨rfl, ?_⟩; simp_all)
theorem bl_ia {X : Nat × (Nat → Int32)} {pc : Nat} {ls ls' : bw_L} {st : List Value} {h : bw_H} {k : bw_C} (hq : bq_ia X pc ls st h = some k) : k.2.1 = ls ∧ bq_ia X pc ls' st h = some (k.1, ls', k.2.2.1, k.2.2.2) := by
  unfold bq_ia at hq ⊢
  repeat' split at hq
  all_goals first | (cases hq; done) | (cases hq; exact ⟨rfl, rfl⟩) | (cases hq; refine ⟨rfl, ?_⟩; simp_all)
theorem bl_ba  {pc : Nat} {ls ls' : bw_L} {st : List Value} {h : bw_H} {k : bw_C} (hq : bq_ba  pc ls st h = some k) : k.2.1 = ls ∧ bq_ba  pc ls' st h = some (k.1, ls', k.2.2.1, k.2.2.2) := by
  unfold bq_ba at hq ⊢
  repeat' split at hq
  all_goals first | (cases hq; done) | (cases hq; exact ⟨rfl, rfl⟩) | (cases hq; refine ⟨rfl, ?_⟩; simp_all)
theorem bl_aa  {pc : Nat} {ls ls' : bw_L} {st : List Value} {h : bw_H} {k : bw_C} (hq : bq_aa  pc ls st h = some k) : k.2.1 = ls ∧ bq_aa  pc ls' st h = some (k.1, ls', k.2.2.1, k.2.2.2) := by
  unfold bq_aa at hq ⊢
  repeat' split at hq
  all_goals first | (cases hq; done) | (cases hq; exact ⟨rfl, rfl⟩) | (cases hq; refine ⟨rfl, ?_⟩; simp_all)
theorem bl_ist  {pc : Nat} {ls ls' : bw_L} {st : List Value} {h : bw_H} {k : bw_C} (hq : bq_ist  pc ls st h = some k) : k.2.1 = ls ∧ bq_ist  pc ls' st h = some (k.1, ls', k.2.2.1, k.2.2.2) := by
  unfold bq_ist at hq ⊢
  repeat' split at hq
  all_goals first | (cases hq; done) | (cases hq; exact ⟨rfl, rfl⟩) | (cases hq; refine ⟨rfl, ?_⟩; simp_all)
theorem bl_bst  {pc : Nat} {ls ls' : bw_L} {st : List Value} {h : bw_H} {k : bw_C} (hq : bq_bst  pc ls st h = some k) : k.2.1 = ls ∧ bq_bst  pc ls' st h = some (k.1, ls', k.2.2.1, k.2.2.2) := by
  unfold bq_bst at hq ⊢
  repeat' split at hq
  all_goals first | (cases hq; done) | (cases hq; exact ⟨rfl, rfl⟩) | (cases hq; refine ⟨rfl, ?_⟩; simp_all)
theorem bl_ast  {pc : Nat} {ls ls' : bw_L} {st : List Value} {h : bw_H} {k : bw_C} (hq : bq_ast  pc ls st h = some k) : k.2.1 = ls ∧ bq_ast  pc ls' st h = some (k.1, ls', k.2.2.1, k.2.2.2) := by
  unfold bq_ast at hq ⊢
  repeat' split at hq
  all_goals first | (cases hq; done) | (cases hq; exact ⟨rfl, rfl⟩) | (cases hq; refine ⟨rfl, ?_⟩; simp_all)
theorem bl_len {X : Nat × (Nat → Int32)} {pc : Nat} {ls ls' : bw_L} {st : List Value} {h : bw_H} {k : bw_C} (hq : bq_len X pc ls st h = some k) : k.2.1 = ls ∧ bq_len X pc ls' st h = some (k.1, ls', k.2.2.1, k.2.2.2) := by
  unfold bq_len at hq ⊢
  repeat' split at hq
  all_goals first | (cases hq; done) | (cases hq; exact ⟨rfl, rfl⟩) | (cases hq; refine ⟨rfl, ?_⟩; simp_all)
theorem bl_oi {b : Bool} {pc : Nat} {ls ls' : bw_L} {st : List Value} {h : bw_H} {k : bw_C} (hq : bq_oi b pc ls st h = some k) : k.2.1 = ls ∧ bq_oi b pc ls' st h = some (k.1, ls', k.2.2.1, k.2.2.2) := by
  unfold bq_oi at hq ⊢
  repeat' split at hq
  all_goals first | (cases hq; done) | (cases hq; exact ⟨rfl, rfl⟩) | (cases hq; refine ⟨rfl, ?_⟩; simp_all)
theorem bl_ac {b : Bool} {pc : Nat} {ls ls' : bw_L} {st : List Value} {h : bw_H} {k : bw_C} (hq : bq_ac b pc ls st h = some k) : k.2.1 = ls ∧ bq_ac b pc ls' st h = some (k.1, ls', k.2.2.1, k.2.2.2) := by
  unfold bq_ac at hq ⊢
  repeat' split at hq
  all_goals first | (cases hq; done) | (cases hq; exact ⟨rfl, rfl⟩) | (cases hq; refine ⟨rfl, ?_⟩; simp_all)
theorem bl_mx {b : Bool} {pc : Nat} {ls ls' : bw_L} {st : List Value} {h : bw_H} {k : bw_C} (hq : bq_mx b pc ls st h = some k) : k.2.1 = ls ∧ bq_mx b pc ls' st h = some (k.1, ls', k.2.2.1, k.2.2.2) := by
  unfold bq_mx at hq ⊢
  split at hq
  · rename_i y x r
    by_cases hh : (List.map (fun v => v.category) r).sum ≤ 8
    · rw [if_pos hh] at hq
      try simp only
      rw [if_pos hh]
      cases hq
      exact ⟨rfl, rfl⟩
    · rw [if_neg hh] at hq; cases hq
  · cases hq
theorem bl_new {c : Option Nat} {pc : Nat} {ls ls' : bw_L} {st : List Value} {h : bw_H} {k : bw_C} (hq : bq_new c pc ls st h = some k) : k.2.1 = ls ∧ bq_new c pc ls' st h = some (k.1, ls', k.2.2.1, k.2.2.2) := by
  unfold bq_new at hq ⊢
  repeat' split at hq
  all_goals first | (cases hq; done) | (cases hq; exact ⟨rfl, rfl⟩) | (cases hq; refine ⟨rfl, ?_⟩; simp_all)
theorem bl_na {t : ArrayType} {pc : Nat} {ls ls' : bw_L} {st : List Value} {h : bw_H} {k : bw_C} (hq : bq_na t pc ls st h = some k) : k.2.1 = ls ∧ bq_na t pc ls' st h = some (k.1, ls', k.2.2.1, k.2.2.2) := by
  unfold bq_na at hq ⊢
  repeat' split at hq
  all_goals first | (cases hq; done) | (cases hq; exact ⟨rfl, rfl⟩) | (cases hq; refine ⟨rfl, ?_⟩; simp_all)
theorem bl_an {b : Bool} {pc : Nat} {ls ls' : bw_L} {st : List Value} {h : bw_H} {k : bw_C} (hq : bq_an b pc ls st h = some k) : k.2.1 = ls ∧ bq_an b pc ls' st h = some (k.1, ls', k.2.2.1, k.2.2.2) := by
  unfold bq_an at hq ⊢
  repeat' split at hq
  all_goals first | (cases hq; done) | (cases hq; exact ⟨rfl, rfl⟩) | (cases hq; refine ⟨rfl, ?_⟩; simp_all)
theorem bl_eq {ls ls' : bw_L} {k : bw_C} {Y : Option bw_C} (hn : bw_nd ls) (hn' : bw_nd ls') (hl : bw_le ls ls') (hz : k.2.1 = ls ∧ Y = some (k.1, ls', k.2.2.1, k.2.2.2)) : ∃ l1, Y = some (k.1, l1, k.2.2.1, k.2.2.2) ∧ bw_nd k.2.1 ∧ bw_nd l1 ∧ bw_le k.2.1 l1 := by
  obtain ⟨h1, h2⟩ := hz
  exact ⟨ls', h2, by rw [h1]; exact hn, hn', by rw [h1]; exact hl⟩
theorem bw_x_le {X : Nat × (Nat → Int32)} {o nL : Nat} {ini : Bool} {i : Instr} {pc : Nat} {ls ls' : bw_L} {st : List Value} {h : bw_H} {k : bw_C} (hn : bw_nd ls) (hn' : bw_nd ls') (hl : bw_le ls ls') (hq : bw_x X o nL ini i pc ls st h = some k) : ∃ l1, bw_x X o nL ini i pc ls' st h = some (k.1, l1, k.2.2.1, k.2.2.2) ∧ bw_nd k.2.1 ∧ bw_nd l1 ∧ bw_le k.2.1 l1 := by
  have eL : ∀ (w j : Nat), bq_il w j pc ls st h = some k → k.2.1 = ls ∧ bq_il w j pc ls' st h = some (k.1, ls', k.2.2.1, k.2.2.2) := by
    intro w j hq
    unfold bq_il at hq ⊢
    split at hq
    · rename_i x hx
      cases hq
      rw [hl _ _ hx]; exact ⟨rfl, rfl⟩
    · cases hq
  have eJ : ∀ (w j : Nat), bq_ll w j pc ls st h = some k → k.2.1 = ls ∧ bq_ll w j pc ls' st h = some (k.1, ls', k.2.2.1, k.2.2.2) := by
    intro w j hq
    unfold bq_ll at hq ⊢
    split at hq
    · rename_i x hx
      cases hq
      rw [hl _ _ hx]; exact ⟨rfl, rfl⟩
    · cases hq
  have eA : ∀ (w j : Nat), bq_al w j pc ls st h = some k → k.2.1 = ls ∧ bq_al w j pc ls' st h = some (k.1, ls', k.2.2.1, k.2.2.2) := by
    intro w j hq
    unfold bq_al at hq ⊢
    split at hq
    · rename_i x hx
      cases hq
      rw [hl _ _ hx]; exact ⟨rfl, rfl⟩
    · rename_i x hx
      cases hq
      rw [hl _ _ hx]; exact ⟨rfl, rfl⟩
    · rename_i hx
      cases hq
      rw [hl _ _ hx]; exact ⟨rfl, rfl⟩
    · cases hq
  have s1 : ∀ (j : Nat) (v : Value), bw_nd (bw_s1 ls j v) ∧ bw_nd (bw_s1 ls' j v) ∧ bw_le (bw_s1 ls j v) (bw_s1 ls' j v) := fun j v => ⟨nd_s1 hn j v, nd_s1 hn' j v, le_s hn hn' hl _ j v⟩
  have s2 : ∀ (j : Nat) (v : Value), bw_nd (bw_s2 ls j v) ∧ bw_nd (bw_s2 ls' j v) ∧ bw_le (bw_s2 ls j v) (bw_s2 ls' j v) := fun j v => ⟨nd_s2 hn j v, nd_s2 hn' j v, le_s hn hn' hl _ j v⟩
  have eI : ∀ (w j : Nat), bq_is nL w j pc ls st h = some k → ∃ l1, bq_is nL w j pc ls' st h = some (k.1, l1, k.2.2.1, k.2.2.2) ∧ bw_nd k.2.1 ∧ bw_nd l1 ∧ bw_le k.2.1 l1 := by
    intro w j hq
    unfold bq_is at hq ⊢
    split at hq
    · split at hq
      · cases hq; exact ⟨_, by simp only; rw [if_pos (by assumption)], s1 _ _⟩
      · cases hq
    · cases hq
  have eS : ∀ (w j : Nat), bq_ls nL w j pc ls st h = some k → ∃ l1, bq_ls nL w j pc ls' st h = some (k.1, l1, k.2.2.1, k.2.2.2) ∧ bw_nd k.2.1 ∧ bw_nd l1 ∧ bw_le k.2.1 l1 := by
    intro w j hq
    unfold bq_ls at hq ⊢
    split at hq
    · split at hq
      · cases hq; exact ⟨_, by simp only; rw [if_pos (by assumption)], s2 _ _⟩
      · cases hq
    · cases hq
  have eT : ∀ (w j : Nat), bq_as nL w j pc ls st h = some k → ∃ l1, bq_as nL w j pc ls' st h = some (k.1, l1, k.2.2.1, k.2.2.2) ∧ bw_nd k.2.1 ∧ bw_nd l1 ∧ bw_le k.2.1 l1 := by
    intro w j hq
    unfold bq_as at hq ⊢
    split at hq
    · split at hq
      · cases hq; exact ⟨_, by simp only; rw [if_pos (by assumption)], s1 _ _⟩
      · cases hq
    · split at hq
      · cases hq; exact ⟨_, by simp only; rw [if_pos (by assumption)], s1 _ _⟩
      · cases hq
    · cases hq
  have eC : ∀ (j : Nat) (n : Int), bq_ic nL j n pc ls st h = some k → ∃ l1, bq_ic nL j n pc ls' st h = some (k.1, l1, k.2.2.1, k.2.2.2) ∧ bw_nd k.2.1 ∧ bw_nd l1 ∧ bw_le k.2.1 l1 := by
    intro j n hq
    unfold bq_ic at hq ⊢
    split at hq
    · rename_i x hx
      rw [hl _ _ hx]
      split at hq
      · cases hq; exact ⟨_, by simp only; rw [if_pos (by assumption)], s1 _ _⟩
      · cases hq
    · cases hq
  cases i with
  | iload a => exact bl_eq (k := k) hn hn' hl (eL _ _ hq)
  | iload_n a => exact bl_eq (k := k) hn hn' hl (eL _ _ hq)
  | lload a => exact bl_eq (k := k) hn hn' hl (eJ _ _ hq)
  | lload_n a => exact bl_eq (k := k) hn hn' hl (eJ _ _ hq)
  | aload a => exact bl_eq (k := k) hn hn' hl (eA _ _ hq)
  | aload_n a => exact bl_eq (k := k) hn hn' hl (eA _ _ hq)
  | istore a => exact eI _ _ hq
  | istore_n a => exact eI _ _ hq
  | lstore a => exact eS _ _ hq
  | lstore_n a => exact eS _ _ hq
  | astore a => exact eT _ _ hq
  | astore_n a => exact eT _ _ hq
  | iinc a n => exact eC _ _ hq
  | iconst a => exact bl_eq (k := k) hn hn' hl (bl_cn hq)
  | bipush a => exact bl_eq (k := k) hn hn' hl (bl_cn hq)
  | sipush a => exact bl_eq (k := k) hn hn' hl (bl_cn hq)
  | lconst a => exact bl_eq (k := k) hn hn' hl (bl_cn hq)
  | aconst_null => exact bl_eq (k := k) hn hn' hl (bl_cn hq)
  | iadd => exact bl_eq (k := k) hn hn' hl (bl_ii hq)
  | isub => exact bl_eq (k := k) hn hn' hl (bl_ii hq)
  | imul => exact bl_eq (k := k) hn hn' hl (bl_ii hq)
  | iand => exact bl_eq (k := k) hn hn' hl (bl_ii hq)
  | ior => exact bl_eq (k := k) hn hn' hl (bl_ii hq)
  | ixor => exact bl_eq (k := k) hn hn' hl (bl_ii hq)
  | ishl => exact bl_eq (k := k) hn hn' hl (bl_ii hq)
  | ishr => exact bl_eq (k := k) hn hn' hl (bl_ii hq)
  | iushr => exact bl_eq (k := k) hn hn' hl (bl_ii hq)
  | idiv => exact bl_eq (k := k) hn hn' hl (bl_id hq)
  | irem => exact bl_eq (k := k) hn hn' hl (bl_id hq)
  | ladd => exact bl_eq (k := k) hn hn' hl (bl_jj hq)
  | lsub => exact bl_eq (k := k) hn hn' hl (bl_jj hq)
  | lmul => exact bl_eq (k := k) hn hn' hl (bl_jj hq)
  | land => exact bl_eq (k := k) hn hn' hl (bl_jj hq)
  | lor => exact bl_eq (k := k) hn hn' hl (bl_jj hq)
  | lxor => exact bl_eq (k := k) hn hn' hl (bl_jj hq)
  | ldiv => exact bl_eq (k := k) hn hn' hl (bl_jd hq)
  | lrem => exact bl_eq (k := k) hn hn' hl (bl_jd hq)
  | lushr => exact bl_eq (k := k) hn hn' hl (bl_ju hq)
  | ineg => exact bl_eq (k := k) hn hn' hl (bl_i1 hq)
  | lneg => exact bl_eq (k := k) hn hn' hl (bl_j1 hq)
  | i2l => exact bl_eq (k := k) hn hn' hl (bl_i1 hq)
  | i2b => exact bl_eq (k := k) hn hn' hl (bl_i1 hq)
  | l2i => exact bl_eq (k := k) hn hn' hl (bl_j1 hq)
  | lcmp => exact bl_eq (k := k) hn hn' hl (bl_cm hq)
  | dup => exact bl_eq (k := k) hn hn' hl (bl_du hq)
  | dup2 => exact bl_eq (k := k) hn hn' hl (bl_d2 hq)
  | goto a => exact bl_eq (k := k) hn hn' hl (bl_go hq)
  | ifnull a => exact bl_eq (k := k) hn hn' hl (bl_nu hq)
  | ifnonnull a => exact bl_eq (k := k) hn hn' hl (bl_nn hq)
  | tableswitch a b d f => exact bl_eq (k := k) hn hn' hl (bl_ts hq)
  | getfield a => exact bl_eq (k := k) hn hn' hl (bl_gf hq)
  | putfield a => exact bl_eq (k := k) hn hn' hl (bl_pf hq)
  | getstatic a => exact bl_eq (k := k) hn hn' hl (bl_gs hq)
  | laload => exact bl_eq (k := k) hn hn' hl (bl_la hq)
  | iaload => exact bl_eq (k := k) hn hn' hl (bl_ia hq)
  | baload => exact absurd (show (none : Option bw_C) = some k from hq) (fun z => by cases z)
  | aaload => exact bl_eq (k := k) hn hn' hl (bl_aa hq)
  | iastore => exact bl_eq (k := k) hn hn' hl (bl_ist hq)
  | bastore => exact absurd (show (none : Option bw_C) = some k from hq) (fun z => by cases z)
  | aastore => exact bl_eq (k := k) hn hn' hl (bl_ast hq)
  | arraylength => exact bl_eq (k := k) hn hn' hl (bl_len hq)
  | new a => exact bl_eq (k := k) hn hn' hl (bl_new hq)
  | newarray a => exact bl_eq (k := k) hn hn' hl (bl_na hq)
  | anewarray a => exact bl_eq (k := k) hn hn' hl (bl_an hq)
  | invokespecial a => exact bl_eq (k := k) hn hn' hl (bl_oi hq)
  | ldc a =>
    have hq' : (match bw_kc o a with | some (.int v) => bq_cn 2 (.int v) | _ => fun _ _ _ _ => none) pc ls st h = some k := hq
    show ∃ l1, (match bw_kc o a with | some (.int v) => bq_cn 2 (.int v) | _ => fun _ _ _ _ => none) pc ls' st h = _ ∧ _
    cases hkc : bw_kc o a with
    | none => rw [hkc] at hq'; cases hq'
    | some v =>
      rw [hkc] at hq'
      cases v with
      | int v => exact bl_eq (k := k) hn hn' hl (bl_cn hq')
      | _ => cases hq'
  | ldc_w a =>
    have hq' : (match bw_kc o a with | some (.int v) => bq_cn 3 (.int v) | _ => fun _ _ _ _ => none) pc ls st h = some k := hq
    show ∃ l1, (match bw_kc o a with | some (.int v) => bq_cn 3 (.int v) | _ => fun _ _ _ _ => none) pc ls' st h = _ ∧ _
    cases hkc : bw_kc o a with
    | none => rw [hkc] at hq'; cases hq'
    | some v =>
      rw [hkc] at hq'
      cases v with
      | int v => exact bl_eq (k := k) hn hn' hl (bl_cn hq')
      | _ => cases hq'
  | ldc2_w a =>
    have hq' : (match bw_kc o a with | some (.long v) => bq_cn 3 (.long v) | _ => fun _ _ _ _ => none) pc ls st h = some k := hq
    show ∃ l1, (match bw_kc o a with | some (.long v) => bq_cn 3 (.long v) | _ => fun _ _ _ _ => none) pc ls' st h = _ ∧ _
    cases hkc : bw_kc o a with
    | none => rw [hkc] at hq'; cases hq'
    | some v =>
      rw [hkc] at hq'
      cases v with
      | long v => exact bl_eq (k := k) hn hn' hl (bl_cn hq')
      | _ => cases hq'
  | ifCond cd off => cases cd <;> exact bl_eq (k := k) hn hn' hl (bl_if hq)
  | if_icmp cd off => cases cd <;> exact bl_eq (k := k) hn hn' hl (bl_cp hq)
  | invokestatic a =>
    have hq' : (match bw_mx o a with | some b => bq_mx b | none => bq_ac (bw_ac o a)) pc ls st h = some k := hq
    show ∃ l1, (match bw_mx o a with | some b => bq_mx b | none => bq_ac (bw_ac o a)) pc ls' st h = _ ∧ _
    cases hmx : bw_mx o a with
    | some b => rw [hmx] at hq'; exact bl_eq (k := k) hn hn' hl (bl_mx hq')
    | none => rw [hmx] at hq'; exact bl_eq (k := k) hn hn' hl (bl_ac hq')
  | _ => exact absurd (show (none : Option bw_C) = some k from hq) (fun z => by cases z)
/-- an instruction that does nothing here with few locals may do something with more: not an end, not a call -/
theorem bw_x_end {X : Nat × (Nat → Int32)} {o nL : Nat} {ini : Bool} {i : Instr} {pc : Nat} {ls : bw_L} {st : List Value} {h : bw_H} {rt : Option FieldType} {v : Option Value} (he : bw_e rt i st = some v) : bw_x X o nL ini i pc ls st h = none := by
  unfold bw_e at he
  split at he <;> first | rfl | cases he
theorem bw_x_call {X : Nat × (Nat → Int32)} {o nL : Nat} {ini : Bool} {i : Instr} {pc : Nat} {ls ls' : bw_L} {st : List Value} {h : bw_H} {z : bw_M × Bool × List Value × List Value} (hc : bw_c o i st h = some z) (hx : bw_x X o nL ini i pc ls st h = none) : bw_x X o nL ini i pc ls' st h = none := by
  cases hx' : bw_x X o nL ini i pc ls' st h with
  | none => rfl
  | some k =>
    exfalso
    unfold bw_c at hc
    split at hc
    · rename_i a
      have h1 : (match bw_mx o a with | some b => bq_mx b | none => bq_ac (bw_ac o a)) pc ls' st h = some k := hx'
      have h2 : (match bw_mx o a with | some b => bq_mx b | none => bq_ac (bw_ac o a)) pc ls st h = none := hx
      cases hmx : bw_mx o a with
      | some b => rw [hmx] at h1 h2; have := (bl_mx (ls' := ls) h1).2; have h3 : bq_mx b pc ls st h = none := h2; rw [h3] at this; cases this
      | none => rw [hmx] at h1 h2; have := (bl_ac (ls' := ls) h1).2; have h3 : bq_ac (bw_ac o a) pc ls st h = none := h2; rw [h3] at this; cases this
    · cases (show (none : Option bw_C) = some k from hx')
    · rename_i a
      have h1 : bq_oi (bw_oi o a) pc ls' st h = some k := hx'
      have h2 : bq_oi (bw_oi o a) pc ls st h = none := hx
      have := (bl_oi (ls' := ls) h1).2
      rw [h2] at this; cases this
    · cases hc
theorem bw_run_le (X : Nat × (Nat → Int32)) : ∀ (n d o nL : Nat) (ini : Bool) (rt : Option FieldType) (cc : ByteArray) (pc : Nat) (ls ls' : bw_L) (st : List Value) (h : bw_H) (r : Option Value × bw_H), bw_nd ls → bw_nd ls' → bw_le ls ls' → bw_run X n d o nL ini rt cc pc ls st h = some r → bw_run X n d o nL ini rt cc pc ls' st h = some r := by
  intro n
  induction n with
  | zero => intro d o nL ini rt cc pc ls ls' st h r _ _ _ hr; unfold bw_run at hr; cases hr
  | succ n ih =>
    intro d o nL ini rt cc pc ls ls' st h r hn hn' hl hr
    unfold bw_run at hr ⊢
    split at hr
    · cases hr
    · rename_i i len hdg
      try simp only
      split at hr
      · cases hr
      · rename_i hw
        rw [if_neg hw]
        split at hr
        · rename_i hx
          obtain ⟨l1, e1, e2, e3, e4⟩ := bw_x_le hn hn' hl hx
          rw [e1]
          exact ih _ _ _ _ _ _ _ _ _ _ _ _ e2 e3 e4 hr
        · rename_i hx
          split at hr
          · rename_i he
            rw [bw_x_end he]
            try simp only
            try rw [he]
            exact hr
          · rename_i he
            split at hr
            · cases hr
            · split at hr
              · rename_i hc
                rw [bw_x_call hc hx]
                try simp only
                try rw [he]
                try simp only
                try rw [hc]
                try simp only
                split at hr
                · rename_i hrun
                  try rw [hrun]
                  try simp only
                  exact ih _ _ _ _ _ _ _ _ _ _ _ _ hn hn' hl hr
                · cases hr
              · cases hr
theorem go_ls {X : Nat × (Nat → Int32)} {d o nL : Nat} {ini : Bool} {rt : Option FieldType} {cc : ByteArray} {pc : Nat} (ls : bw_L) {ls' : bw_L} {st : List Value} {h : bw_H} {Q : Option Value → bw_H → Prop} (hn : bw_nd ls) (hn' : bw_nd ls') (hl : bw_le ls ls') (K : bw_go X d o nL ini rt cc pc ls st h Q) : bw_go X d o nL ini rt cc pc ls' st h Q := by
  obtain ⟨n, v, h', h1, h2⟩ := K
  exact ⟨n, v, h', bw_run_le X _ _ _ _ _ _ _ _ _ _ _ _ _ hn hn' hl h1, h2⟩
theorem le_nil (ls' : bw_L) : bw_le [] ls' := fun i v h => by rw [lg_nil] at h; cases h
theorem le_cons {i : Nat} {v : Value} {ls ls' : bw_L} (h1 : bw_lg ls' i = some v) (h2 : bw_le ls ls') : bw_le ((i, v) :: ls) ls' := by
  intro j w hw
  rw [lg_cons] at hw
  by_cases hj : i = j
  · subst hj; rw [if_pos rfl] at hw; rw [h1]; exact hw
  · rw [if_neg hj] at hw; exact h2 j w hw
end
