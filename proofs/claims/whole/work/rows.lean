section
-- ===== PART A: goes FIRST, ahead of the names: the tables' words, and 'selects' of the private methods out of them =====
/-- a private method of a class that the tables say can be made, by its rows of tables_1 -/
def lw_okq (q : MethodName × Nat) : Prop := (q.1.cls ≠ "java/lang/invoke/MethodHandle" ∧ q.1.cls ≠ "java/lang/invoke/VarHandle") ∧ Cond.instantiable q.1.cls q.2 ∈ tables_1 ∧ Cond.privateMethod q.1 ∈ tables_1 ∧ Cond.instanceMethod q.1 ∈ tables_1
theorem lw_p0 : lw_okq (⟨"BearWitness$Cells", "set", "(II)V"⟩, 1) := ⟨⟨by decide +kernel, by decide +kernel⟩, List.mem_of_getElem? (i := 29) (by decide +kernel), List.mem_of_getElem? (i := 40) (by decide +kernel), List.mem_of_getElem? (i := 41) (by decide +kernel)⟩
theorem lw_p1 : lw_okq (⟨"BearWitness$Shelf", "isNumber", "(I)Z"⟩, 4) := ⟨⟨by decide +kernel, by decide +kernel⟩, List.mem_of_getElem? (i := 23) (by decide +kernel), List.mem_of_getElem? (i := 250) (by decide +kernel), List.mem_of_getElem? (i := 251) (by decide +kernel)⟩
theorem lw_p2 : lw_okq (⟨"BearWitness", "found", "(I)I"⟩, 14) := ⟨⟨by decide +kernel, by decide +kernel⟩, List.mem_of_getElem? (i := 15) (by decide +kernel), List.mem_of_getElem? (i := 254) (by decide +kernel), List.mem_of_getElem? (i := 255) (by decide +kernel)⟩
theorem lw_p3 : lw_okq (⟨"BearWitness$Cells", "get", "(I)I"⟩, 1) := ⟨⟨by decide +kernel, by decide +kernel⟩, List.mem_of_getElem? (i := 29) (by decide +kernel), List.mem_of_getElem? (i := 258) (by decide +kernel), List.mem_of_getElem? (i := 259) (by decide +kernel)⟩
theorem lw_p4 : lw_okq (⟨"BearWitness$Shelf", "make", "(III)V"⟩, 4) := ⟨⟨by decide +kernel, by decide +kernel⟩, List.mem_of_getElem? (i := 23) (by decide +kernel), List.mem_of_getElem? (i := 263) (by decide +kernel), List.mem_of_getElem? (i := 264) (by decide +kernel)⟩
theorem lw_p5 : lw_okq (⟨"BearWitness$Shelf", "has", "(I)Z"⟩, 4) := ⟨⟨by decide +kernel, by decide +kernel⟩, List.mem_of_getElem? (i := 23) (by decide +kernel), List.mem_of_getElem? (i := 275) (by decide +kernel), List.mem_of_getElem? (i := 276) (by decide +kernel)⟩
theorem lw_p6 : lw_okq (⟨"BearWitness$Shelf", "sizeOf", "(I)I"⟩, 4) := ⟨⟨by decide +kernel, by decide +kernel⟩, List.mem_of_getElem? (i := 23) (by decide +kernel), List.mem_of_getElem? (i := 279) (by decide +kernel), List.mem_of_getElem? (i := 280) (by decide +kernel)⟩
theorem lw_p7 : lw_okq (⟨"BearWitness$Shelf", "hasPlace", "(II)Z"⟩, 4) := ⟨⟨by decide +kernel, by decide +kernel⟩, List.mem_of_getElem? (i := 23) (by decide +kernel), List.mem_of_getElem? (i := 284) (by decide +kernel), List.mem_of_getElem? (i := 285) (by decide +kernel)⟩
theorem lw_p8 : lw_okq (⟨"BearWitness$Shelf", "get", "(II)I"⟩, 4) := ⟨⟨by decide +kernel, by decide +kernel⟩, List.mem_of_getElem? (i := 23) (by decide +kernel), List.mem_of_getElem? (i := 288) (by decide +kernel), List.mem_of_getElem? (i := 289) (by decide +kernel)⟩
theorem lw_p9 : lw_okq (⟨"BearWitness$Shelf", "set", "(III)V"⟩, 4) := ⟨⟨by decide +kernel, by decide +kernel⟩, List.mem_of_getElem? (i := 23) (by decide +kernel), List.mem_of_getElem? (i := 293) (by decide +kernel), List.mem_of_getElem? (i := 294) (by decide +kernel)⟩
theorem lw_p10 : lw_okq (⟨"BearWitness$Shelf", "drop", "(I)V"⟩, 4) := ⟨⟨by decide +kernel, by decide +kernel⟩, List.mem_of_getElem? (i := 23) (by decide +kernel), List.mem_of_getElem? (i := 305) (by decide +kernel), List.mem_of_getElem? (i := 306) (by decide +kernel)⟩
theorem lw_p11 : lw_okq (⟨"BearWitness$Shelf", "hasSpan", "(III)Z"⟩, 4) := ⟨⟨by decide +kernel, by decide +kernel⟩, List.mem_of_getElem? (i := 23) (by decide +kernel), List.mem_of_getElem? (i := 313) (by decide +kernel), List.mem_of_getElem? (i := 314) (by decide +kernel)⟩
theorem lw_p12 : lw_okq (⟨"BearWitness$Shelf", "move", "(IIIII)V"⟩, 4) := ⟨⟨by decide +kernel, by decide +kernel⟩, List.mem_of_getElem? (i := 23) (by decide +kernel), List.mem_of_getElem? (i := 317) (by decide +kernel), List.mem_of_getElem? (i := 318) (by decide +kernel)⟩
theorem lw_p13 : lw_okq (⟨"BearWitness$Cells", "move", "(III)V"⟩, 1) := ⟨⟨by decide +kernel, by decide +kernel⟩, List.mem_of_getElem? (i := 29) (by decide +kernel), List.mem_of_getElem? (i := 322) (by decide +kernel), List.mem_of_getElem? (i := 323) (by decide +kernel)⟩
theorem lw_p14 : lw_okq (⟨"BearWitness$Shelf", "sumOf", "(I)J"⟩, 4) := ⟨⟨by decide +kernel, by decide +kernel⟩, List.mem_of_getElem? (i := 23) (by decide +kernel), List.mem_of_getElem? (i := 334) (by decide +kernel), List.mem_of_getElem? (i := 335) (by decide +kernel)⟩
theorem lw_p15 : lw_okq (⟨"BearWitness$Reader", "readInto", "(LBearWitness$Court;LBearWitness$Shelf;I)I"⟩, 3) := ⟨⟨by decide +kernel, by decide +kernel⟩, List.mem_of_getElem? (i := 118) (by decide +kernel), List.mem_of_getElem? (i := 351) (by decide +kernel), List.mem_of_getElem? (i := 352) (by decide +kernel)⟩
def lw_privs_1 : List (MethodName × Nat) := [(⟨"BearWitness$Cells", "set", "(II)V"⟩, 1), (⟨"BearWitness$Shelf", "isNumber", "(I)Z"⟩, 4), (⟨"BearWitness", "found", "(I)I"⟩, 14), (⟨"BearWitness$Cells", "get", "(I)I"⟩, 1), (⟨"BearWitness$Shelf", "make", "(III)V"⟩, 4), (⟨"BearWitness$Shelf", "has", "(I)Z"⟩, 4), (⟨"BearWitness$Shelf", "sizeOf", "(I)I"⟩, 4), (⟨"BearWitness$Shelf", "hasPlace", "(II)Z"⟩, 4), (⟨"BearWitness$Shelf", "get", "(II)I"⟩, 4), (⟨"BearWitness$Shelf", "set", "(III)V"⟩, 4), (⟨"BearWitness$Shelf", "drop", "(I)V"⟩, 4), (⟨"BearWitness$Shelf", "hasSpan", "(III)Z"⟩, 4), (⟨"BearWitness$Shelf", "move", "(IIIII)V"⟩, 4), (⟨"BearWitness$Cells", "move", "(III)V"⟩, 1), (⟨"BearWitness$Shelf", "sumOf", "(I)J"⟩, 4), (⟨"BearWitness$Reader", "readInto", "(LBearWitness$Court;LBearWitness$Shelf;I)I"⟩, 3)]
theorem lw_r1 : ∀ q ∈ lw_privs_1, lw_okq q := List.forall_mem_cons.mpr ⟨lw_p0, List.forall_mem_cons.mpr ⟨lw_p1, List.forall_mem_cons.mpr ⟨lw_p2, List.forall_mem_cons.mpr ⟨lw_p3, List.forall_mem_cons.mpr ⟨lw_p4, List.forall_mem_cons.mpr ⟨lw_p5, List.forall_mem_cons.mpr ⟨lw_p6, List.forall_mem_cons.mpr ⟨lw_p7, List.forall_mem_cons.mpr ⟨lw_p8, List.forall_mem_cons.mpr ⟨lw_p9, List.forall_mem_cons.mpr ⟨lw_p10, List.forall_mem_cons.mpr ⟨lw_p11, List.forall_mem_cons.mpr ⟨lw_p12, List.forall_mem_cons.mpr ⟨lw_p13, List.forall_mem_cons.mpr ⟨lw_p14, List.forall_mem_cons.mpr ⟨lw_p15, fun _ h => absurd h List.not_mem_nil⟩⟩⟩⟩⟩⟩⟩⟩⟩⟩⟩⟩⟩⟩⟩⟩
theorem lw_p16 : lw_okq (⟨"BearWitness$Court", "clear", "()V"⟩, 10) := ⟨⟨by decide +kernel, by decide +kernel⟩, List.mem_of_getElem? (i := 57) (by decide +kernel), List.mem_of_getElem? (i := 356) (by decide +kernel), List.mem_of_getElem? (i := 357) (by decide +kernel)⟩
theorem lw_p17 : lw_okq (⟨"BearWitness$Reader", "skipBlanks", "(LBearWitness$Shelf;I)V"⟩, 3) := ⟨⟨by decide +kernel, by decide +kernel⟩, List.mem_of_getElem? (i := 118) (by decide +kernel), List.mem_of_getElem? (i := 360) (by decide +kernel), List.mem_of_getElem? (i := 361) (by decide +kernel)⟩
theorem lw_p18 : lw_okq (⟨"BearWitness$Reader", "byteHere", "(LBearWitness$Shelf;I)I"⟩, 3) := ⟨⟨by decide +kernel, by decide +kernel⟩, List.mem_of_getElem? (i := 118) (by decide +kernel), List.mem_of_getElem? (i := 365) (by decide +kernel), List.mem_of_getElem? (i := 366) (by decide +kernel)⟩
theorem lw_p19 : lw_okq (⟨"BearWitness$Reader", "twoFigures", "(LBearWitness$Shelf;I)I"⟩, 3) := ⟨⟨by decide +kernel, by decide +kernel⟩, List.mem_of_getElem? (i := 118) (by decide +kernel), List.mem_of_getElem? (i := 369) (by decide +kernel), List.mem_of_getElem? (i := 370) (by decide +kernel)⟩
theorem lw_p20 : lw_okq (⟨"BearWitness$Reader", "oneFigure", "(LBearWitness$Shelf;II)I"⟩, 3) := ⟨⟨by decide +kernel, by decide +kernel⟩, List.mem_of_getElem? (i := 118) (by decide +kernel), List.mem_of_getElem? (i := 373) (by decide +kernel), List.mem_of_getElem? (i := 374) (by decide +kernel)⟩
theorem lw_p21 : lw_okq (⟨"BearWitness$Reader", "fail", "(I)V"⟩, 3) := ⟨⟨by decide +kernel, by decide +kernel⟩, List.mem_of_getElem? (i := 118) (by decide +kernel), List.mem_of_getElem? (i := 377) (by decide +kernel), List.mem_of_getElem? (i := 378) (by decide +kernel)⟩
theorem lw_p22 : lw_okq (⟨"BearWitness$Reader", "readBear", "(LBearWitness$Court;LBearWitness$Shelf;I)V"⟩, 3) := ⟨⟨by decide +kernel, by decide +kernel⟩, List.mem_of_getElem? (i := 118) (by decide +kernel), List.mem_of_getElem? (i := 381) (by decide +kernel), List.mem_of_getElem? (i := 382) (by decide +kernel)⟩
theorem lw_p23 : lw_okq (⟨"BearWitness$Court", "seat", "(IIII)V"⟩, 10) := ⟨⟨by decide +kernel, by decide +kernel⟩, List.mem_of_getElem? (i := 57) (by decide +kernel), List.mem_of_getElem? (i := 388) (by decide +kernel), List.mem_of_getElem? (i := 389) (by decide +kernel)⟩
theorem lw_p24 : lw_okq (⟨"BearWitness$Court", "take", "(LBearWitness$Court;)V"⟩, 10) := ⟨⟨by decide +kernel, by decide +kernel⟩, List.mem_of_getElem? (i := 57) (by decide +kernel), List.mem_of_getElem? (i := 397) (by decide +kernel), List.mem_of_getElem? (i := 398) (by decide +kernel)⟩
theorem lw_p25 : lw_okq (⟨"BearWitness$Cells", "take", "(LBearWitness$Cells;)V"⟩, 1) := ⟨⟨by decide +kernel, by decide +kernel⟩, List.mem_of_getElem? (i := 29) (by decide +kernel), List.mem_of_getElem? (i := 401) (by decide +kernel), List.mem_of_getElem? (i := 402) (by decide +kernel)⟩
theorem lw_p26 : lw_okq (⟨"BearWitness", "forgetKept", "(I)V"⟩, 14) := ⟨⟨by decide +kernel, by decide +kernel⟩, List.mem_of_getElem? (i := 15) (by decide +kernel), List.mem_of_getElem? (i := 406) (by decide +kernel), List.mem_of_getElem? (i := 407) (by decide +kernel)⟩
theorem lw_p27 : lw_okq (⟨"BearWitness", "keptIn", "(I)LBearWitness$Court;"⟩, 14) := ⟨⟨by decide +kernel, by decide +kernel⟩, List.mem_of_getElem? (i := 15) (by decide +kernel), List.mem_of_getElem? (i := 410) (by decide +kernel), List.mem_of_getElem? (i := 411) (by decide +kernel)⟩
theorem lw_p28 : lw_okq (⟨"BearWitness$Court", "hasBear", "(I)Z"⟩, 10) := ⟨⟨by decide +kernel, by decide +kernel⟩, List.mem_of_getElem? (i := 57) (by decide +kernel), List.mem_of_getElem? (i := 419) (by decide +kernel), List.mem_of_getElem? (i := 420) (by decide +kernel)⟩
theorem lw_p29 : lw_okq (⟨"BearWitness", "ofBear", "(II)I"⟩, 14) := ⟨⟨by decide +kernel, by decide +kernel⟩, List.mem_of_getElem? (i := 15) (by decide +kernel), List.mem_of_getElem? (i := 423) (by decide +kernel), List.mem_of_getElem? (i := 424) (by decide +kernel)⟩
theorem lw_p30 : lw_okq (⟨"BearWitness$Court", "toldOf", "(III)I"⟩, 10) := ⟨⟨by decide +kernel, by decide +kernel⟩, List.mem_of_getElem? (i := 57) (by decide +kernel), List.mem_of_getElem? (i := 430) (by decide +kernel), List.mem_of_getElem? (i := 431) (by decide +kernel)⟩
theorem lw_p31 : lw_okq (⟨"BearWitness$Court", "seenBy", "(III)I"⟩, 10) := ⟨⟨by decide +kernel, by decide +kernel⟩, List.mem_of_getElem? (i := 57) (by decide +kernel), List.mem_of_getElem? (i := 435) (by decide +kernel), List.mem_of_getElem? (i := 436) (by decide +kernel)⟩
def lw_privs_2 : List (MethodName × Nat) := [(⟨"BearWitness$Court", "clear", "()V"⟩, 10), (⟨"BearWitness$Reader", "skipBlanks", "(LBearWitness$Shelf;I)V"⟩, 3), (⟨"BearWitness$Reader", "byteHere", "(LBearWitness$Shelf;I)I"⟩, 3), (⟨"BearWitness$Reader", "twoFigures", "(LBearWitness$Shelf;I)I"⟩, 3), (⟨"BearWitness$Reader", "oneFigure", "(LBearWitness$Shelf;II)I"⟩, 3), (⟨"BearWitness$Reader", "fail", "(I)V"⟩, 3), (⟨"BearWitness$Reader", "readBear", "(LBearWitness$Court;LBearWitness$Shelf;I)V"⟩, 3), (⟨"BearWitness$Court", "seat", "(IIII)V"⟩, 10), (⟨"BearWitness$Court", "take", "(LBearWitness$Court;)V"⟩, 10), (⟨"BearWitness$Cells", "take", "(LBearWitness$Cells;)V"⟩, 1), (⟨"BearWitness", "forgetKept", "(I)V"⟩, 14), (⟨"BearWitness", "keptIn", "(I)LBearWitness$Court;"⟩, 14), (⟨"BearWitness$Court", "hasBear", "(I)Z"⟩, 10), (⟨"BearWitness", "ofBear", "(II)I"⟩, 14), (⟨"BearWitness$Court", "toldOf", "(III)I"⟩, 10), (⟨"BearWitness$Court", "seenBy", "(III)I"⟩, 10)]
theorem lw_r2 : ∀ q ∈ lw_privs_2, lw_okq q := List.forall_mem_cons.mpr ⟨lw_p16, List.forall_mem_cons.mpr ⟨lw_p17, List.forall_mem_cons.mpr ⟨lw_p18, List.forall_mem_cons.mpr ⟨lw_p19, List.forall_mem_cons.mpr ⟨lw_p20, List.forall_mem_cons.mpr ⟨lw_p21, List.forall_mem_cons.mpr ⟨lw_p22, List.forall_mem_cons.mpr ⟨lw_p23, List.forall_mem_cons.mpr ⟨lw_p24, List.forall_mem_cons.mpr ⟨lw_p25, List.forall_mem_cons.mpr ⟨lw_p26, List.forall_mem_cons.mpr ⟨lw_p27, List.forall_mem_cons.mpr ⟨lw_p28, List.forall_mem_cons.mpr ⟨lw_p29, List.forall_mem_cons.mpr ⟨lw_p30, List.forall_mem_cons.mpr ⟨lw_p31, fun _ h => absurd h List.not_mem_nil⟩⟩⟩⟩⟩⟩⟩⟩⟩⟩⟩⟩⟩⟩⟩⟩
theorem lw_p32 : lw_okq (⟨"BearWitness$Court", "markOf", "(II)I"⟩, 10) := ⟨⟨by decide +kernel, by decide +kernel⟩, List.mem_of_getElem? (i := 57) (by decide +kernel), List.mem_of_getElem? (i := 448) (by decide +kernel), List.mem_of_getElem? (i := 449) (by decide +kernel)⟩
theorem lw_p33 : lw_okq (⟨"BearWitness", "answerDeed", "(II)I"⟩, 14) := ⟨⟨by decide +kernel, by decide +kernel⟩, List.mem_of_getElem? (i := 15) (by decide +kernel), List.mem_of_getElem? (i := 465) (by decide +kernel), List.mem_of_getElem? (i := 466) (by decide +kernel)⟩
theorem lw_p34 : lw_okq (⟨"BearWitness$Court", "canBe", "(II)Z"⟩, 10) := ⟨⟨by decide +kernel, by decide +kernel⟩, List.mem_of_getElem? (i := 57) (by decide +kernel), List.mem_of_getElem? (i := 469) (by decide +kernel), List.mem_of_getElem? (i := 470) (by decide +kernel)⟩
theorem lw_p35 : lw_okq (⟨"BearWitness$Court", "commit", "(II)V"⟩, 10) := ⟨⟨by decide +kernel, by decide +kernel⟩, List.mem_of_getElem? (i := 57) (by decide +kernel), List.mem_of_getElem? (i := 473) (by decide +kernel), List.mem_of_getElem? (i := 474) (by decide +kernel)⟩
theorem lw_p36 : lw_okq (⟨"BearWitness$Court", "change", "(III)V"⟩, 10) := ⟨⟨by decide +kernel, by decide +kernel⟩, List.mem_of_getElem? (i := 57) (by decide +kernel), List.mem_of_getElem? (i := 477) (by decide +kernel), List.mem_of_getElem? (i := 478) (by decide +kernel)⟩
theorem lw_p37 : lw_okq (⟨"BearWitness$Court", "takeBackTo", "(I)V"⟩, 10) := ⟨⟨by decide +kernel, by decide +kernel⟩, List.mem_of_getElem? (i := 57) (by decide +kernel), List.mem_of_getElem? (i := 497) (by decide +kernel), List.mem_of_getElem? (i := 498) (by decide +kernel)⟩
theorem lw_p38 : lw_okq (⟨"BearWitness$Court", "answerOf", "(II)I"⟩, 10) := ⟨⟨by decide +kernel, by decide +kernel⟩, List.mem_of_getElem? (i := 57) (by decide +kernel), List.mem_of_getElem? (i := 516) (by decide +kernel), List.mem_of_getElem? (i := 517) (by decide +kernel)⟩
theorem lw_p39 : lw_okq (⟨"BearWitness$Court", "answerIf", "(IIII)I"⟩, 10) := ⟨⟨by decide +kernel, by decide +kernel⟩, List.mem_of_getElem? (i := 57) (by decide +kernel), List.mem_of_getElem? (i := 520) (by decide +kernel), List.mem_of_getElem? (i := 521) (by decide +kernel)⟩
theorem lw_p40 : lw_okq (⟨"BearWitness$Court", "isSet", "(I)Z"⟩, 10) := ⟨⟨by decide +kernel, by decide +kernel⟩, List.mem_of_getElem? (i := 57) (by decide +kernel), List.mem_of_getElem? (i := 532) (by decide +kernel), List.mem_of_getElem? (i := 533) (by decide +kernel)⟩
theorem lw_p41 : lw_okq (⟨"BearWitness$Court", "allBears", "()I"⟩, 10) := ⟨⟨by decide +kernel, by decide +kernel⟩, List.mem_of_getElem? (i := 57) (by decide +kernel), List.mem_of_getElem? (i := 536) (by decide +kernel), List.mem_of_getElem? (i := 537) (by decide +kernel)⟩
theorem lw_p42 : lw_okq (⟨"BearWitness$Tally", "hear", "(LBearWitness$Court;)V"⟩, 3) := ⟨⟨by decide +kernel, by decide +kernel⟩, List.mem_of_getElem? (i := 155) (by decide +kernel), List.mem_of_getElem? (i := 540) (by decide +kernel), List.mem_of_getElem? (i := 541) (by decide +kernel)⟩
theorem lw_p43 : lw_okq (⟨"BearWitness$Tally", "tiedBy", "(I)I"⟩, 3) := ⟨⟨by decide +kernel, by decide +kernel⟩, List.mem_of_getElem? (i := 155) (by decide +kernel), List.mem_of_getElem? (i := 548) (by decide +kernel), List.mem_of_getElem? (i := 549) (by decide +kernel)⟩
theorem lw_p44 : lw_okq (⟨"BearWitness$Tally", "balance", "(II)I"⟩, 3) := ⟨⟨by decide +kernel, by decide +kernel⟩, List.mem_of_getElem? (i := 155) (by decide +kernel), List.mem_of_getElem? (i := 552) (by decide +kernel), List.mem_of_getElem? (i := 553) (by decide +kernel)⟩
theorem lw_p45 : lw_okq (⟨"BearWitness$Tally", "toldBy", "(I)I"⟩, 3) := ⟨⟨by decide +kernel, by decide +kernel⟩, List.mem_of_getElem? (i := 155) (by decide +kernel), List.mem_of_getElem? (i := 557) (by decide +kernel), List.mem_of_getElem? (i := 558) (by decide +kernel)⟩
theorem lw_p46 : lw_okq (⟨"BearWitness$Tally", "shownBy", "(I)I"⟩, 3) := ⟨⟨by decide +kernel, by decide +kernel⟩, List.mem_of_getElem? (i := 155) (by decide +kernel), List.mem_of_getElem? (i := 561) (by decide +kernel), List.mem_of_getElem? (i := 562) (by decide +kernel)⟩
theorem lw_p47 : lw_okq (⟨"BearWitness$Trial", "open", "(LBearWitness$Court;II)V"⟩, 6) := ⟨⟨by decide +kernel, by decide +kernel⟩, List.mem_of_getElem? (i := 173) (by decide +kernel), List.mem_of_getElem? (i := 575) (by decide +kernel), List.mem_of_getElem? (i := 576) (by decide +kernel)⟩
def lw_privs_3 : List (MethodName × Nat) := [(⟨"BearWitness$Court", "markOf", "(II)I"⟩, 10), (⟨"BearWitness", "answerDeed", "(II)I"⟩, 14), (⟨"BearWitness$Court", "canBe", "(II)Z"⟩, 10), (⟨"BearWitness$Court", "commit", "(II)V"⟩, 10), (⟨"BearWitness$Court", "change", "(III)V"⟩, 10), (⟨"BearWitness$Court", "takeBackTo", "(I)V"⟩, 10), (⟨"BearWitness$Court", "answerOf", "(II)I"⟩, 10), (⟨"BearWitness$Court", "answerIf", "(IIII)I"⟩, 10), (⟨"BearWitness$Court", "isSet", "(I)Z"⟩, 10), (⟨"BearWitness$Court", "allBears", "()I"⟩, 10), (⟨"BearWitness$Tally", "hear", "(LBearWitness$Court;)V"⟩, 3), (⟨"BearWitness$Tally", "tiedBy", "(I)I"⟩, 3), (⟨"BearWitness$Tally", "balance", "(II)I"⟩, 3), (⟨"BearWitness$Tally", "toldBy", "(I)I"⟩, 3), (⟨"BearWitness$Tally", "shownBy", "(I)I"⟩, 3), (⟨"BearWitness$Trial", "open", "(LBearWitness$Court;II)V"⟩, 6)]
theorem lw_r3 : ∀ q ∈ lw_privs_3, lw_okq q := List.forall_mem_cons.mpr ⟨lw_p32, List.forall_mem_cons.mpr ⟨lw_p33, List.forall_mem_cons.mpr ⟨lw_p34, List.forall_mem_cons.mpr ⟨lw_p35, List.forall_mem_cons.mpr ⟨lw_p36, List.forall_mem_cons.mpr ⟨lw_p37, List.forall_mem_cons.mpr ⟨lw_p38, List.forall_mem_cons.mpr ⟨lw_p39, List.forall_mem_cons.mpr ⟨lw_p40, List.forall_mem_cons.mpr ⟨lw_p41, List.forall_mem_cons.mpr ⟨lw_p42, List.forall_mem_cons.mpr ⟨lw_p43, List.forall_mem_cons.mpr ⟨lw_p44, List.forall_mem_cons.mpr ⟨lw_p45, List.forall_mem_cons.mpr ⟨lw_p46, List.forall_mem_cons.mpr ⟨lw_p47, fun _ h => absurd h List.not_mem_nil⟩⟩⟩⟩⟩⟩⟩⟩⟩⟩⟩⟩⟩⟩⟩⟩
theorem lw_p48 : lw_okq (⟨"BearWitness$Trial", "worthNow", "(I)I"⟩, 6) := ⟨⟨by decide +kernel, by decide +kernel⟩, List.mem_of_getElem? (i := 173) (by decide +kernel), List.mem_of_getElem? (i := 587) (by decide +kernel), List.mem_of_getElem? (i := 588) (by decide +kernel)⟩
theorem lw_p49 : lw_okq (⟨"BearWitness$Trial", "fewestPresses", "()I"⟩, 6) := ⟨⟨by decide +kernel, by decide +kernel⟩, List.mem_of_getElem? (i := 173) (by decide +kernel), List.mem_of_getElem? (i := 591) (by decide +kernel), List.mem_of_getElem? (i := 592) (by decide +kernel)⟩
theorem lw_p50 : lw_okq (⟨"BearWitness$Trial", "pressOn", "(III)Z"⟩, 6) := ⟨⟨by decide +kernel, by decide +kernel⟩, List.mem_of_getElem? (i := 173) (by decide +kernel), List.mem_of_getElem? (i := 595) (by decide +kernel), List.mem_of_getElem? (i := 596) (by decide +kernel)⟩
theorem lw_p51 : lw_okq (⟨"BearWitness$Trial", "canWear", "(II)Z"⟩, 6) := ⟨⟨by decide +kernel, by decide +kernel⟩, List.mem_of_getElem? (i := 173) (by decide +kernel), List.mem_of_getElem? (i := 599) (by decide +kernel), List.mem_of_getElem? (i := 600) (by decide +kernel)⟩
theorem lw_p52 : lw_okq (⟨"BearWitness$Trial", "wearBy", "(II)V"⟩, 6) := ⟨⟨by decide +kernel, by decide +kernel⟩, List.mem_of_getElem? (i := 173) (by decide +kernel), List.mem_of_getElem? (i := 603) (by decide +kernel), List.mem_of_getElem? (i := 604) (by decide +kernel)⟩
theorem lw_p53 : lw_okq (⟨"BearWitness$Tally", "clash", "(II)I"⟩, 3) := ⟨⟨by decide +kernel, by decide +kernel⟩, List.mem_of_getElem? (i := 155) (by decide +kernel), List.mem_of_getElem? (i := 619) (by decide +kernel), List.mem_of_getElem? (i := 620) (by decide +kernel)⟩
theorem lw_p54 : lw_okq (⟨"BearWitness$Tally", "hasRivals", "(I)Z"⟩, 3) := ⟨⟨by decide +kernel, by decide +kernel⟩, List.mem_of_getElem? (i := 155) (by decide +kernel), List.mem_of_getElem? (i := 627) (by decide +kernel), List.mem_of_getElem? (i := 628) (by decide +kernel)⟩
theorem lw_p55 : lw_okq (⟨"BearWitness", "readLooks", "(I)I"⟩, 14) := ⟨⟨by decide +kernel, by decide +kernel⟩, List.mem_of_getElem? (i := 15) (by decide +kernel), List.mem_of_getElem? (i := 635) (by decide +kernel), List.mem_of_getElem? (i := 636) (by decide +kernel)⟩
theorem lw_p56 : lw_okq (⟨"BearWitness$Looks", "readFrom", "(LBearWitness$Shelf;II)I"⟩, 4) := ⟨⟨by decide +kernel, by decide +kernel⟩, List.mem_of_getElem? (i := 134) (by decide +kernel), List.mem_of_getElem? (i := 639) (by decide +kernel), List.mem_of_getElem? (i := 640) (by decide +kernel)⟩
theorem lw_p57 : lw_okq (⟨"BearWitness$Looks", "fittingSets", "(LBearWitness$Court;)J"⟩, 4) := ⟨⟨by decide +kernel, by decide +kernel⟩, List.mem_of_getElem? (i := 134) (by decide +kernel), List.mem_of_getElem? (i := 647) (by decide +kernel), List.mem_of_getElem? (i := 648) (by decide +kernel)⟩
theorem lw_p58 : lw_okq (⟨"BearWitness$Looks", "fits", "(LBearWitness$Court;III)Z"⟩, 4) := ⟨⟨by decide +kernel, by decide +kernel⟩, List.mem_of_getElem? (i := 134) (by decide +kernel), List.mem_of_getElem? (i := 658) (by decide +kernel), List.mem_of_getElem? (i := 659) (by decide +kernel)⟩
theorem lw_p59 : lw_okq (⟨"BearWitness", "tellPart", "(JJ)V"⟩, 14) := ⟨⟨by decide +kernel, by decide +kernel⟩, List.mem_of_getElem? (i := 15) (by decide +kernel), List.mem_of_getElem? (i := 672) (by decide +kernel), List.mem_of_getElem? (i := 673) (by decide +kernel)⟩
theorem lw_p60 : lw_okq (⟨"BearWitness", "greatestPart", "(IIJ)I"⟩, 14) := ⟨⟨by decide +kernel, by decide +kernel⟩, List.mem_of_getElem? (i := 15) (by decide +kernel), List.mem_of_getElem? (i := 689) (by decide +kernel), List.mem_of_getElem? (i := 690) (by decide +kernel)⟩
theorem lw_p61 : lw_okq (⟨"BearWitness$Looks", "fitKind", "(LBearWitness$Court;II)Z"⟩, 4) := ⟨⟨by decide +kernel, by decide +kernel⟩, List.mem_of_getElem? (i := 134) (by decide +kernel), List.mem_of_getElem? (i := 699) (by decide +kernel), List.mem_of_getElem? (i := 700) (by decide +kernel)⟩
theorem lw_p62 : lw_okq (⟨"BearWitness$Looks", "whoSpoke", "()I"⟩, 4) := ⟨⟨by decide +kernel, by decide +kernel⟩, List.mem_of_getElem? (i := 134) (by decide +kernel), List.mem_of_getElem? (i := 707) (by decide +kernel), List.mem_of_getElem? (i := 708) (by decide +kernel)⟩
theorem lw_p63 : lw_okq (⟨"BearWitness$Looks", "whoKeptBack", "(LBearWitness$Court;)I"⟩, 4) := ⟨⟨by decide +kernel, by decide +kernel⟩, List.mem_of_getElem? (i := 134) (by decide +kernel), List.mem_of_getElem? (i := 711) (by decide +kernel), List.mem_of_getElem? (i := 712) (by decide +kernel)⟩
def lw_privs_4 : List (MethodName × Nat) := [(⟨"BearWitness$Trial", "worthNow", "(I)I"⟩, 6), (⟨"BearWitness$Trial", "fewestPresses", "()I"⟩, 6), (⟨"BearWitness$Trial", "pressOn", "(III)Z"⟩, 6), (⟨"BearWitness$Trial", "canWear", "(II)Z"⟩, 6), (⟨"BearWitness$Trial", "wearBy", "(II)V"⟩, 6), (⟨"BearWitness$Tally", "clash", "(II)I"⟩, 3), (⟨"BearWitness$Tally", "hasRivals", "(I)Z"⟩, 3), (⟨"BearWitness", "readLooks", "(I)I"⟩, 14), (⟨"BearWitness$Looks", "readFrom", "(LBearWitness$Shelf;II)I"⟩, 4), (⟨"BearWitness$Looks", "fittingSets", "(LBearWitness$Court;)J"⟩, 4), (⟨"BearWitness$Looks", "fits", "(LBearWitness$Court;III)Z"⟩, 4), (⟨"BearWitness", "tellPart", "(JJ)V"⟩, 14), (⟨"BearWitness", "greatestPart", "(IIJ)I"⟩, 14), (⟨"BearWitness$Looks", "fitKind", "(LBearWitness$Court;II)Z"⟩, 4), (⟨"BearWitness$Looks", "whoSpoke", "()I"⟩, 4), (⟨"BearWitness$Looks", "whoKeptBack", "(LBearWitness$Court;)I"⟩, 4)]
theorem lw_r4 : ∀ q ∈ lw_privs_4, lw_okq q := List.forall_mem_cons.mpr ⟨lw_p48, List.forall_mem_cons.mpr ⟨lw_p49, List.forall_mem_cons.mpr ⟨lw_p50, List.forall_mem_cons.mpr ⟨lw_p51, List.forall_mem_cons.mpr ⟨lw_p52, List.forall_mem_cons.mpr ⟨lw_p53, List.forall_mem_cons.mpr ⟨lw_p54, List.forall_mem_cons.mpr ⟨lw_p55, List.forall_mem_cons.mpr ⟨lw_p56, List.forall_mem_cons.mpr ⟨lw_p57, List.forall_mem_cons.mpr ⟨lw_p58, List.forall_mem_cons.mpr ⟨lw_p59, List.forall_mem_cons.mpr ⟨lw_p60, List.forall_mem_cons.mpr ⟨lw_p61, List.forall_mem_cons.mpr ⟨lw_p62, List.forall_mem_cons.mpr ⟨lw_p63, fun _ h => absurd h List.not_mem_nil⟩⟩⟩⟩⟩⟩⟩⟩⟩⟩⟩⟩⟩⟩⟩⟩
theorem lw_p64 : lw_okq (⟨"BearWitness$Trial", "playOut", "(I)I"⟩, 6) := ⟨⟨by decide +kernel, by decide +kernel⟩, List.mem_of_getElem? (i := 173) (by decide +kernel), List.mem_of_getElem? (i := 721) (by decide +kernel), List.mem_of_getElem? (i := 722) (by decide +kernel)⟩
theorem lw_p65 : lw_okq (⟨"BearWitness", "weightOf", "(II)J"⟩, 14) := ⟨⟨by decide +kernel, by decide +kernel⟩, List.mem_of_getElem? (i := 15) (by decide +kernel), List.mem_of_getElem? (i := 737) (by decide +kernel), List.mem_of_getElem? (i := 738) (by decide +kernel)⟩
theorem lw_p66 : lw_okq (⟨"BearWitness", "allWeight", "()J"⟩, 14) := ⟨⟨by decide +kernel, by decide +kernel⟩, List.mem_of_getElem? (i := 15) (by decide +kernel), List.mem_of_getElem? (i := 741) (by decide +kernel), List.mem_of_getElem? (i := 742) (by decide +kernel)⟩
theorem lw_p67 : lw_okq (⟨"BearWitness", "shownByAll", "()I"⟩, 14) := ⟨⟨by decide +kernel, by decide +kernel⟩, List.mem_of_getElem? (i := 15) (by decide +kernel), List.mem_of_getElem? (i := 761) (by decide +kernel), List.mem_of_getElem? (i := 762) (by decide +kernel)⟩
theorem lw_p68 : lw_okq (⟨"BearWitness$Cells", "sum", "(I)I"⟩, 1) := ⟨⟨by decide +kernel, by decide +kernel⟩, List.mem_of_getElem? (i := 29) (by decide +kernel), List.mem_of_getElem? (i := 781) (by decide +kernel), List.mem_of_getElem? (i := 782) (by decide +kernel)⟩
theorem lw_p69 : lw_okq (⟨"BearWitness$Court", "thoseOfKind", "(I)I"⟩, 10) := ⟨⟨by decide +kernel, by decide +kernel⟩, List.mem_of_getElem? (i := 57) (by decide +kernel), List.mem_of_getElem? (i := 785) (by decide +kernel), List.mem_of_getElem? (i := 786) (by decide +kernel)⟩
theorem lw_p70 : lw_okq (⟨"BearWitness$Shelf", "thoseThere", "()I"⟩, 4) := ⟨⟨by decide +kernel, by decide +kernel⟩, List.mem_of_getElem? (i := 23) (by decide +kernel), List.mem_of_getElem? (i := 789) (by decide +kernel), List.mem_of_getElem? (i := 790) (by decide +kernel)⟩
theorem lw_p71 : lw_okq (⟨"BearWitness", "keptCourts", "()I"⟩, 14) := ⟨⟨by decide +kernel, by decide +kernel⟩, List.mem_of_getElem? (i := 15) (by decide +kernel), List.mem_of_getElem? (i := 794) (by decide +kernel), List.mem_of_getElem? (i := 795) (by decide +kernel)⟩
theorem lw_p72 : lw_okq (⟨"BearWitness$Shelf", "digestFrom", "(J)J"⟩, 4) := ⟨⟨by decide +kernel, by decide +kernel⟩, List.mem_of_getElem? (i := 23) (by decide +kernel), List.mem_of_getElem? (i := 813) (by decide +kernel), List.mem_of_getElem? (i := 814) (by decide +kernel)⟩
theorem lw_p73 : lw_okq (⟨"BearWitnessModel", "finds", "(I)I"⟩, 20) := ⟨⟨by decide +kernel, by decide +kernel⟩, List.mem_of_getElem? (i := 818) (by decide +kernel), List.mem_of_getElem? (i := 897) (by decide +kernel), List.mem_of_getElem? (i := 898) (by decide +kernel)⟩
theorem lw_p74 : lw_okq (⟨"BearWitnessModel", "asks", "(I)I"⟩, 20) := ⟨⟨by decide +kernel, by decide +kernel⟩, List.mem_of_getElem? (i := 818) (by decide +kernel), List.mem_of_getElem? (i := 909) (by decide +kernel), List.mem_of_getElem? (i := 910) (by decide +kernel)⟩
theorem lw_p75 : lw_okq (⟨"BearWitnessModel", "faultOf", "(I)I"⟩, 20) := ⟨⟨by decide +kernel, by decide +kernel⟩, List.mem_of_getElem? (i := 818) (by decide +kernel), List.mem_of_getElem? (i := 942) (by decide +kernel), List.mem_of_getElem? (i := 943) (by decide +kernel)⟩
theorem lw_p76 : lw_okq (⟨"BearWitnessModel", "takesFirst", "(I)Z"⟩, 20) := ⟨⟨by decide +kernel, by decide +kernel⟩, List.mem_of_getElem? (i := 818) (by decide +kernel), List.mem_of_getElem? (i := 946) (by decide +kernel), List.mem_of_getElem? (i := 947) (by decide +kernel)⟩
theorem lw_p77 : lw_okq (⟨"BearWitnessModel", "skip", "(I)V"⟩, 20) := ⟨⟨by decide +kernel, by decide +kernel⟩, List.mem_of_getElem? (i := 818) (by decide +kernel), List.mem_of_getElem? (i := 950) (by decide +kernel), List.mem_of_getElem? (i := 951) (by decide +kernel)⟩
theorem lw_p78 : lw_okq (⟨"BearWitnessModel", "here", "(I)I"⟩, 20) := ⟨⟨by decide +kernel, by decide +kernel⟩, List.mem_of_getElem? (i := 818) (by decide +kernel), List.mem_of_getElem? (i := 954) (by decide +kernel), List.mem_of_getElem? (i := 955) (by decide +kernel)⟩
theorem lw_p79 : lw_okq (⟨"BearWitnessModel", "takesSet", "(II)Z"⟩, 20) := ⟨⟨by decide +kernel, by decide +kernel⟩, List.mem_of_getElem? (i := 818) (by decide +kernel), List.mem_of_getElem? (i := 958) (by decide +kernel), List.mem_of_getElem? (i := 959) (by decide +kernel)⟩
def lw_privs_5 : List (MethodName × Nat) := [(⟨"BearWitness$Trial", "playOut", "(I)I"⟩, 6), (⟨"BearWitness", "weightOf", "(II)J"⟩, 14), (⟨"BearWitness", "allWeight", "()J"⟩, 14), (⟨"BearWitness", "shownByAll", "()I"⟩, 14), (⟨"BearWitness$Cells", "sum", "(I)I"⟩, 1), (⟨"BearWitness$Court", "thoseOfKind", "(I)I"⟩, 10), (⟨"BearWitness$Shelf", "thoseThere", "()I"⟩, 4), (⟨"BearWitness", "keptCourts", "()I"⟩, 14), (⟨"BearWitness$Shelf", "digestFrom", "(J)J"⟩, 4), (⟨"BearWitnessModel", "finds", "(I)I"⟩, 20), (⟨"BearWitnessModel", "asks", "(I)I"⟩, 20), (⟨"BearWitnessModel", "faultOf", "(I)I"⟩, 20), (⟨"BearWitnessModel", "takesFirst", "(I)Z"⟩, 20), (⟨"BearWitnessModel", "skip", "(I)V"⟩, 20), (⟨"BearWitnessModel", "here", "(I)I"⟩, 20), (⟨"BearWitnessModel", "takesSet", "(II)Z"⟩, 20)]
theorem lw_r5 : ∀ q ∈ lw_privs_5, lw_okq q := List.forall_mem_cons.mpr ⟨lw_p64, List.forall_mem_cons.mpr ⟨lw_p65, List.forall_mem_cons.mpr ⟨lw_p66, List.forall_mem_cons.mpr ⟨lw_p67, List.forall_mem_cons.mpr ⟨lw_p68, List.forall_mem_cons.mpr ⟨lw_p69, List.forall_mem_cons.mpr ⟨lw_p70, List.forall_mem_cons.mpr ⟨lw_p71, List.forall_mem_cons.mpr ⟨lw_p72, List.forall_mem_cons.mpr ⟨lw_p73, List.forall_mem_cons.mpr ⟨lw_p74, List.forall_mem_cons.mpr ⟨lw_p75, List.forall_mem_cons.mpr ⟨lw_p76, List.forall_mem_cons.mpr ⟨lw_p77, List.forall_mem_cons.mpr ⟨lw_p78, List.forall_mem_cons.mpr ⟨lw_p79, fun _ h => absurd h List.not_mem_nil⟩⟩⟩⟩⟩⟩⟩⟩⟩⟩⟩⟩⟩⟩⟩⟩
theorem lw_p80 : lw_okq (⟨"BearWitnessModel", "takes", "(III)Z"⟩, 20) := ⟨⟨by decide +kernel, by decide +kernel⟩, List.mem_of_getElem? (i := 818) (by decide +kernel), List.mem_of_getElem? (i := 962) (by decide +kernel), List.mem_of_getElem? (i := 963) (by decide +kernel)⟩
theorem lw_p81 : lw_okq (⟨"BearWitnessModel", "takesBear", "(I)Z"⟩, 20) := ⟨⟨by decide +kernel, by decide +kernel⟩, List.mem_of_getElem? (i := 818) (by decide +kernel), List.mem_of_getElem? (i := 967) (by decide +kernel), List.mem_of_getElem? (i := 968) (by decide +kernel)⟩
theorem lw_p82 : lw_okq (⟨"BearWitnessModel", "isBear", "(I)Z"⟩, 20) := ⟨⟨by decide +kernel, by decide +kernel⟩, List.mem_of_getElem? (i := 818) (by decide +kernel), List.mem_of_getElem? (i := 985) (by decide +kernel), List.mem_of_getElem? (i := 986) (by decide +kernel)⟩
theorem lw_p83 : lw_okq (⟨"BearWitnessModel", "toldOf", "(II)I"⟩, 20) := ⟨⟨by decide +kernel, by decide +kernel⟩, List.mem_of_getElem? (i := 818) (by decide +kernel), List.mem_of_getElem? (i := 989) (by decide +kernel), List.mem_of_getElem? (i := 990) (by decide +kernel)⟩
theorem lw_p84 : lw_okq (⟨"BearWitnessModel", "toldThings", "(I)I"⟩, 20) := ⟨⟨by decide +kernel, by decide +kernel⟩, List.mem_of_getElem? (i := 818) (by decide +kernel), List.mem_of_getElem? (i := 996) (by decide +kernel), List.mem_of_getElem? (i := 997) (by decide +kernel)⟩
theorem lw_p85 : lw_okq (⟨"BearWitnessModel", "tellNow", "(II)I"⟩, 20) := ⟨⟨by decide +kernel, by decide +kernel⟩, List.mem_of_getElem? (i := 818) (by decide +kernel), List.mem_of_getElem? (i := 1000) (by decide +kernel), List.mem_of_getElem? (i := 1001) (by decide +kernel)⟩
theorem lw_p86 : lw_okq (⟨"BearWitnessModel", "tellOf", "([IIII)I"⟩, 20) := ⟨⟨by decide +kernel, by decide +kernel⟩, List.mem_of_getElem? (i := 818) (by decide +kernel), List.mem_of_getElem? (i := 1004) (by decide +kernel), List.mem_of_getElem? (i := 1005) (by decide +kernel)⟩
theorem lw_p87 : lw_okq (⟨"BearWitnessModel", "sayOf", "([IIII)I"⟩, 20) := ⟨⟨by decide +kernel, by decide +kernel⟩, List.mem_of_getElem? (i := 818) (by decide +kernel), List.mem_of_getElem? (i := 1008) (by decide +kernel), List.mem_of_getElem? (i := 1009) (by decide +kernel)⟩
theorem lw_p88 : lw_okq (⟨"BearWitnessModel", "seesBeyond", "(II)I"⟩, 20) := ⟨⟨by decide +kernel, by decide +kernel⟩, List.mem_of_getElem? (i := 818) (by decide +kernel), List.mem_of_getElem? (i := 1028) (by decide +kernel), List.mem_of_getElem? (i := 1029) (by decide +kernel)⟩
theorem lw_p89 : lw_okq (⟨"BearWitnessModel", "doesTo", "(II)I"⟩, 20) := ⟨⟨by decide +kernel, by decide +kernel⟩, List.mem_of_getElem? (i := 818) (by decide +kernel), List.mem_of_getElem? (i := 1036) (by decide +kernel), List.mem_of_getElem? (i := 1037) (by decide +kernel)⟩
theorem lw_p90 : lw_okq (⟨"BearWitnessModel", "does", "(I)V"⟩, 20) := ⟨⟨by decide +kernel, by decide +kernel⟩, List.mem_of_getElem? (i := 818) (by decide +kernel), List.mem_of_getElem? (i := 1043) (by decide +kernel), List.mem_of_getElem? (i := 1044) (by decide +kernel)⟩
theorem lw_p91 : lw_okq (⟨"BearWitnessModel", "allBears", "()I"⟩, 20) := ⟨⟨by decide +kernel, by decide +kernel⟩, List.mem_of_getElem? (i := 818) (by decide +kernel), List.mem_of_getElem? (i := 1089) (by decide +kernel), List.mem_of_getElem? (i := 1090) (by decide +kernel)⟩
theorem lw_p92 : lw_okq (⟨"BearWitnessModel", "balance", "([III)I"⟩, 20) := ⟨⟨by decide +kernel, by decide +kernel⟩, List.mem_of_getElem? (i := 818) (by decide +kernel), List.mem_of_getElem? (i := 1093) (by decide +kernel), List.mem_of_getElem? (i := 1094) (by decide +kernel)⟩
theorem lw_p93 : lw_okq (⟨"BearWitnessModel", "shownBy", "(I)I"⟩, 20) := ⟨⟨by decide +kernel, by decide +kernel⟩, List.mem_of_getElem? (i := 818) (by decide +kernel), List.mem_of_getElem? (i := 1097) (by decide +kernel), List.mem_of_getElem? (i := 1098) (by decide +kernel)⟩
theorem lw_p94 : lw_okq (⟨"BearWitnessModel", "goes", "(IIII)Z"⟩, 20) := ⟨⟨by decide +kernel, by decide +kernel⟩, List.mem_of_getElem? (i := 818) (by decide +kernel), List.mem_of_getElem? (i := 1110) (by decide +kernel), List.mem_of_getElem? (i := 1111) (by decide +kernel)⟩
theorem lw_p95 : lw_okq (⟨"BearWitnessModel", "layHand", "()V"⟩, 20) := ⟨⟨by decide +kernel, by decide +kernel⟩, List.mem_of_getElem? (i := 818) (by decide +kernel), List.mem_of_getElem? (i := 1114) (by decide +kernel), List.mem_of_getElem? (i := 1115) (by decide +kernel)⟩
def lw_privs_6 : List (MethodName × Nat) := [(⟨"BearWitnessModel", "takes", "(III)Z"⟩, 20), (⟨"BearWitnessModel", "takesBear", "(I)Z"⟩, 20), (⟨"BearWitnessModel", "isBear", "(I)Z"⟩, 20), (⟨"BearWitnessModel", "toldOf", "(II)I"⟩, 20), (⟨"BearWitnessModel", "toldThings", "(I)I"⟩, 20), (⟨"BearWitnessModel", "tellNow", "(II)I"⟩, 20), (⟨"BearWitnessModel", "tellOf", "([IIII)I"⟩, 20), (⟨"BearWitnessModel", "sayOf", "([IIII)I"⟩, 20), (⟨"BearWitnessModel", "seesBeyond", "(II)I"⟩, 20), (⟨"BearWitnessModel", "doesTo", "(II)I"⟩, 20), (⟨"BearWitnessModel", "does", "(I)V"⟩, 20), (⟨"BearWitnessModel", "allBears", "()I"⟩, 20), (⟨"BearWitnessModel", "balance", "([III)I"⟩, 20), (⟨"BearWitnessModel", "shownBy", "(I)I"⟩, 20), (⟨"BearWitnessModel", "goes", "(IIII)Z"⟩, 20), (⟨"BearWitnessModel", "layHand", "()V"⟩, 20)]
theorem lw_r6 : ∀ q ∈ lw_privs_6, lw_okq q := List.forall_mem_cons.mpr ⟨lw_p80, List.forall_mem_cons.mpr ⟨lw_p81, List.forall_mem_cons.mpr ⟨lw_p82, List.forall_mem_cons.mpr ⟨lw_p83, List.forall_mem_cons.mpr ⟨lw_p84, List.forall_mem_cons.mpr ⟨lw_p85, List.forall_mem_cons.mpr ⟨lw_p86, List.forall_mem_cons.mpr ⟨lw_p87, List.forall_mem_cons.mpr ⟨lw_p88, List.forall_mem_cons.mpr ⟨lw_p89, List.forall_mem_cons.mpr ⟨lw_p90, List.forall_mem_cons.mpr ⟨lw_p91, List.forall_mem_cons.mpr ⟨lw_p92, List.forall_mem_cons.mpr ⟨lw_p93, List.forall_mem_cons.mpr ⟨lw_p94, List.forall_mem_cons.mpr ⟨lw_p95, fun _ h => absurd h List.not_mem_nil⟩⟩⟩⟩⟩⟩⟩⟩⟩⟩⟩⟩⟩⟩⟩⟩
theorem lw_p96 : lw_okq (⟨"BearWitnessModel", "rivalThings", "(II)I"⟩, 20) := ⟨⟨by decide +kernel, by decide +kernel⟩, List.mem_of_getElem? (i := 818) (by decide +kernel), List.mem_of_getElem? (i := 1127) (by decide +kernel), List.mem_of_getElem? (i := 1128) (by decide +kernel)⟩
theorem lw_p97 : lw_okq (⟨"BearWitnessModel", "refusesLooks", "(I)I"⟩, 20) := ⟨⟨by decide +kernel, by decide +kernel⟩, List.mem_of_getElem? (i := 818) (by decide +kernel), List.mem_of_getElem? (i := 1139) (by decide +kernel), List.mem_of_getElem? (i := 1140) (by decide +kernel)⟩
theorem lw_p98 : lw_okq (⟨"BearWitnessModel", "refusesPairs", "(I)I"⟩, 20) := ⟨⟨by decide +kernel, by decide +kernel⟩, List.mem_of_getElem? (i := 818) (by decide +kernel), List.mem_of_getElem? (i := 1143) (by decide +kernel), List.mem_of_getElem? (i := 1144) (by decide +kernel)⟩
theorem lw_p99 : lw_okq (⟨"BearWitnessModel", "isTruth", "(II)Z"⟩, 20) := ⟨⟨by decide +kernel, by decide +kernel⟩, List.mem_of_getElem? (i := 818) (by decide +kernel), List.mem_of_getElem? (i := 1148) (by decide +kernel), List.mem_of_getElem? (i := 1149) (by decide +kernel)⟩
theorem lw_p100 : lw_okq (⟨"BearWitnessModel", "goChoices", "(II)I"⟩, 20) := ⟨⟨by decide +kernel, by decide +kernel⟩, List.mem_of_getElem? (i := 818) (by decide +kernel), List.mem_of_getElem? (i := 1179) (by decide +kernel), List.mem_of_getElem? (i := 1180) (by decide +kernel)⟩
theorem lw_p101 : lw_okq (⟨"BearWitnessModel", "weigh", "(II)V"⟩, 20) := ⟨⟨by decide +kernel, by decide +kernel⟩, List.mem_of_getElem? (i := 818) (by decide +kernel), List.mem_of_getElem? (i := 1183) (by decide +kernel), List.mem_of_getElem? (i := 1184) (by decide +kernel)⟩
theorem lw_p102 : lw_okq (⟨"BearWitnessModel", "goOdds", "(II)V"⟩, 20) := ⟨⟨by decide +kernel, by decide +kernel⟩, List.mem_of_getElem? (i := 818) (by decide +kernel), List.mem_of_getElem? (i := 1192) (by decide +kernel), List.mem_of_getElem? (i := 1193) (by decide +kernel)⟩
theorem lw_p103 : lw_okq (⟨"BearWitnessModel", "fraction", "(JJ)V"⟩, 20) := ⟨⟨by decide +kernel, by decide +kernel⟩, List.mem_of_getElem? (i := 818) (by decide +kernel), List.mem_of_getElem? (i := 1196) (by decide +kernel), List.mem_of_getElem? (i := 1197) (by decide +kernel)⟩
theorem lw_p104 : lw_okq (⟨"BearWitnessModel", "counted", "(I)I"⟩, 20) := ⟨⟨by decide +kernel, by decide +kernel⟩, List.mem_of_getElem? (i := 818) (by decide +kernel), List.mem_of_getElem? (i := 1230) (by decide +kernel), List.mem_of_getElem? (i := 1231) (by decide +kernel)⟩
theorem lw_p105 : lw_okq (⟨"BearWitnessModel", "sumOf", "(I)I"⟩, 20) := ⟨⟨by decide +kernel, by decide +kernel⟩, List.mem_of_getElem? (i := 818) (by decide +kernel), List.mem_of_getElem? (i := 1234) (by decide +kernel), List.mem_of_getElem? (i := 1235) (by decide +kernel)⟩
theorem lw_p106 : lw_okq (⟨"BearWitnessModel", "manyOf", "(I)I"⟩, 20) := ⟨⟨by decide +kernel, by decide +kernel⟩, List.mem_of_getElem? (i := 818) (by decide +kernel), List.mem_of_getElem? (i := 1238) (by decide +kernel), List.mem_of_getElem? (i := 1239) (by decide +kernel)⟩
def lw_privs_7 : List (MethodName × Nat) := [(⟨"BearWitnessModel", "rivalThings", "(II)I"⟩, 20), (⟨"BearWitnessModel", "refusesLooks", "(I)I"⟩, 20), (⟨"BearWitnessModel", "refusesPairs", "(I)I"⟩, 20), (⟨"BearWitnessModel", "isTruth", "(II)Z"⟩, 20), (⟨"BearWitnessModel", "goChoices", "(II)I"⟩, 20), (⟨"BearWitnessModel", "weigh", "(II)V"⟩, 20), (⟨"BearWitnessModel", "goOdds", "(II)V"⟩, 20), (⟨"BearWitnessModel", "fraction", "(JJ)V"⟩, 20), (⟨"BearWitnessModel", "counted", "(I)I"⟩, 20), (⟨"BearWitnessModel", "sumOf", "(I)I"⟩, 20), (⟨"BearWitnessModel", "manyOf", "(I)I"⟩, 20)]
theorem lw_r7 : ∀ q ∈ lw_privs_7, lw_okq q := List.forall_mem_cons.mpr ⟨lw_p96, List.forall_mem_cons.mpr ⟨lw_p97, List.forall_mem_cons.mpr ⟨lw_p98, List.forall_mem_cons.mpr ⟨lw_p99, List.forall_mem_cons.mpr ⟨lw_p100, List.forall_mem_cons.mpr ⟨lw_p101, List.forall_mem_cons.mpr ⟨lw_p102, List.forall_mem_cons.mpr ⟨lw_p103, List.forall_mem_cons.mpr ⟨lw_p104, List.forall_mem_cons.mpr ⟨lw_p105, List.forall_mem_cons.mpr ⟨lw_p106, fun _ h => absurd h List.not_mem_nil⟩⟩⟩⟩⟩⟩⟩⟩⟩⟩⟩
def lw_privs : List (MethodName × Nat) := lw_privs_1 ++ (lw_privs_2 ++ (lw_privs_3 ++ (lw_privs_4 ++ (lw_privs_5 ++ (lw_privs_6 ++ (lw_privs_7))))))
def lw_tbl : List Cond := k2_sels lw_privs ++ tables_1
theorem lw_privs_ok : ∀ q ∈ lw_privs, lw_okq q := by
  show ∀ q ∈ lw_privs_1 ++ (lw_privs_2 ++ (lw_privs_3 ++ (lw_privs_4 ++ (lw_privs_5 ++ (lw_privs_6 ++ (lw_privs_7)))))), lw_okq q
  exact List.forall_mem_append.mpr ⟨lw_r1, List.forall_mem_append.mpr ⟨lw_r2, List.forall_mem_append.mpr ⟨lw_r3, List.forall_mem_append.mpr ⟨lw_r4, List.forall_mem_append.mpr ⟨lw_r5, List.forall_mem_append.mpr ⟨lw_r6, lw_r7⟩⟩⟩⟩⟩⟩
end
section
def RX0 : String := "BearWitness$Cells"
def TX0 : u_T := fun k => match k with
  | _ => ("BearWitness$Cells", "cells", "[I", true)
def tyX0 : Nat → FieldType := fun k => match k with
  | _ => .array .int
abbrev wsX00 : List Cond := u_ws RX0 TX0 1
theorem nmX0 : ∀ a, a < 1 → ∀ b, b < 1 → a ≠ b → (TX0 a).2.1 ≠ (TX0 b).2.1 := by decide +kernel
theorem tyX0_ok : ∀ k, k < 1 → parseFieldDescriptor (TX0 k).2.2.1 = some (tyX0 k) := by decide +kernel
abbrev cX0_init : ByteArray := prog_2_method_1_code
def yX0_init : MethodName := ⟨RX0, "<init>", "(I)V"⟩
abbrev cX0_get : ByteArray := prog_2_method_2_code
def yX0_get : MethodName := ⟨RX0, "get", "(I)I"⟩
abbrev cX0_set : ByteArray := prog_2_method_3_code
def yX0_set : MethodName := ⟨RX0, "set", "(II)V"⟩
abbrev cX0_sum : ByteArray := prog_2_method_4_code
def yX0_sum : MethodName := ⟨RX0, "sum", "(I)I"⟩
abbrev cX0_take : ByteArray := prog_2_method_5_code
def yX0_take : MethodName := ⟨RX0, "take", "(LBearWitness$Cells;)V"⟩
abbrev cX0_move : ByteArray := prog_2_method_6_code
def yX0_move : MethodName := ⟨RX0, "move", "(III)V"⟩
def RX1 : String := "BearWitness$Court"
def TX1 : u_T := fun k => match k with
  | 0 => ("BearWitness$Court", "bears", "I", false)
  | 1 => ("BearWitness$Court", "done", "I", false)
  | 2 => ("BearWitness$Court", "wall", "I", false)
  | 3 => ("BearWitness$Court", "deeds", "I", false)
  | 4 => ("BearWitness$Court", "kind", "LBearWitness$Cells;", true)
  | 5 => ("BearWitness$Court", "eyes", "LBearWitness$Cells;", true)
  | 6 => ("BearWitness$Court", "wear", "LBearWitness$Cells;", true)
  | 7 => ("BearWitness$Court", "view", "LBearWitness$Cells;", true)
  | 8 => ("BearWitness$Court", "deedActs", "LBearWitness$Cells;", true)
  | _ => ("BearWitness$Court", "deedBears", "LBearWitness$Cells;", true)
def tyX1 : Nat → FieldType := fun k => match k with
  | 0 => .int
  | 1 => .int
  | 2 => .int
  | 3 => .int
  | 4 => .object "BearWitness$Cells"
  | 5 => .object "BearWitness$Cells"
  | 6 => .object "BearWitness$Cells"
  | 7 => .object "BearWitness$Cells"
  | 8 => .object "BearWitness$Cells"
  | _ => .object "BearWitness$Cells"
abbrev wsX10 : List Cond := u_ws RX1 TX1 10
theorem nmX1 : ∀ a, a < 10 → ∀ b, b < 10 → a ≠ b → (TX1 a).2.1 ≠ (TX1 b).2.1 := by decide +kernel
theorem tyX1_ok : ∀ k, k < 10 → parseFieldDescriptor (TX1 k).2.2.1 = some (tyX1 k) := by decide +kernel
abbrev cX1_init : ByteArray := prog_3_method_1_code
def yX1_init : MethodName := ⟨RX1, "<init>", "()V"⟩
abbrev cX1_clear : ByteArray := prog_3_method_2_code
def yX1_clear : MethodName := ⟨RX1, "clear", "()V"⟩
abbrev cX1_take : ByteArray := prog_3_method_3_code
def yX1_take : MethodName := ⟨RX1, "take", "(LBearWitness$Court;)V"⟩
abbrev cX1_seat : ByteArray := prog_3_method_4_code
def yX1_seat : MethodName := ⟨RX1, "seat", "(IIII)V"⟩
abbrev cX1_hasBear : ByteArray := prog_3_method_5_code
def yX1_hasBear : MethodName := ⟨RX1, "hasBear", "(I)Z"⟩
abbrev cX1_isSet : ByteArray := prog_3_method_6_code
def yX1_isSet : MethodName := ⟨RX1, "isSet", "(I)Z"⟩
abbrev cX1_allBears : ByteArray := prog_3_method_7_code
def yX1_allBears : MethodName := ⟨RX1, "allBears", "()I"⟩
abbrev cX1_thoseOfKind : ByteArray := prog_3_method_8_code
def yX1_thoseOfKind : MethodName := ⟨RX1, "thoseOfKind", "(I)I"⟩
abbrev cX1_canBe : ByteArray := prog_3_method_9_code
def yX1_canBe : MethodName := ⟨RX1, "canBe", "(II)Z"⟩
abbrev cX1_commit : ByteArray := prog_3_method_10_code
def yX1_commit : MethodName := ⟨RX1, "commit", "(II)V"⟩
abbrev cX1_takeBackTo : ByteArray := prog_3_method_11_code
def yX1_takeBackTo : MethodName := ⟨RX1, "takeBackTo", "(I)V"⟩
abbrev cX1_change : ByteArray := prog_3_method_12_code
def yX1_change : MethodName := ⟨RX1, "change", "(III)V"⟩
abbrev cX1_seenBy : ByteArray := prog_3_method_13_code
def yX1_seenBy : MethodName := ⟨RX1, "seenBy", "(III)I"⟩
abbrev cX1_toldOf : ByteArray := prog_3_method_14_code
def yX1_toldOf : MethodName := ⟨RX1, "toldOf", "(III)I"⟩
abbrev cX1_onesOf : ByteArray := prog_3_method_15_code
def yX1_onesOf : MethodName := ⟨RX1, "onesOf", "(IIII)I"⟩
abbrev cX1_answerIf : ByteArray := prog_3_method_16_code
def yX1_answerIf : MethodName := ⟨RX1, "answerIf", "(IIII)I"⟩
abbrev cX1_answerOf : ByteArray := prog_3_method_17_code
def yX1_answerOf : MethodName := ⟨RX1, "answerOf", "(II)I"⟩
abbrev cX1_markOf : ByteArray := prog_3_method_18_code
def yX1_markOf : MethodName := ⟨RX1, "markOf", "(II)I"⟩
def RX2 : String := "BearWitness$Looks"
def TX2 : u_T := fun k => match k with
  | 0 => ("BearWitness$Looks", "pairs", "I", false)
  | 1 => ("BearWitness$Looks", "whom", "LBearWitness$Cells;", true)
  | 2 => ("BearWitness$Looks", "thing", "LBearWitness$Cells;", true)
  | _ => ("BearWitness$Looks", "told", "LBearWitness$Cells;", true)
def tyX2 : Nat → FieldType := fun k => match k with
  | 0 => .int
  | 1 => .object "BearWitness$Cells"
  | 2 => .object "BearWitness$Cells"
  | _ => .object "BearWitness$Cells"
abbrev wsX20 : List Cond := u_ws RX2 TX2 4
theorem nmX2 : ∀ a, a < 4 → ∀ b, b < 4 → a ≠ b → (TX2 a).2.1 ≠ (TX2 b).2.1 := by decide +kernel
theorem tyX2_ok : ∀ k, k < 4 → parseFieldDescriptor (TX2 k).2.2.1 = some (tyX2 k) := by decide +kernel
abbrev cX2_init : ByteArray := prog_4_method_1_code
def yX2_init : MethodName := ⟨RX2, "<init>", "()V"⟩
abbrev cX2_setsWith : ByteArray := prog_4_method_2_code
def yX2_setsWith : MethodName := ⟨RX2, "setsWith", "(I)J"⟩
abbrev cX2_readFrom : ByteArray := prog_4_method_3_code
def yX2_readFrom : MethodName := ⟨RX2, "readFrom", "(LBearWitness$Shelf;II)I"⟩
abbrev cX2_fits : ByteArray := prog_4_method_4_code
def yX2_fits : MethodName := ⟨RX2, "fits", "(LBearWitness$Court;III)Z"⟩
abbrev cX2_fittingSets : ByteArray := prog_4_method_5_code
def yX2_fittingSets : MethodName := ⟨RX2, "fittingSets", "(LBearWitness$Court;)J"⟩
abbrev cX2_fitKind : ByteArray := prog_4_method_6_code
def yX2_fitKind : MethodName := ⟨RX2, "fitKind", "(LBearWitness$Court;II)Z"⟩
abbrev cX2_whoSpoke : ByteArray := prog_4_method_7_code
def yX2_whoSpoke : MethodName := ⟨RX2, "whoSpoke", "()I"⟩
abbrev cX2_whoKeptBack : ByteArray := prog_4_method_8_code
def yX2_whoKeptBack : MethodName := ⟨RX2, "whoKeptBack", "(LBearWitness$Court;)I"⟩
def RX3 : String := "BearWitness$Reader"
def TX3 : u_T := fun k => match k with
  | 0 => ("BearWitness$Reader", "place", "I", false)
  | 1 => ("BearWitness$Reader", "size", "I", false)
  | _ => ("BearWitness$Reader", "met", "I", false)
def tyX3 : Nat → FieldType := fun k => match k with
  | 0 => .int
  | 1 => .int
  | _ => .int
abbrev wsX30 : List Cond := u_ws RX3 TX3 3
theorem nmX3 : ∀ a, a < 3 → ∀ b, b < 3 → a ≠ b → (TX3 a).2.1 ≠ (TX3 b).2.1 := by decide +kernel
theorem tyX3_ok : ∀ k, k < 3 → parseFieldDescriptor (TX3 k).2.2.1 = some (tyX3 k) := by decide +kernel
abbrev cX3_init : ByteArray := prog_5_method_1_code
def yX3_init : MethodName := ⟨RX3, "<init>", "()V"⟩
abbrev cX3_readInto : ByteArray := prog_5_method_2_code
def yX3_readInto : MethodName := ⟨RX3, "readInto", "(LBearWitness$Court;LBearWitness$Shelf;I)I"⟩
abbrev cX3_readBear : ByteArray := prog_5_method_3_code
def yX3_readBear : MethodName := ⟨RX3, "readBear", "(LBearWitness$Court;LBearWitness$Shelf;I)V"⟩
abbrev cX3_skipBlanks : ByteArray := prog_5_method_4_code
def yX3_skipBlanks : MethodName := ⟨RX3, "skipBlanks", "(LBearWitness$Shelf;I)V"⟩
abbrev cX3_byteHere : ByteArray := prog_5_method_5_code
def yX3_byteHere : MethodName := ⟨RX3, "byteHere", "(LBearWitness$Shelf;I)I"⟩
abbrev cX3_fail : ByteArray := prog_5_method_6_code
def yX3_fail : MethodName := ⟨RX3, "fail", "(I)V"⟩
abbrev cX3_oneFigure : ByteArray := prog_5_method_7_code
def yX3_oneFigure : MethodName := ⟨RX3, "oneFigure", "(LBearWitness$Shelf;II)I"⟩
abbrev cX3_twoFigures : ByteArray := prog_5_method_8_code
def yX3_twoFigures : MethodName := ⟨RX3, "twoFigures", "(LBearWitness$Shelf;I)I"⟩
abbrev cX3_kindOfLetter : ByteArray := prog_5_method_9_code
def yX3_kindOfLetter : MethodName := ⟨RX3, "kindOfLetter", "(I)I"⟩
def RX4 : String := "BearWitness$Shelf"
def TX4 : u_T := fun k => match k with
  | 0 => ("BearWitness$Shelf", "number", "I", true)
  | 1 => ("BearWitness$Shelf", "width", "I", true)
  | 2 => ("BearWitness$Shelf", "sizes", "LBearWitness$Cells;", true)
  | _ => ("BearWitness$Shelf", "places", "LBearWitness$Cells;", true)
def tyX4 : Nat → FieldType := fun k => match k with
  | 0 => .int
  | 1 => .int
  | 2 => .object "BearWitness$Cells"
  | _ => .object "BearWitness$Cells"
abbrev wsX40 : List Cond := u_ws RX4 TX4 4
theorem nmX4 : ∀ a, a < 4 → ∀ b, b < 4 → a ≠ b → (TX4 a).2.1 ≠ (TX4 b).2.1 := by decide +kernel
theorem tyX4_ok : ∀ k, k < 4 → parseFieldDescriptor (TX4 k).2.2.1 = some (tyX4 k) := by decide +kernel
abbrev cX4_init : ByteArray := prog_6_method_1_code
def yX4_init : MethodName := ⟨RX4, "<init>", "(II)V"⟩
abbrev cX4_isNumber : ByteArray := prog_6_method_2_code
def yX4_isNumber : MethodName := ⟨RX4, "isNumber", "(I)Z"⟩
abbrev cX4_sizeOf : ByteArray := prog_6_method_3_code
def yX4_sizeOf : MethodName := ⟨RX4, "sizeOf", "(I)I"⟩
abbrev cX4_has : ByteArray := prog_6_method_4_code
def yX4_has : MethodName := ⟨RX4, "has", "(I)Z"⟩
abbrev cX4_hasPlace : ByteArray := prog_6_method_5_code
def yX4_hasPlace : MethodName := ⟨RX4, "hasPlace", "(II)Z"⟩
abbrev cX4_hasSpan : ByteArray := prog_6_method_6_code
def yX4_hasSpan : MethodName := ⟨RX4, "hasSpan", "(III)Z"⟩
abbrev cX4_get : ByteArray := prog_6_method_7_code
def yX4_get : MethodName := ⟨RX4, "get", "(II)I"⟩
abbrev cX4_set : ByteArray := prog_6_method_8_code
def yX4_set : MethodName := ⟨RX4, "set", "(III)V"⟩
abbrev cX4_make : ByteArray := prog_6_method_9_code
def yX4_make : MethodName := ⟨RX4, "make", "(III)V"⟩
abbrev cX4_drop : ByteArray := prog_6_method_10_code
def yX4_drop : MethodName := ⟨RX4, "drop", "(I)V"⟩
abbrev cX4_move : ByteArray := prog_6_method_11_code
def yX4_move : MethodName := ⟨RX4, "move", "(IIIII)V"⟩
abbrev cX4_sumOf : ByteArray := prog_6_method_12_code
def yX4_sumOf : MethodName := ⟨RX4, "sumOf", "(I)J"⟩
abbrev cX4_thoseThere : ByteArray := prog_6_method_13_code
def yX4_thoseThere : MethodName := ⟨RX4, "thoseThere", "()I"⟩
abbrev cX4_digestFrom : ByteArray := prog_6_method_14_code
def yX4_digestFrom : MethodName := ⟨RX4, "digestFrom", "(J)J"⟩
def RX5 : String := "BearWitness$Tally"
def TX5 : u_T := fun k => match k with
  | 0 => ("BearWitness$Tally", "bears", "I", false)
  | 1 => ("BearWitness$Tally", "ones", "LBearWitness$Cells;", true)
  | _ => ("BearWitness$Tally", "noughts", "LBearWitness$Cells;", true)
def tyX5 : Nat → FieldType := fun k => match k with
  | 0 => .int
  | 1 => .object "BearWitness$Cells"
  | _ => .object "BearWitness$Cells"
abbrev wsX50 : List Cond := u_ws RX5 TX5 3
theorem nmX5 : ∀ a, a < 3 → ∀ b, b < 3 → a ≠ b → (TX5 a).2.1 ≠ (TX5 b).2.1 := by decide +kernel
theorem tyX5_ok : ∀ k, k < 3 → parseFieldDescriptor (TX5 k).2.2.1 = some (tyX5 k) := by decide +kernel
abbrev cX5_init : ByteArray := prog_7_method_1_code
def yX5_init : MethodName := ⟨RX5, "<init>", "()V"⟩
abbrev cX5_hear : ByteArray := prog_7_method_2_code
def yX5_hear : MethodName := ⟨RX5, "hear", "(LBearWitness$Court;)V"⟩
abbrev cX5_toldBy : ByteArray := prog_7_method_3_code
def yX5_toldBy : MethodName := ⟨RX5, "toldBy", "(I)I"⟩
abbrev cX5_balance : ByteArray := prog_7_method_4_code
def yX5_balance : MethodName := ⟨RX5, "balance", "(II)I"⟩
abbrev cX5_shownBy : ByteArray := prog_7_method_5_code
def yX5_shownBy : MethodName := ⟨RX5, "shownBy", "(I)I"⟩
abbrev cX5_tiedBy : ByteArray := prog_7_method_6_code
def yX5_tiedBy : MethodName := ⟨RX5, "tiedBy", "(I)I"⟩
abbrev cX5_clash : ByteArray := prog_7_method_7_code
def yX5_clash : MethodName := ⟨RX5, "clash", "(II)I"⟩
abbrev cX5_hasRivals : ByteArray := prog_7_method_8_code
def yX5_hasRivals : MethodName := ⟨RX5, "hasRivals", "(I)Z"⟩
def RX6 : String := "BearWitness$Trial"
def TX6 : u_T := fun k => match k with
  | 0 => ("BearWitness$Trial", "bears", "I", false)
  | 1 => ("BearWitness$Trial", "called", "I", false)
  | 2 => ("BearWitness$Trial", "more", "I", false)
  | 3 => ("BearWitness$Trial", "wear", "LBearWitness$Cells;", true)
  | 4 => ("BearWitness$Trial", "worth", "LBearWitness$Cells;", true)
  | _ => ("BearWitness$Trial", "pressed", "LBearWitness$Cells;", true)
def tyX6 : Nat → FieldType := fun k => match k with
  | 0 => .int
  | 1 => .int
  | 2 => .int
  | 3 => .object "BearWitness$Cells"
  | 4 => .object "BearWitness$Cells"
  | _ => .object "BearWitness$Cells"
abbrev wsX60 : List Cond := u_ws RX6 TX6 6
theorem nmX6 : ∀ a, a < 6 → ∀ b, b < 6 → a ≠ b → (TX6 a).2.1 ≠ (TX6 b).2.1 := by decide +kernel
theorem tyX6_ok : ∀ k, k < 6 → parseFieldDescriptor (TX6 k).2.2.1 = some (tyX6 k) := by decide +kernel
abbrev cX6_init : ByteArray := prog_8_method_1_code
def yX6_init : MethodName := ⟨RX6, "<init>", "()V"⟩
abbrev cX6_open : ByteArray := prog_8_method_2_code
def yX6_open : MethodName := ⟨RX6, "open", "(LBearWitness$Court;II)V"⟩
abbrev cX6_worthIf : ByteArray := prog_8_method_3_code
def yX6_worthIf : MethodName := ⟨RX6, "worthIf", "(LBearWitness$Court;III)I"⟩
abbrev cX6_worthNow : ByteArray := prog_8_method_4_code
def yX6_worthNow : MethodName := ⟨RX6, "worthNow", "(I)I"⟩
abbrev cX6_canWear : ByteArray := prog_8_method_5_code
def yX6_canWear : MethodName := ⟨RX6, "canWear", "(II)Z"⟩
abbrev cX6_wearBy : ByteArray := prog_8_method_6_code
def yX6_wearBy : MethodName := ⟨RX6, "wearBy", "(II)V"⟩
abbrev cX6_fewestPresses : ByteArray := prog_8_method_7_code
def yX6_fewestPresses : MethodName := ⟨RX6, "fewestPresses", "()I"⟩
abbrev cX6_pressOn : ByteArray := prog_8_method_8_code
def yX6_pressOn : MethodName := ⟨RX6, "pressOn", "(III)Z"⟩
abbrev cX6_playOut : ByteArray := prog_8_method_9_code
def yX6_playOut : MethodName := ⟨RX6, "playOut", "(I)I"⟩
def RX7 : String := "BearWitness"
def TX7 : u_T := fun k => match k with
  | 0 => ("BearWitness", "rows", "LBearWitness$Shelf;", true)
  | 1 => ("BearWitness", "texts", "LBearWitness$Shelf;", true)
  | 2 => ("BearWitness", "now", "LBearWitness$Court;", true)
  | 3 => ("BearWitness", "draft", "LBearWitness$Court;", true)
  | 4 => ("BearWitness", "kept", "[LBearWitness$Court;", true)
  | 5 => ("BearWitness", "reader", "LBearWitness$Reader;", true)
  | 6 => ("BearWitness", "looks", "LBearWitness$Looks;", true)
  | 7 => ("BearWitness", "tally", "LBearWitness$Tally;", true)
  | 8 => ("BearWitness", "trial", "LBearWitness$Trial;", true)
  | 9 => ("BearWitness", "findingCounts", "LBearWitness$Cells;", true)
  | 10 => ("BearWitness", "lastFinding", "I", false)
  | 11 => ("BearWitness", "lastAsked", "I", false)
  | 12 => ("BearWitness", "lastUpper", "J", false)
  | _ => ("BearWitness", "lastLower", "J", false)
def tyX7 : Nat → FieldType := fun k => match k with
  | 0 => .object "BearWitness$Shelf"
  | 1 => .object "BearWitness$Shelf"
  | 2 => .object "BearWitness$Court"
  | 3 => .object "BearWitness$Court"
  | 4 => .array (.object "BearWitness$Court")
  | 5 => .object "BearWitness$Reader"
  | 6 => .object "BearWitness$Looks"
  | 7 => .object "BearWitness$Tally"
  | 8 => .object "BearWitness$Trial"
  | 9 => .object "BearWitness$Cells"
  | 10 => .int
  | 11 => .int
  | 12 => .long
  | _ => .long
abbrev wsX70 : List Cond := u_ws RX7 TX7 14
theorem nmX7 : ∀ a, a < 14 → ∀ b, b < 14 → a ≠ b → (TX7 a).2.1 ≠ (TX7 b).2.1 := by decide +kernel
theorem tyX7_ok : ∀ k, k < 14 → parseFieldDescriptor (TX7 k).2.2.1 = some (tyX7 k) := by decide +kernel
abbrev cX7_init : ByteArray := prog_1_method_1_code
def yX7_init : MethodName := ⟨RX7, "<init>", "()V"⟩
abbrev cX7_row : ByteArray := prog_1_method_2_code
def yX7_row : MethodName := ⟨RX7, "row", "(II)I"⟩
abbrev cX7_lay : ByteArray := prog_1_method_3_code
def yX7_lay : MethodName := ⟨RX7, "lay", "(III)I"⟩
abbrev cX7_at : ByteArray := prog_1_method_4_code
def yX7_at : MethodName := ⟨RX7, "at", "(II)I"⟩
abbrev cX7_tear : ByteArray := prog_1_method_5_code
def yX7_tear : MethodName := ⟨RX7, "tear", "(I)I"⟩
abbrev cX7_copy : ByteArray := prog_1_method_6_code
def yX7_copy : MethodName := ⟨RX7, "copy", "(IIIII)I"⟩
abbrev cX7_mean : ByteArray := prog_1_method_7_code
def yX7_mean : MethodName := ⟨RX7, "mean", "(I)I"⟩
abbrev cX7_text : ByteArray := prog_1_method_8_code
def yX7_text : MethodName := ⟨RX7, "text", "(II)I"⟩
abbrev cX7_put : ByteArray := prog_1_method_9_code
def yX7_put : MethodName := ⟨RX7, "put", "(III)I"⟩
abbrev cX7_fault : ByteArray := prog_1_method_10_code
def yX7_fault : MethodName := ⟨RX7, "fault", "(I)I"⟩
abbrev cX7_court : ByteArray := prog_1_method_11_code
def yX7_court : MethodName := ⟨RX7, "court", "(I)I"⟩
abbrev cX7_bear : ByteArray := prog_1_method_12_code
def yX7_bear : MethodName := ⟨RX7, "bear", "(II)I"⟩
abbrev cX7_mark : ByteArray := prog_1_method_13_code
def yX7_mark : MethodName := ⟨RX7, "mark", "(II)I"⟩
abbrev cX7_press : ByteArray := prog_1_method_14_code
def yX7_press : MethodName := ⟨RX7, "press", "(I)I"⟩
abbrev cX7_mend : ByteArray := prog_1_method_15_code
def yX7_mend : MethodName := ⟨RX7, "mend", "(I)I"⟩
abbrev cX7_eye : ByteArray := prog_1_method_16_code
def yX7_eye : MethodName := ⟨RX7, "eye", "(I)I"⟩
abbrev cX7_turn : ByteArray := prog_1_method_17_code
def yX7_turn : MethodName := ⟨RX7, "turn", "(I)I"⟩
abbrev cX7_undo : ByteArray := prog_1_method_18_code
def yX7_undo : MethodName := ⟨RX7, "undo", "(I)I"⟩
abbrev cX7_keep : ByteArray := prog_1_method_19_code
def yX7_keep : MethodName := ⟨RX7, "keep", "(I)I"⟩
abbrev cX7_on : ByteArray := prog_1_method_20_code
def yX7_on : MethodName := ⟨RX7, "on", "(I)I"⟩
abbrev cX7_tells : ByteArray := prog_1_method_21_code
def yX7_tells : MethodName := ⟨RX7, "tells", "(II)I"⟩
abbrev cX7_shown : ByteArray := prog_1_method_22_code
def yX7_shown : MethodName := ⟨RX7, "shown", "(I)I"⟩
abbrev cX7_call : ByteArray := prog_1_method_23_code
def yX7_call : MethodName := ⟨RX7, "call", "(I)I"⟩
abbrev cX7_shake : ByteArray := prog_1_method_24_code
def yX7_shake : MethodName := ⟨RX7, "shake", "(III)I"⟩
abbrev cX7_cover : ByteArray := prog_1_method_25_code
def yX7_cover : MethodName := ⟨RX7, "cover", "(I)I"⟩
abbrev cX7_rivals : ByteArray := prog_1_method_26_code
def yX7_rivals : MethodName := ⟨RX7, "rivals", "(II)I"⟩
abbrev cX7_apart : ByteArray := prog_1_method_27_code
def yX7_apart : MethodName := ⟨RX7, "apart", "()I"⟩
abbrev cX7_truths : ByteArray := prog_1_method_28_code
def yX7_truths : MethodName := ⟨RX7, "truths", "(I)I"⟩
abbrev cX7_sure : ByteArray := prog_1_method_29_code
def yX7_sure : MethodName := ⟨RX7, "sure", "(I)I"⟩
abbrev cX7_next : ByteArray := prog_1_method_30_code
def yX7_next : MethodName := ⟨RX7, "next", "(I)I"⟩
abbrev cX7_kinds : ByteArray := prog_1_method_31_code
def yX7_kinds : MethodName := ⟨RX7, "kinds", "(II)I"⟩
abbrev cX7_walls : ByteArray := prog_1_method_32_code
def yX7_walls : MethodName := ⟨RX7, "walls", "(I)I"⟩
abbrev cX7_duel : ByteArray := prog_1_method_33_code
def yX7_duel : MethodName := ⟨RX7, "duel", "(II)I"⟩
abbrev cX7_odds : ByteArray := prog_1_method_34_code
def yX7_odds : MethodName := ⟨RX7, "odds", "(II)I"⟩
abbrev cX7_mid : ByteArray := prog_1_method_35_code
def yX7_mid : MethodName := ⟨RX7, "mid", "(I)I"⟩
abbrev cX7_lots : ByteArray := prog_1_method_36_code
def yX7_lots : MethodName := ⟨RX7, "lots", "(II)I"⟩
abbrev cX7_asked : ByteArray := prog_1_method_37_code
def yX7_asked : MethodName := ⟨RX7, "asked", "()I"⟩
abbrev cX7_upper : ByteArray := prog_1_method_38_code
def yX7_upper : MethodName := ⟨RX7, "upper", "()J"⟩
abbrev cX7_lower : ByteArray := prog_1_method_39_code
def yX7_lower : MethodName := ⟨RX7, "lower", "()J"⟩
abbrev cX7_count : ByteArray := prog_1_method_40_code
def yX7_count : MethodName := ⟨RX7, "count", "(I)I"⟩
abbrev cX7_finding : ByteArray := prog_1_method_41_code
def yX7_finding : MethodName := ⟨RX7, "finding", "()I"⟩
abbrev cX7_findings : ByteArray := prog_1_method_42_code
def yX7_findings : MethodName := ⟨RX7, "findings", "(I)I"⟩
abbrev cX7_digest : ByteArray := prog_1_method_43_code
def yX7_digest : MethodName := ⟨RX7, "digest", "()J"⟩
abbrev cX7_found : ByteArray := prog_1_method_44_code
def yX7_found : MethodName := ⟨RX7, "found", "(I)I"⟩
abbrev cX7_missingPlace : ByteArray := prog_1_method_45_code
def yX7_missingPlace : MethodName := ⟨RX7, "missingPlace", "(LBearWitness$Shelf;II)I"⟩
abbrev cX7_ofBear : ByteArray := prog_1_method_46_code
def yX7_ofBear : MethodName := ⟨RX7, "ofBear", "(II)I"⟩
abbrev cX7_answerDeed : ByteArray := prog_1_method_47_code
def yX7_answerDeed : MethodName := ⟨RX7, "answerDeed", "(II)I"⟩
abbrev cX7_actOfLot : ByteArray := prog_1_method_48_code
def yX7_actOfLot : MethodName := ⟨RX7, "actOfLot", "(I)I"⟩
abbrev cX7_keptIn : ByteArray := prog_1_method_49_code
def yX7_keptIn : MethodName := ⟨RX7, "keptIn", "(I)LBearWitness$Court;"⟩
abbrev cX7_forgetKept : ByteArray := prog_1_method_50_code
def yX7_forgetKept : MethodName := ⟨RX7, "forgetKept", "(I)V"⟩
abbrev cX7_keptCourts : ByteArray := prog_1_method_51_code
def yX7_keptCourts : MethodName := ⟨RX7, "keptCourts", "()I"⟩
abbrev cX7_shownByAll : ByteArray := prog_1_method_52_code
def yX7_shownByAll : MethodName := ⟨RX7, "shownByAll", "()I"⟩
abbrev cX7_readLooks : ByteArray := prog_1_method_53_code
def yX7_readLooks : MethodName := ⟨RX7, "readLooks", "(I)I"⟩
abbrev cX7_greatestPart : ByteArray := prog_1_method_54_code
def yX7_greatestPart : MethodName := ⟨RX7, "greatestPart", "(IIJ)I"⟩
abbrev cX7_leastOf : ByteArray := prog_1_method_55_code
def yX7_leastOf : MethodName := ⟨RX7, "leastOf", "(J)I"⟩
abbrev cX7_isFewer : ByteArray := prog_1_method_56_code
def yX7_isFewer : MethodName := ⟨RX7, "isFewer", "(II)Z"⟩
abbrev cX7_isThing : ByteArray := prog_1_method_57_code
def yX7_isThing : MethodName := ⟨RX7, "isThing", "(I)Z"⟩
abbrev cX7_isChance : ByteArray := prog_1_method_58_code
def yX7_isChance : MethodName := ⟨RX7, "isChance", "(I)Z"⟩
abbrev cX7_isIn : ByteArray := prog_1_method_59_code
def yX7_isIn : MethodName := ⟨RX7, "isIn", "(II)Z"⟩
abbrev cX7_isOfKind : ByteArray := prog_1_method_60_code
def yX7_isOfKind : MethodName := ⟨RX7, "isOfKind", "(II)Z"⟩
abbrev cX7_weightOf : ByteArray := prog_1_method_61_code
def yX7_weightOf : MethodName := ⟨RX7, "weightOf", "(II)J"⟩
abbrev cX7_allWeight : ByteArray := prog_1_method_62_code
def yX7_allWeight : MethodName := ⟨RX7, "allWeight", "()J"⟩
abbrev cX7_tellPart : ByteArray := prog_1_method_63_code
def yX7_tellPart : MethodName := ⟨RX7, "tellPart", "(JJ)V"⟩
abbrev cX7_commonDivisor : ByteArray := prog_1_method_64_code
def yX7_commonDivisor : MethodName := ⟨RX7, "commonDivisor", "(JJ)J"⟩
def RX8 : String := "BearWitnessModel"
def TX8 : u_T := fun k => match k with
  | 0 => ("BearWitnessModel", "now", "[I", true)
  | 1 => ("BearWitnessModel", "kept", "[I", true)
  | 2 => ("BearWitnessModel", "isKept", "[Z", true)
  | 3 => ("BearWitnessModel", "rows", "[I", true)
  | 4 => ("BearWitnessModel", "rowLong", "[I", true)
  | 5 => ("BearWitnessModel", "texts", "[I", true)
  | 6 => ("BearWitnessModel", "textLong", "[I", true)
  | 7 => ("BearWitnessModel", "found", "[I", true)
  | 8 => ("BearWitnessModel", "latest", "I", false)
  | 9 => ("BearWitnessModel", "askedIs", "I", false)
  | 10 => ("BearWitnessModel", "above", "J", false)
  | 11 => ("BearWitnessModel", "below", "J", false)
  | 12 => ("BearWitnessModel", "taken", "[I", true)
  | 13 => ("BearWitnessModel", "anew", "[I", true)
  | 14 => ("BearWitnessModel", "place", "I", false)
  | 15 => ("BearWitnessModel", "hand", "[I", true)
  | 16 => ("BearWitnessModel", "steps", "[I", true)
  | 17 => ("BearWitnessModel", "parts", "[I", true)
  | 18 => ("BearWitnessModel", "choices", "[I", true)
  | _ => ("BearWitnessModel", "values", "[I", true)
def tyX8 : Nat → FieldType := fun k => match k with
  | 0 => .array .int
  | 1 => .array .int
  | 2 => .array .boolean
  | 3 => .array .int
  | 4 => .array .int
  | 5 => .array .int
  | 6 => .array .int
  | 7 => .array .int
  | 8 => .int
  | 9 => .int
  | 10 => .long
  | 11 => .long
  | 12 => .array .int
  | 13 => .array .int
  | 14 => .int
  | 15 => .array .int
  | 16 => .array .int
  | 17 => .array .int
  | 18 => .array .int
  | _ => .array .int
abbrev wsX80 : List Cond := u_ws RX8 TX8 20
theorem nmX8 : ∀ a, a < 20 → ∀ b, b < 20 → a ≠ b → (TX8 a).2.1 ≠ (TX8 b).2.1 := by decide +kernel
theorem tyX8_ok : ∀ k, k < 20 → parseFieldDescriptor (TX8 k).2.2.1 = some (tyX8 k) := by decide +kernel
abbrev cX8_init : ByteArray := prog_10_method_1_code
def yX8_init : MethodName := ⟨RX8, "<init>", "()V"⟩
abbrev cX8_in : ByteArray := prog_10_method_3_code
def yX8_in : MethodName := ⟨RX8, "in", "(JJJ)Z"⟩
abbrev cX8_finds : ByteArray := prog_10_method_4_code
def yX8_finds : MethodName := ⟨RX8, "finds", "(I)I"⟩
abbrev cX8_asks : ByteArray := prog_10_method_5_code
def yX8_asks : MethodName := ⟨RX8, "asks", "(I)I"⟩
abbrev cX8_isRow : ByteArray := prog_10_method_6_code
def yX8_isRow : MethodName := ⟨RX8, "isRow", "(I)Z"⟩
abbrev cX8_isText : ByteArray := prog_10_method_7_code
def yX8_isText : MethodName := ⟨RX8, "isText", "(I)Z"⟩
abbrev cX8_row : ByteArray := prog_10_method_8_code
def yX8_row : MethodName := ⟨RX8, "row", "(II)I"⟩
abbrev cX8_lay : ByteArray := prog_10_method_9_code
def yX8_lay : MethodName := ⟨RX8, "lay", "(III)I"⟩
abbrev cX8_at : ByteArray := prog_10_method_10_code
def yX8_at : MethodName := ⟨RX8, "at", "(II)I"⟩
abbrev cX8_tear : ByteArray := prog_10_method_11_code
def yX8_tear : MethodName := ⟨RX8, "tear", "(I)I"⟩
abbrev cX8_copy : ByteArray := prog_10_method_12_code
def yX8_copy : MethodName := ⟨RX8, "copy", "(IIIII)I"⟩
abbrev cX8_mean : ByteArray := prog_10_method_13_code
def yX8_mean : MethodName := ⟨RX8, "mean", "(I)I"⟩
abbrev cX8_text : ByteArray := prog_10_method_14_code
def yX8_text : MethodName := ⟨RX8, "text", "(II)I"⟩
abbrev cX8_put : ByteArray := prog_10_method_15_code
def yX8_put : MethodName := ⟨RX8, "put", "(III)I"⟩
abbrev cX8_here : ByteArray := prog_10_method_16_code
def yX8_here : MethodName := ⟨RX8, "here", "(I)I"⟩
abbrev cX8_skip : ByteArray := prog_10_method_17_code
def yX8_skip : MethodName := ⟨RX8, "skip", "(I)V"⟩
abbrev cX8_takes : ByteArray := prog_10_method_18_code
def yX8_takes : MethodName := ⟨RX8, "takes", "(III)Z"⟩
abbrev cX8_takesSet : ByteArray := prog_10_method_19_code
def yX8_takesSet : MethodName := ⟨RX8, "takesSet", "(II)Z"⟩
abbrev cX8_kindBy : ByteArray := prog_10_method_20_code
def yX8_kindBy : MethodName := ⟨RX8, "kindBy", "(I)I"⟩
abbrev cX8_takesFirst : ByteArray := prog_10_method_21_code
def yX8_takesFirst : MethodName := ⟨RX8, "takesFirst", "(I)Z"⟩
abbrev cX8_takesBear : ByteArray := prog_10_method_22_code
def yX8_takesBear : MethodName := ⟨RX8, "takesBear", "(I)Z"⟩
abbrev cX8_faultOf : ByteArray := prog_10_method_23_code
def yX8_faultOf : MethodName := ⟨RX8, "faultOf", "(I)I"⟩
abbrev cX8_fault : ByteArray := prog_10_method_24_code
def yX8_fault : MethodName := ⟨RX8, "fault", "(I)I"⟩
abbrev cX8_court : ByteArray := prog_10_method_25_code
def yX8_court : MethodName := ⟨RX8, "court", "(I)I"⟩
abbrev cX8_begin : ByteArray := prog_10_method_26_code
def yX8_begin : MethodName := ⟨RX8, "begin", "([I)V"⟩
abbrev cX8_has : ByteArray := prog_10_method_27_code
def yX8_has : MethodName := ⟨RX8, "has", "(II)Z"⟩
abbrev cX8_bits : ByteArray := prog_10_method_28_code
def yX8_bits : MethodName := ⟨RX8, "bits", "(I)I"⟩
abbrev cX8_seesAs : ByteArray := prog_10_method_29_code
def yX8_seesAs : MethodName := ⟨RX8, "seesAs", "(IIIII)Z"⟩
abbrev cX8_tellsAs : ByteArray := prog_10_method_30_code
def yX8_tellsAs : MethodName := ⟨RX8, "tellsAs", "(IIIIII)I"⟩
abbrev cX8_sayOf : ByteArray := prog_10_method_31_code
def yX8_sayOf : MethodName := ⟨RX8, "sayOf", "([IIII)I"⟩
abbrev cX8_tellOf : ByteArray := prog_10_method_32_code
def yX8_tellOf : MethodName := ⟨RX8, "tellOf", "([IIII)I"⟩
abbrev cX8_tellNow : ByteArray := prog_10_method_33_code
def yX8_tellNow : MethodName := ⟨RX8, "tellNow", "(II)I"⟩
abbrev cX8_toldThings : ByteArray := prog_10_method_34_code
def yX8_toldThings : MethodName := ⟨RX8, "toldThings", "(I)I"⟩
abbrev cX8_balance : ByteArray := prog_10_method_35_code
def yX8_balance : MethodName := ⟨RX8, "balance", "([III)I"⟩
abbrev cX8_shownBy : ByteArray := prog_10_method_36_code
def yX8_shownBy : MethodName := ⟨RX8, "shownBy", "(I)I"⟩
abbrev cX8_allBears : ByteArray := prog_10_method_37_code
def yX8_allBears : MethodName := ⟨RX8, "allBears", "()I"⟩
abbrev cX8_isBear : ByteArray := prog_10_method_38_code
def yX8_isBear : MethodName := ⟨RX8, "isBear", "(I)Z"⟩
abbrev cX8_isThing : ByteArray := prog_10_method_39_code
def yX8_isThing : MethodName := ⟨RX8, "isThing", "(I)Z"⟩
abbrev cX8_toldOf : ByteArray := prog_10_method_40_code
def yX8_toldOf : MethodName := ⟨RX8, "toldOf", "(II)I"⟩
abbrev cX8_bear : ByteArray := prog_10_method_41_code
def yX8_bear : MethodName := ⟨RX8, "bear", "(II)I"⟩
abbrev cX8_isOf : ByteArray := prog_10_method_42_code
def yX8_isOf : MethodName := ⟨RX8, "isOf", "(II)Z"⟩
abbrev cX8_seesBeyond : ByteArray := prog_10_method_43_code
def yX8_seesBeyond : MethodName := ⟨RX8, "seesBeyond", "(II)I"⟩
abbrev cX8_mark : ByteArray := prog_10_method_44_code
def yX8_mark : MethodName := ⟨RX8, "mark", "(II)I"⟩
abbrev cX8_goDeed : ByteArray := prog_10_method_45_code
def yX8_goDeed : MethodName := ⟨RX8, "goDeed", "([II)V"⟩
abbrev cX8_does : ByteArray := prog_10_method_46_code
def yX8_does : MethodName := ⟨RX8, "does", "(I)V"⟩
abbrev cX8_may : ByteArray := prog_10_method_47_code
def yX8_may : MethodName := ⟨RX8, "may", "([II)Z"⟩
abbrev cX8_doesTo : ByteArray := prog_10_method_48_code
def yX8_doesTo : MethodName := ⟨RX8, "doesTo", "(II)I"⟩
abbrev cX8_press : ByteArray := prog_10_method_49_code
def yX8_press : MethodName := ⟨RX8, "press", "(I)I"⟩
abbrev cX8_mend : ByteArray := prog_10_method_50_code
def yX8_mend : MethodName := ⟨RX8, "mend", "(I)I"⟩
abbrev cX8_eye : ByteArray := prog_10_method_51_code
def yX8_eye : MethodName := ⟨RX8, "eye", "(I)I"⟩
abbrev cX8_turn : ByteArray := prog_10_method_52_code
def yX8_turn : MethodName := ⟨RX8, "turn", "(I)I"⟩
abbrev cX8_undo : ByteArray := prog_10_method_53_code
def yX8_undo : MethodName := ⟨RX8, "undo", "(I)I"⟩
abbrev cX8_isShelf : ByteArray := prog_10_method_54_code
def yX8_isShelf : MethodName := ⟨RX8, "isShelf", "(I)Z"⟩
abbrev cX8_keep : ByteArray := prog_10_method_55_code
def yX8_keep : MethodName := ⟨RX8, "keep", "(I)I"⟩
abbrev cX8_on : ByteArray := prog_10_method_56_code
def yX8_on : MethodName := ⟨RX8, "on", "(I)I"⟩
abbrev cX8_tells : ByteArray := prog_10_method_57_code
def yX8_tells : MethodName := ⟨RX8, "tells", "(II)I"⟩
abbrev cX8_shown : ByteArray := prog_10_method_58_code
def yX8_shown : MethodName := ⟨RX8, "shown", "(I)I"⟩
abbrev cX8_call : ByteArray := prog_10_method_59_code
def yX8_call : MethodName := ⟨RX8, "call", "(I)I"⟩
abbrev cX8_layHand : ByteArray := prog_10_method_60_code
def yX8_layHand : MethodName := ⟨RX8, "layHand", "()V"⟩
abbrev cX8_goes : ByteArray := prog_10_method_61_code
def yX8_goes : MethodName := ⟨RX8, "goes", "(IIII)Z"⟩
abbrev cX8_shake : ByteArray := prog_10_method_62_code
def yX8_shake : MethodName := ⟨RX8, "shake", "(III)I"⟩
abbrev cX8_cover : ByteArray := prog_10_method_63_code
def yX8_cover : MethodName := ⟨RX8, "cover", "(I)I"⟩
abbrev cX8_rivalThings : ByteArray := prog_10_method_64_code
def yX8_rivalThings : MethodName := ⟨RX8, "rivalThings", "(II)I"⟩
abbrev cX8_rivals : ByteArray := prog_10_method_65_code
def yX8_rivals : MethodName := ⟨RX8, "rivals", "(II)I"⟩
abbrev cX8_apart : ByteArray := prog_10_method_66_code
def yX8_apart : MethodName := ⟨RX8, "apart", "()I"⟩
abbrev cX8_refusesPairs : ByteArray := prog_10_method_67_code
def yX8_refusesPairs : MethodName := ⟨RX8, "refusesPairs", "(I)I"⟩
abbrev cX8_pairOf : ByteArray := prog_10_method_68_code
def yX8_pairOf : MethodName := ⟨RX8, "pairOf", "(I)I"⟩
abbrev cX8_isTruth : ByteArray := prog_10_method_69_code
def yX8_isTruth : MethodName := ⟨RX8, "isTruth", "(II)Z"⟩
abbrev cX8_refusesLooks : ByteArray := prog_10_method_70_code
def yX8_refusesLooks : MethodName := ⟨RX8, "refusesLooks", "(I)I"⟩
abbrev cX8_truths : ByteArray := prog_10_method_71_code
def yX8_truths : MethodName := ⟨RX8, "truths", "(I)I"⟩
abbrev cX8_sure : ByteArray := prog_10_method_72_code
def yX8_sure : MethodName := ⟨RX8, "sure", "(I)I"⟩
abbrev cX8_next : ByteArray := prog_10_method_73_code
def yX8_next : MethodName := ⟨RX8, "next", "(I)I"⟩
abbrev cX8_kinds : ByteArray := prog_10_method_74_code
def yX8_kinds : MethodName := ⟨RX8, "kinds", "(II)I"⟩
abbrev cX8_walls : ByteArray := prog_10_method_75_code
def yX8_walls : MethodName := ⟨RX8, "walls", "(I)I"⟩
abbrev cX8_goChoices : ByteArray := prog_10_method_76_code
def yX8_goChoices : MethodName := ⟨RX8, "goChoices", "(II)I"⟩
abbrev cX8_startOf : ByteArray := prog_10_method_77_code
def yX8_startOf : MethodName := ⟨RX8, "startOf", "(I)I"⟩
abbrev cX8_weigh : ByteArray := prog_10_method_78_code
def yX8_weigh : MethodName := ⟨RX8, "weigh", "(II)V"⟩
abbrev cX8_duel : ByteArray := prog_10_method_79_code
def yX8_duel : MethodName := ⟨RX8, "duel", "(II)I"⟩
abbrev cX8_fraction : ByteArray := prog_10_method_80_code
def yX8_fraction : MethodName := ⟨RX8, "fraction", "(JJ)V"⟩
abbrev cX8_goOdds : ByteArray := prog_10_method_81_code
def yX8_goOdds : MethodName := ⟨RX8, "goOdds", "(II)V"⟩
abbrev cX8_odds : ByteArray := prog_10_method_82_code
def yX8_odds : MethodName := ⟨RX8, "odds", "(II)I"⟩
abbrev cX8_mid : ByteArray := prog_10_method_83_code
def yX8_mid : MethodName := ⟨RX8, "mid", "(I)I"⟩
abbrev cX8_lots : ByteArray := prog_10_method_84_code
def yX8_lots : MethodName := ⟨RX8, "lots", "(II)I"⟩
abbrev cX8_asked : ByteArray := prog_10_method_85_code
def yX8_asked : MethodName := ⟨RX8, "asked", "()I"⟩
abbrev cX8_upper : ByteArray := prog_10_method_86_code
def yX8_upper : MethodName := ⟨RX8, "upper", "()J"⟩
abbrev cX8_lower : ByteArray := prog_10_method_87_code
def yX8_lower : MethodName := ⟨RX8, "lower", "()J"⟩
abbrev cX8_manyThere : ByteArray := prog_10_method_88_code
def yX8_manyThere : MethodName := ⟨RX8, "manyThere", "([II)I"⟩
abbrev cX8_manyOf : ByteArray := prog_10_method_89_code
def yX8_manyOf : MethodName := ⟨RX8, "manyOf", "(I)I"⟩
abbrev cX8_sumOf : ByteArray := prog_10_method_90_code
def yX8_sumOf : MethodName := ⟨RX8, "sumOf", "(I)I"⟩
abbrev cX8_counted : ByteArray := prog_10_method_91_code
def yX8_counted : MethodName := ⟨RX8, "counted", "(I)I"⟩
abbrev cX8_count : ByteArray := prog_10_method_92_code
def yX8_count : MethodName := ⟨RX8, "count", "(I)I"⟩
abbrev cX8_finding : ByteArray := prog_10_method_93_code
def yX8_finding : MethodName := ⟨RX8, "finding", "()I"⟩
abbrev cX8_findings : ByteArray := prog_10_method_94_code
def yX8_findings : MethodName := ⟨RX8, "findings", "(I)I"⟩
abbrev cX8_digest : ByteArray := prog_10_method_95_code
def yX8_digest : MethodName := ⟨RX8, "digest", "()J"⟩
def RJ6 : String := "java/lang/Integer"
def TJ6 : u_T := fun k => match k with
  | _ => ("", "", "", false)
def tyJ6 : Nat → FieldType := fun k => match k with
  | _ => .int
abbrev wsJ60 : List Cond := u_ws RJ6 TJ6 0
theorem nmJ6 : ∀ a, a < 0 → ∀ b, b < 0 → a ≠ b → (TJ6 a).2.1 ≠ (TJ6 b).2.1 := by decide +kernel
theorem tyJ6_ok : ∀ k, k < 0 → parseFieldDescriptor (TJ6 k).2.2.1 = some (tyJ6 k) := by decide +kernel
abbrev cJ6_bitCount_0f7a4 : ByteArray := prog_11_method_49_code
def yJ6_bitCount_0f7a4 : MethodName := ⟨RJ6, "bitCount", "(I)I"⟩
def RJ13 : String := "java/lang/Long"
def TJ13 : u_T := fun k => match k with
  | _ => ("", "", "", false)
def tyJ13 : Nat → FieldType := fun k => match k with
  | _ => .int
abbrev wsJ130 : List Cond := u_ws RJ13 TJ13 0
theorem nmJ13 : ∀ a, a < 0 → ∀ b, b < 0 → a ≠ b → (TJ13 a).2.1 ≠ (TJ13 b).2.1 := by decide +kernel
theorem tyJ13_ok : ∀ k, k < 0 → parseFieldDescriptor (TJ13 k).2.2.1 = some (tyJ13 k) := by decide +kernel
abbrev cJ13_bitCount_95d88 : ByteArray := prog_12_method_50_code
def yJ13_bitCount_95d88 : MethodName := ⟨RJ13, "bitCount", "(J)I"⟩
def RJ9 : String := "java/lang/Math"
def TJ9 : u_T := fun k => match k with
  | _ => ("", "", "", false)
def tyJ9 : Nat → FieldType := fun k => match k with
  | _ => .int
abbrev wsJ90 : List Cond := u_ws RJ9 TJ9 0
theorem nmJ9 : ∀ a, a < 0 → ∀ b, b < 0 → a ≠ b → (TJ9 a).2.1 ≠ (TJ9 b).2.1 := by decide +kernel
theorem tyJ9_ok : ∀ k, k < 0 → parseFieldDescriptor (TJ9 k).2.2.1 = some (tyJ9 k) := by decide +kernel
abbrev cJ9_max_7cf53 : ByteArray := prog_13_method_65_code
def yJ9_max_7cf53 : MethodName := ⟨RJ9, "max", "(II)I"⟩
abbrev cJ9_min_7cf53 : ByteArray := prog_13_method_69_code
def yJ9_min_7cf53 : MethodName := ⟨RJ9, "min", "(II)I"⟩
def RJ10 : String := "java/lang/System"
def TJ10 : u_T := fun k => match k with
  | _ => ("", "", "", false)
def tyJ10 : Nat → FieldType := fun k => match k with
  | _ => .int
abbrev wsJ100 : List Cond := u_ws RJ10 TJ10 0
theorem nmJ10 : ∀ a, a < 0 → ∀ b, b < 0 → a ≠ b → (TJ10 a).2.1 ≠ (TJ10 b).2.1 := by decide +kernel
theorem tyJ10_ok : ∀ k, k < 0 → parseFieldDescriptor (TJ10 k).2.2.1 = some (tyJ10 k) := by decide +kernel
def RL : String := "BearWitnessLaw"
abbrev cL_law : ByteArray := code
def yL_law : MethodName := ⟨RL, "law", "([I)Z"⟩
abbrev vwCl : List vw_C := [(RX0, TX0, 1), (RX1, TX1, 10), (RX2, TX2, 4), (RX3, TX3, 3), (RX4, TX4, 4), (RX5, TX5, 3), (RX6, TX6, 6), (RX7, TX7, 14), (RX8, TX8, 20)]
theorem inX0 : ∀ w ∈ wsX00, w ∈ lw_tbl := by decide +kernel
theorem inX1 : ∀ w ∈ wsX10, w ∈ lw_tbl := by decide +kernel
theorem inX2 : ∀ w ∈ wsX20, w ∈ lw_tbl := by decide +kernel
theorem inX3 : ∀ w ∈ wsX30, w ∈ lw_tbl := by decide +kernel
theorem inX4 : ∀ w ∈ wsX40, w ∈ lw_tbl := by decide +kernel
theorem inX5 : ∀ w ∈ wsX50, w ∈ lw_tbl := by decide +kernel
theorem inX6 : ∀ w ∈ wsX60, w ∈ lw_tbl := by decide +kernel
theorem inX7 : ∀ w ∈ wsX70, w ∈ lw_tbl := by decide +kernel
theorem inX8 : ∀ w ∈ wsX80, w ∈ lw_tbl := by decide +kernel
end
section
/-! A small machine of its own: places instead of addresses, contents as functions; what it runs, the JVM runs (part 'sound') -/
abbrev bw_K : Type := Nat ⊕ (FieldType × Nat)
abbrev bw_H : Type := (Nat × Nat) × (Nat → bw_K) × (Nat → Nat → Int32) × (Nat → Nat → Int64) × (Nat → Nat → Option Nat)
abbrev bw_L : Type := List (Nat × Value)
abbrev bw_C : Type := Nat × bw_L × List Value × bw_H
def bw_up {α : Type} (f : Nat → α) (p : Nat) (v : α) : Nat → α := fun a => if a = p then v else f a
def bw_up2 {α : Type} (f : Nat → Nat → α) (p k : Nat) (v : α) : Nat → Nat → α := bw_up f p (bw_up (f p) k v)
def bw_n (h : bw_H) : Nat := h.1.1
def bw_s (h : bw_H) : Nat := h.1.2
def bw_k (h : bw_H) : Nat → bw_K := h.2.1
def bw_i (h : bw_H) : Nat → Nat → Int32 := h.2.2.1
def bw_l (h : bw_H) : Nat → Nat → Int64 := h.2.2.2.1
def bw_r (h : bw_H) : Nat → Nat → Option Nat := h.2.2.2.2
def bw_si (h : bw_H) (p k : Nat) (v : Int32) : bw_H := (h.1, h.2.1, bw_up2 h.2.2.1 p k v, h.2.2.2)
def bw_sl (h : bw_H) (p k : Nat) (v : Int64) : bw_H := (h.1, h.2.1, h.2.2.1, bw_up2 h.2.2.2.1 p k v, h.2.2.2.2)
def bw_sr (h : bw_H) (p k : Nat) (v : Option Nat) : bw_H := (h.1, h.2.1, h.2.2.1, h.2.2.2.1, bw_up2 h.2.2.2.2 p k v)
def bw_sa (h : bw_H) (p : Nat) (f : Nat → Int32) : bw_H := (h.1, h.2.1, bw_up h.2.2.1 p f, h.2.2.2)
/-- a new cell: ints 0, longs 0, references null -/
def bw_nw (h : bw_H) (kd : bw_K) (N : Nat) : bw_H := ((h.1.1 + 1, h.1.2 + N), bw_up h.2.1 h.1.1 kd, bw_up h.2.2.1 h.1.1 (fun _ => 0), bw_up h.2.2.2.1 h.1.1 (fun _ => 0), bw_up h.2.2.2.2 h.1.1 (fun _ => none))
def bw_ty (c k : Nat) : FieldType := match c with
  | 0 => tyX0 k
  | 1 => tyX1 k
  | 2 => tyX2 k
  | 3 => tyX3 k
  | 4 => tyX4 k
  | 5 => tyX5 k
  | 6 => tyX6 k
  | 7 => tyX7 k
  | _ => tyX8 k
def bw_T (c : Nat) : u_T := match c with
  | 0 => TX0
  | 1 => TX1
  | 2 => TX2
  | 3 => TX3
  | 4 => TX4
  | 5 => TX5
  | 6 => TX6
  | 7 => TX7
  | _ => TX8
def bw_N (c : Nat) : Nat := match c with
  | 0 => 1
  | 1 => 10
  | 2 => 4
  | 3 => 3
  | 4 => 4
  | 5 => 3
  | 6 => 6
  | 7 => 14
  | _ => 20
def bw_R (o : Nat) : String := match o with
  | 0 => RX0
  | 1 => RX1
  | 2 => RX2
  | 3 => RX3
  | 4 => RX4
  | 5 => RX5
  | 6 => RX6
  | 7 => RX7
  | 8 => RX8
  | 9 => RL
  | 10 => RJ6
  | 11 => RJ13
  | _ => RJ9
def bw_rf (r : Option Nat) : Value := match r with
  | none => .null
  | some a => .ref a
/-- a field's value: by its type -/
def bw_fv (h : bw_H) (p c k : Nat) : Value := match bw_ty c k with
  | .int => .int (bw_i h p k)
  | .long => .long (bw_l h p k)
  | _ => bw_rf (bw_r h p k)
def bw_lg (ls : bw_L) (i : Nat) : Option Value := (ls.find? (fun q => q.1 == i)).map (fun q => q.2)
def bw_s1 (ls : bw_L) (i : Nat) (v : Value) : bw_L := (i, v) :: ls.filter (fun q => !(q.1 == i) && !(q.1 + 1 == i && q.2.category == 2))
def bw_s2 (ls : bw_L) (i : Nat) (v : Value) : bw_L := (i, v) :: ls.filter (fun q => !(q.1 == i) && (!(q.1 == i + 1) && !(q.1 + 1 == i && q.2.category == 2)))
def bw_jp (pc : Nat) (off : Int) : Option Nat := if 0 ≤ (pc : Int) + off then some ((pc : Int) + off).toNat else none
-- what single instructions do
def bq_il (w k pc : Nat) (ls : bw_L) (st : List Value) (h : bw_H) : Option bw_C := match bw_lg ls k with
  | some (.int x) => some (pc + w, ls, .int x :: st, h)
  | _ => none
def bq_ll (w k pc : Nat) (ls : bw_L) (st : List Value) (h : bw_H) : Option bw_C := match bw_lg ls k with
  | some (.long x) => some (pc + w, ls, .long x :: st, h)
  | _ => none
def bq_al (w k pc : Nat) (ls : bw_L) (st : List Value) (h : bw_H) : Option bw_C := match bw_lg ls k with
  | some (.ref x) => some (pc + w, ls, .ref x :: st, h)
  | some (.retAddr x) => some (pc + w, ls, .retAddr x :: st, h)
  | some .null => some (pc + w, ls, .null :: st, h)
  | _ => none
def bq_is (nL w k pc : Nat) (ls : bw_L) (st : List Value) (h : bw_H) : Option bw_C := match st with
  | .int x :: r => if k < nL then some (pc + w, bw_s1 ls k (.int x), r, h) else none
  | _ => none
def bq_ls (nL w k pc : Nat) (ls : bw_L) (st : List Value) (h : bw_H) : Option bw_C := match st with
  | .long x :: r => if k + 1 < nL then some (pc + w, bw_s2 ls k (.long x), r, h) else none
  | _ => none
def bq_as (nL w k pc : Nat) (ls : bw_L) (st : List Value) (h : bw_H) : Option bw_C := match st with
  | .ref x :: r => if k < nL then some (pc + w, bw_s1 ls k (.ref x), r, h) else none
  | .null :: r => if k < nL then some (pc + w, bw_s1 ls k .null, r, h) else none
  | _ => none
def bq_ic (nL k : Nat) (n : Int) (pc : Nat) (ls : bw_L) (st : List Value) (h : bw_H) : Option bw_C := match bw_lg ls k with
  | some (.int x) => if k < nL then some (pc + 3, bw_s1 ls k (.int (x + Int32.ofInt n)), st, h) else none
  | _ => none
def bq_ii (f : Int32 → Int32 → Int32) (pc : Nat) (ls : bw_L) (st : List Value) (h : bw_H) : Option bw_C := match st with
  | .int y :: .int x :: r => some (pc + 1, ls, .int (f x y) :: r, h)
  | _ => none
def bq_id (f : Int32 → Int32 → Int32) (pc : Nat) (ls : bw_L) (st : List Value) (h : bw_H) : Option bw_C := match st with
  | .int y :: .int x :: r => if y = 0 then none else some (pc + 1, ls, .int (f x y) :: r, h)
  | _ => none
def bq_jj (f : Int64 → Int64 → Int64) (pc : Nat) (ls : bw_L) (st : List Value) (h : bw_H) : Option bw_C := match st with
  | .long y :: .long x :: r => some (pc + 1, ls, .long (f x y) :: r, h)
  | _ => none
def bq_jd (f : Int64 → Int64 → Int64) (pc : Nat) (ls : bw_L) (st : List Value) (h : bw_H) : Option bw_C := match st with
  | .long y :: .long x :: r => if y = 0 then none else some (pc + 1, ls, .long (f x y) :: r, h)
  | _ => none
def bq_i1 (f : Int32 → Value) (pc : Nat) (ls : bw_L) (st : List Value) (h : bw_H) : Option bw_C := match st with
  | .int x :: r => some (pc + 1, ls, f x :: r, h)
  | _ => none
def bq_j1 (f : Int64 → Value) (pc : Nat) (ls : bw_L) (st : List Value) (h : bw_H) : Option bw_C := match st with
  | .long x :: r => some (pc + 1, ls, f x :: r, h)
  | _ => none
def bq_ju (pc : Nat) (ls : bw_L) (st : List Value) (h : bw_H) : Option bw_C := match st with
  | .int y :: .long x :: r => some (pc + 1, ls, .long ((x.toUInt64 >>> (y.toInt64.toUInt64 &&& Int64.toUInt64 63)).toInt64) :: r, h)
  | _ => none
def bq_cm (pc : Nat) (ls : bw_L) (st : List Value) (h : bw_H) : Option bw_C := match st with
  | .long y :: .long x :: r => some (pc + 1, ls, .int (lg_cmp x y) :: r, h)
  | _ => none
def bq_du (pc : Nat) (ls : bw_L) (st : List Value) (h : bw_H) : Option bw_C := match st with
  | v :: r => if v.category = 1 then some (pc + 1, ls, v :: v :: r, h) else none
  | _ => none
def bq_d2 (pc : Nat) (ls : bw_L) (st : List Value) (h : bw_H) : Option bw_C := match st with
  | v :: w :: r => if v.category = 1 ∧ w.category = 1 then some (pc + 1, ls, v :: w :: v :: w :: r, h) else none
  | _ => none
def bq_cn (w : Nat) (v : Value) (pc : Nat) (ls : bw_L) (st : List Value) (h : bw_H) : Option bw_C := some (pc + w, ls, v :: st, h)
def bq_go (off : Int) (pc : Nat) (ls : bw_L) (st : List Value) (h : bw_H) : Option bw_C := match bw_jp pc off with
  | some q => some (q, ls, st, h)
  | none => none
def bq_if (d : Int32 → Bool) (off : Int) (pc : Nat) (ls : bw_L) (st : List Value) (h : bw_H) : Option bw_C := match st with
  | .int x :: r => match bw_jp pc off with
    | some q => some (if d x = true then q else pc + 3, ls, r, h)
    | none => none
  | _ => none
def bq_cp (d : Int32 → Int32 → Bool) (off : Int) (pc : Nat) (ls : bw_L) (st : List Value) (h : bw_H) : Option bw_C := match st with
  | .int y :: .int x :: r => match bw_jp pc off with
    | some q => some (if d x y = true then q else pc + 3, ls, r, h)
    | none => none
  | _ => none
def bq_nu (off : Int) (pc : Nat) (ls : bw_L) (st : List Value) (h : bw_H) : Option bw_C := match st with
  | .null :: r => match bw_jp pc off with
    | some q => some (q, ls, r, h)
    | none => none
  | .ref _ :: r => some (pc + 3, ls, r, h)
  | _ => none
def bq_nn (off : Int) (pc : Nat) (ls : bw_L) (st : List Value) (h : bw_H) : Option bw_C := match st with
  | .ref _ :: r => match bw_jp pc off with
    | some q => some (q, ls, r, h)
    | none => none
  | .null :: r => some (pc + 3, ls, r, h)
  | _ => none
def bq_ts (df lo hi : Int) (offs : Array Int) (pc : Nat) (ls : bw_L) (st : List Value) (h : bw_H) : Option bw_C := match st with
  | .int x :: r => if x.toInt < lo ∨ hi < x.toInt then (match bw_jp pc df with
      | some q => some (q, ls, r, h)
      | none => none)
    else match offs[(x.toInt - lo).toNat]? with
      | some off => (match bw_jp pc off with
        | some q => some (q, ls, r, h)
        | none => none)
      | none => none
  | _ => none
-- the heap's
def bq_gf (f : Option (Nat × Nat)) (pc : Nat) (ls : bw_L) (st : List Value) (h : bw_H) : Option bw_C := match f, st with
  | some (c, k), .ref a :: r => if a < bw_n h ∧ bw_k h a = .inl c then some (pc + 3, ls, bw_fv h a c k :: r, h) else none
  | _, _ => none
def bq_pf (o : Nat) (ini : Bool) (f : Option (Nat × Nat)) (pc : Nat) (ls : bw_L) (st : List Value) (h : bw_H) : Option bw_C := match f, st with
  | some (c, k), v :: .ref a :: r => if a < bw_n h ∧ bw_k h a = .inl c ∧ k < bw_N c ∧ (bw_T c k).2.2.2 = false then (match bw_ty c k, v with
      | .int, .int x => some (pc + 3, ls, r, bw_si h a k x)
      | .long, .long x => some (pc + 3, ls, r, bw_sl h a k x)
      | _, _ => none)
    else if a < bw_n h ∧ bw_k h a = .inl c ∧ k < bw_N c ∧ (bw_T c k).2.2.2 = true ∧ ini = true ∧ c = o then (match bw_ty c k, v with
      | .int, .int x => some (pc + 3, ls, r, bw_si h a k x)
      | .object _, .ref x => some (pc + 3, ls, r, bw_sr h a k (some x))
      | .array _, .ref x => some (pc + 3, ls, r, bw_sr h a k (some x))
      | _, _ => none)
    else none
  | _, _ => none
def bq_gs (b : Bool) (pc : Nat) (ls : bw_L) (st : List Value) (h : bw_H) : Option bw_C := if b = true then some (pc + 3, ls, .retAddr 0 :: st, h) else none
def bw_set6 (j : Nat) : Int64 := match j with
  | 0 => 0xAAAAAAAAAAAAAAAA
  | 1 => 0xCCCCCCCCCCCCCCCC
  | 2 => 0xF0F0F0F0F0F0F0F0
  | 3 => 0xFF00FF00FF00FF00
  | 4 => 0xFFFF0000FFFF0000
  | _ => 0xFFFFFFFF00000000
def bq_la (pc : Nat) (ls : bw_L) (st : List Value) (h : bw_H) : Option bw_C := match st with
  | .int i :: .retAddr 0 :: r => if 0 ≤ i.toInt ∧ i.toInt < 6 then some (pc + 1, ls, .long (bw_set6 i.toNatClampNeg) :: r, h) else none
  | _ => none
def bq_ia (X : Nat × (Nat → Int32)) (pc : Nat) (ls : bw_L) (st : List Value) (h : bw_H) : Option bw_C := match st with
  | .int i :: .retAddr 1 :: r => if 0 ≤ i.toInt ∧ i.toInt < X.1 then some (pc + 1, ls, .int (X.2 i.toNatClampNeg) :: r, h) else none
  | .int i :: .ref a :: r => (match bw_k h a with
    | .inr (ty, N) => if a < bw_n h ∧ ty = .int ∧ 0 ≤ i.toInt ∧ i.toInt < N then some (pc + 1, ls, .int (bw_i h a i.toNatClampNeg) :: r, h) else none
    | _ => none)
  | _ => none
def bq_ba (pc : Nat) (ls : bw_L) (st : List Value) (h : bw_H) : Option bw_C := match st with
  | .int i :: .ref a :: r => (match bw_k h a with
    | .inr (ty, N) => if a < bw_n h ∧ ty = .boolean ∧ 0 ≤ i.toInt ∧ i.toInt < N then some (pc + 1, ls, .int (bw_i h a i.toNatClampNeg) :: r, h) else none
    | _ => none)
  | _ => none
def bq_aa (pc : Nat) (ls : bw_L) (st : List Value) (h : bw_H) : Option bw_C := match st with
  | .int i :: .ref a :: r => (match bw_k h a with
    | .inr (ty, N) => if a < bw_n h ∧ ty = .object RX1 ∧ 0 ≤ i.toInt ∧ i.toInt < N then some (pc + 1, ls, bw_rf (bw_r h a i.toNatClampNeg) :: r, h) else none
    | _ => none)
  | _ => none
def bq_ist (pc : Nat) (ls : bw_L) (st : List Value) (h : bw_H) : Option bw_C := match st with
  | .int x :: .int i :: .ref a :: r => (match bw_k h a with
    | .inr (ty, N) => if a < bw_n h ∧ ty = .int ∧ 0 ≤ i.toInt ∧ i.toInt < N then some (pc + 1, ls, r, bw_si h a i.toNatClampNeg x) else none
    | _ => none)
  | _ => none
def bq_bst (pc : Nat) (ls : bw_L) (st : List Value) (h : bw_H) : Option bw_C := match st with
  | .int x :: .int i :: .ref a :: r => (match bw_k h a with
    | .inr (ty, N) => if a < bw_n h ∧ ty = .boolean ∧ 0 ≤ i.toInt ∧ i.toInt < N then some (pc + 1, ls, r, bw_si h a i.toNatClampNeg (vp_nar .boolean x)) else none
    | _ => none)
  | _ => none
def bq_ast (pc : Nat) (ls : bw_L) (st : List Value) (h : bw_H) : Option bw_C := match st with
  | .ref x :: .int i :: .ref a :: r => (match bw_k h a with
    | .inr (ty, N) => if a < bw_n h ∧ ty = .object RX1 ∧ x < bw_n h ∧ bw_k h x = .inl 1 ∧ 0 ≤ i.toInt ∧ i.toInt < N then some (pc + 1, ls, r, bw_sr h a i.toNatClampNeg (some x)) else none
    | _ => none)
  | _ => none
def bq_len (X : Nat × (Nat → Int32)) (pc : Nat) (ls : bw_L) (st : List Value) (h : bw_H) : Option bw_C := match st with
  | .retAddr 0 :: r => some (pc + 1, ls, .int 6 :: r, h)
  | .retAddr 1 :: r => some (pc + 1, ls, .int (Int32.ofNat X.1) :: r, h)
  | .ref a :: r => (match bw_k h a with
    | .inr (ty, N) => if a < bw_n h ∧ (ty = .int ∨ ty = .boolean ∨ ty = .object RX1) then some (pc + 1, ls, .int (Int32.ofNat N) :: r, h) else none
    | _ => none)
  | _ => none
def bq_new (c : Option Nat) (pc : Nat) (ls : bw_L) (st : List Value) (h : bw_H) : Option bw_C := match c with
  | some c => if c < 9 then some (pc + 3, ls, .ref (bw_n h) :: st, bw_nw h (.inl c) (bw_N c)) else none
  | none => none
def bq_na (t : ArrayType) (pc : Nat) (ls : bw_L) (st : List Value) (h : bw_H) : Option bw_C := match t, st with
  | .int, .int n :: r => if 0 ≤ n.toInt ∧ n.toInt < 100000 then some (pc + 2, ls, .ref (bw_n h) :: r, bw_nw h (.inr (.int, n.toNatClampNeg)) n.toNatClampNeg) else none
  | .boolean, .int n :: r => if 0 ≤ n.toInt ∧ n.toInt < 100000 then some (pc + 2, ls, .ref (bw_n h) :: r, bw_nw h (.inr (.boolean, n.toNatClampNeg)) n.toNatClampNeg) else none
  | _, _ => none
def bq_an (b : Bool) (pc : Nat) (ls : bw_L) (st : List Value) (h : bw_H) : Option bw_C := match st with
  | .int n :: r => if b = true ∧ 0 ≤ n.toInt ∧ n.toInt < 100000 then some (pc + 3, ls, .ref (bw_n h) :: r, bw_nw h (.inr (.object RX1, n.toNatClampNeg)) n.toNatClampNeg) else none
  | _ => none
def bq_oi (b : Bool) (pc : Nat) (ls : bw_L) (st : List Value) (h : bw_H) : Option bw_C := match st with
  | .ref _ :: r => if b = true ∧ (r.map fun v => v.category).sum ≤ 8 then some (pc + 3, ls, r, h) else none
  | _ => none
def bq_ac (b : Bool) (pc : Nat) (ls : bw_L) (st : List Value) (h : bw_H) : Option bw_C := match st with
  | .int n :: .int dp :: .ref a :: .int sp :: .ref a0 :: r => (match bw_k h a0, bw_k h a with
    | .inr (t0, n0), .inr (t1, n1) => if b = true ∧ (r.map fun v => v.category).sum ≤ 8 ∧ a0 < bw_n h ∧ a < bw_n h ∧ t0 = .int ∧ t1 = .int ∧ 0 ≤ sp.toInt ∧ 0 ≤ dp.toInt ∧ 0 ≤ n.toInt ∧ sp.toInt + n.toInt ≤ n0 ∧ dp.toInt + n.toInt ≤ n1
        then some (pc + 3, ls, r, bw_sa h a (va_cpy (bw_i h a0) (bw_i h a) sp.toNatClampNeg dp.toNatClampNeg n.toNatClampNeg)) else none
    | _, _ => none)
  | _ => none
def bq_mx (b : Bool) (pc : Nat) (ls : bw_L) (st : List Value) (h : bw_H) : Option bw_C := match st with
  | .int y :: .int x :: r => if (r.map fun v => v.category).sum ≤ 8 then some (pc + 3, ls, .int (if b = true then (if x < y then y else x) else (if y < x then y else x)) :: r, h) else none
  | _ => none
end
section
/-! what the constant pools link: by class number and index; with the words' places -/
abbrev bw_M : Type := Nat × MethodName × ByteArray × Nat × Option FieldType × Nat
def bm_X4_init : bw_M := (4, yX4_init, cX4_init, 4, none, 2)
def bm_X1_init : bw_M := (1, yX1_init, cX1_init, 1, none, 0)
def bm_X3_init : bw_M := (3, yX3_init, cX3_init, 1, none, 0)
def bm_X2_init : bw_M := (2, yX2_init, cX2_init, 1, none, 0)
def bm_X5_init : bw_M := (5, yX5_init, cX5_init, 1, none, 0)
def bm_X6_init : bw_M := (6, yX6_init, cX6_init, 1, none, 0)
def bm_X0_init : bw_M := (0, yX0_init, cX0_init, 2, none, 1)
def bm_X7_missingPlace : bw_M := (7, yX7_missingPlace, cX7_missingPlace, 3, (some .int), 3)
def bm_X7_isOfKind : bw_M := (7, yX7_isOfKind, cX7_isOfKind, 2, (some .boolean), 2)
def bm_X7_isThing : bw_M := (7, yX7_isThing, cX7_isThing, 1, (some .boolean), 1)
def bm_J6_bitCount_0f7a4 : bw_M := (10, yJ6_bitCount_0f7a4, cJ6_bitCount_0f7a4, 1, (some .int), 1)
def bm_X7_isIn : bw_M := (7, yX7_isIn, cX7_isIn, 2, (some .boolean), 2)
def bm_X7_isFewer : bw_M := (7, yX7_isFewer, cX7_isFewer, 2, (some .boolean), 2)
def bm_X7_leastOf : bw_M := (7, yX7_leastOf, cX7_leastOf, 2, (some .int), 1)
def bm_J13_bitCount_95d88 : bw_M := (11, yJ13_bitCount_95d88, cJ13_bitCount_95d88, 2, (some .int), 1)
def bm_X2_setsWith : bw_M := (2, yX2_setsWith, cX2_setsWith, 1, (some .long), 1)
def bm_X7_isChance : bw_M := (7, yX7_isChance, cX7_isChance, 1, (some .boolean), 1)
def bm_X7_actOfLot : bw_M := (7, yX7_actOfLot, cX7_actOfLot, 1, (some .int), 1)
def bm_X7_commonDivisor : bw_M := (7, yX7_commonDivisor, cX7_commonDivisor, 7, (some .long), 2)
def bm_X4_isNumber : bw_M := (4, yX4_isNumber, cX4_isNumber, 2, (some .boolean), 1)
def bm_X7_found : bw_M := (7, yX7_found, cX7_found, 2, (some .int), 1)
def bm_X4_make : bw_M := (4, yX4_make, cX4_make, 5, none, 3)
def bm_X4_get : bw_M := (4, yX4_get, cX4_get, 3, (some .int), 2)
def bm_X4_set : bw_M := (4, yX4_set, cX4_set, 4, none, 3)
def bm_X4_has : bw_M := (4, yX4_has, cX4_has, 2, (some .boolean), 1)
def bm_X4_drop : bw_M := (4, yX4_drop, cX4_drop, 2, none, 1)
def bm_X4_hasSpan : bw_M := (4, yX4_hasSpan, cX4_hasSpan, 4, (some .boolean), 3)
def bm_X4_move : bw_M := (4, yX4_move, cX4_move, 6, none, 5)
def bm_X4_sizeOf : bw_M := (4, yX4_sizeOf, cX4_sizeOf, 2, (some .int), 1)
def bm_X4_sumOf : bw_M := (4, yX4_sumOf, cX4_sumOf, 5, (some .long), 1)
def bm_X3_readInto : bw_M := (3, yX3_readInto, cX3_readInto, 5, (some .int), 3)
def bm_X1_take : bw_M := (1, yX1_take, cX1_take, 2, none, 1)
def bm_X7_forgetKept : bw_M := (7, yX7_forgetKept, cX7_forgetKept, 3, none, 1)
def bm_X1_hasBear : bw_M := (1, yX1_hasBear, cX1_hasBear, 2, (some .boolean), 1)
def bm_X7_ofBear : bw_M := (7, yX7_ofBear, cX7_ofBear, 3, (some .int), 2)
def bm_X0_get : bw_M := (0, yX0_get, cX0_get, 2, (some .int), 1)
def bm_X1_markOf : bw_M := (1, yX1_markOf, cX1_markOf, 4, (some .int), 2)
def bm_X7_answerDeed : bw_M := (7, yX7_answerDeed, cX7_answerDeed, 3, (some .int), 2)
def bm_X1_takeBackTo : bw_M := (1, yX1_takeBackTo, cX1_takeBackTo, 3, none, 1)
def bm_X7_keptIn : bw_M := (7, yX7_keptIn, cX7_keptIn, 3, (some (.object "BearWitness$Court")), 1)
def bm_X1_answerOf : bw_M := (1, yX1_answerOf, cX1_answerOf, 3, (some .int), 2)
def bm_X1_isSet : bw_M := (1, yX1_isSet, cX1_isSet, 2, (some .boolean), 1)
def bm_X5_hear : bw_M := (5, yX5_hear, cX5_hear, 7, none, 1)
def bm_X5_tiedBy : bw_M := (5, yX5_tiedBy, cX5_tiedBy, 4, (some .int), 1)
def bm_X5_shownBy : bw_M := (5, yX5_shownBy, cX5_shownBy, 4, (some .int), 1)
def bm_X1_allBears : bw_M := (1, yX1_allBears, cX1_allBears, 1, (some .int), 0)
def bm_X6_open : bw_M := (6, yX6_open, cX6_open, 6, none, 3)
def bm_X6_fewestPresses : bw_M := (6, yX6_fewestPresses, cX6_fewestPresses, 2, (some .int), 0)
def bm_X5_toldBy : bw_M := (5, yX5_toldBy, cX5_toldBy, 4, (some .int), 1)
def bm_X5_clash : bw_M := (5, yX5_clash, cX5_clash, 3, (some .int), 2)
def bm_X5_hasRivals : bw_M := (5, yX5_hasRivals, cX5_hasRivals, 5, (some .boolean), 1)
def bm_X7_readLooks : bw_M := (7, yX7_readLooks, cX7_readLooks, 3, (some .int), 1)
def bm_X2_fittingSets : bw_M := (2, yX2_fittingSets, cX2_fittingSets, 8, (some .long), 1)
def bm_X7_tellPart : bw_M := (7, yX7_tellPart, cX7_tellPart, 7, none, 2)
def bm_X7_greatestPart : bw_M := (7, yX7_greatestPart, cX7_greatestPart, 8, (some .int), 3)
def bm_X2_fitKind : bw_M := (2, yX2_fitKind, cX2_fitKind, 5, (some .boolean), 3)
def bm_X2_whoSpoke : bw_M := (2, yX2_whoSpoke, cX2_whoSpoke, 3, (some .int), 0)
def bm_X2_whoKeptBack : bw_M := (2, yX2_whoKeptBack, cX2_whoKeptBack, 6, (some .int), 1)
def bm_X6_playOut : bw_M := (6, yX6_playOut, cX6_playOut, 7, (some .int), 1)
def bm_X7_weightOf : bw_M := (7, yX7_weightOf, cX7_weightOf, 6, (some .long), 2)
def bm_X7_allWeight : bw_M := (7, yX7_allWeight, cX7_allWeight, 4, (some .long), 0)
def bm_X1_canBe : bw_M := (1, yX1_canBe, cX1_canBe, 3, (some .boolean), 2)
def bm_X1_commit : bw_M := (1, yX1_commit, cX1_commit, 3, none, 2)
def bm_X7_shownByAll : bw_M := (7, yX7_shownByAll, cX7_shownByAll, 1, (some .int), 0)
def bm_X0_sum : bw_M := (0, yX0_sum, cX0_sum, 4, (some .int), 1)
def bm_X1_thoseOfKind : bw_M := (1, yX1_thoseOfKind, cX1_thoseOfKind, 4, (some .int), 1)
def bm_X4_thoseThere : bw_M := (4, yX4_thoseThere, cX4_thoseThere, 3, (some .int), 0)
def bm_X7_keptCourts : bw_M := (7, yX7_keptCourts, cX7_keptCourts, 3, (some .int), 0)
def bm_X7_count : bw_M := (7, yX7_count, cX7_count, 2, (some .int), 1)
def bm_X4_digestFrom : bw_M := (4, yX4_digestFrom, cX4_digestFrom, 5, (some .long), 1)
def bm_X0_set : bw_M := (0, yX0_set, cX0_set, 3, none, 2)
def bm_X4_hasPlace : bw_M := (4, yX4_hasPlace, cX4_hasPlace, 3, (some .boolean), 2)
def bm_X1_toldOf : bw_M := (1, yX1_toldOf, cX1_toldOf, 4, (some .int), 3)
def bm_X1_clear : bw_M := (1, yX1_clear, cX1_clear, 1, none, 0)
def bm_X2_readFrom : bw_M := (2, yX2_readFrom, cX2_readFrom, 8, (some .int), 3)
def bm_X1_answerIf : bw_M := (1, yX1_answerIf, cX1_answerIf, 7, (some .int), 4)
def bm_X1_onesOf : bw_M := (1, yX1_onesOf, cX1_onesOf, 4, (some .int), 4)
def bm_X0_take : bw_M := (0, yX0_take, cX0_take, 3, none, 1)
def bm_X1_change : bw_M := (1, yX1_change, cX1_change, 4, none, 3)
def bm_X1_seenBy : bw_M := (1, yX1_seenBy, cX1_seenBy, 5, (some .int), 3)
def bm_X2_fits : bw_M := (2, yX2_fits, cX2_fits, 5, (some .boolean), 4)
def bm_X3_kindOfLetter : bw_M := (3, yX3_kindOfLetter, cX3_kindOfLetter, 1, (some .int), 1)
def bm_X3_skipBlanks : bw_M := (3, yX3_skipBlanks, cX3_skipBlanks, 3, none, 2)
def bm_X3_byteHere : bw_M := (3, yX3_byteHere, cX3_byteHere, 3, (some .int), 2)
def bm_X3_twoFigures : bw_M := (3, yX3_twoFigures, cX3_twoFigures, 6, (some .int), 2)
def bm_X3_readBear : bw_M := (3, yX3_readBear, cX3_readBear, 8, none, 3)
def bm_X3_fail : bw_M := (3, yX3_fail, cX3_fail, 2, none, 1)
def bm_X3_oneFigure : bw_M := (3, yX3_oneFigure, cX3_oneFigure, 5, (some .int), 3)
def bm_X1_seat : bw_M := (1, yX1_seat, cX1_seat, 5, none, 4)
def bm_X0_move : bw_M := (0, yX0_move, cX0_move, 4, none, 3)
def bm_X5_balance : bw_M := (5, yX5_balance, cX5_balance, 5, (some .int), 2)
def bm_X6_worthIf : bw_M := (6, yX6_worthIf, cX6_worthIf, 6, (some .int), 4)
def bm_X6_worthNow : bw_M := (6, yX6_worthNow, cX6_worthNow, 2, (some .int), 1)
def bm_X6_pressOn : bw_M := (6, yX6_pressOn, cX6_pressOn, 6, (some .boolean), 3)
def bm_X6_canWear : bw_M := (6, yX6_canWear, cX6_canWear, 4, (some .boolean), 2)
def bm_X6_wearBy : bw_M := (6, yX6_wearBy, cX6_wearBy, 3, none, 2)
def bm_X7_init : bw_M := (7, yX7_init, cX7_init, 1, none, 0)
def bm_X8_init : bw_M := (8, yX8_init, cX8_init, 2, none, 0)
def bm_X7_row : bw_M := (7, yX7_row, cX7_row, 3, (some .int), 2)
def bm_X8_row : bw_M := (8, yX8_row, cX8_row, 4, (some .int), 2)
def bm_X7_lay : bw_M := (7, yX7_lay, cX7_lay, 5, (some .int), 3)
def bm_X8_lay : bw_M := (8, yX8_lay, cX8_lay, 5, (some .int), 3)
def bm_X7_at : bw_M := (7, yX7_at, cX7_at, 4, (some .int), 2)
def bm_X8_at : bw_M := (8, yX8_at, cX8_at, 3, (some .int), 2)
def bm_X7_tear : bw_M := (7, yX7_tear, cX7_tear, 2, (some .int), 1)
def bm_X8_tear : bw_M := (8, yX8_tear, cX8_tear, 2, (some .int), 1)
def bm_X7_copy : bw_M := (7, yX7_copy, cX7_copy, 6, (some .int), 5)
def bm_X8_copy : bw_M := (8, yX8_copy, cX8_copy, 7, (some .int), 5)
def bm_X7_mean : bw_M := (7, yX7_mean, cX7_mean, 3, (some .int), 1)
def bm_X8_mean : bw_M := (8, yX8_mean, cX8_mean, 5, (some .int), 1)
def bm_X7_text : bw_M := (7, yX7_text, cX7_text, 3, (some .int), 2)
def bm_X8_text : bw_M := (8, yX8_text, cX8_text, 4, (some .int), 2)
def bm_X7_put : bw_M := (7, yX7_put, cX7_put, 6, (some .int), 3)
def bm_X8_put : bw_M := (8, yX8_put, cX8_put, 6, (some .int), 3)
def bm_X7_fault : bw_M := (7, yX7_fault, cX7_fault, 2, (some .int), 1)
def bm_X8_fault : bw_M := (8, yX8_fault, cX8_fault, 2, (some .int), 1)
def bm_X7_court : bw_M := (7, yX7_court, cX7_court, 3, (some .int), 1)
def bm_X8_court : bw_M := (8, yX8_court, cX8_court, 3, (some .int), 1)
def bm_X7_bear : bw_M := (7, yX7_bear, cX7_bear, 3, (some .int), 2)
def bm_X8_bear : bw_M := (8, yX8_bear, cX8_bear, 3, (some .int), 2)
def bm_X7_mark : bw_M := (7, yX7_mark, cX7_mark, 3, (some .int), 2)
def bm_X8_mark : bw_M := (8, yX8_mark, cX8_mark, 4, (some .int), 2)
def bm_X7_press : bw_M := (7, yX7_press, cX7_press, 2, (some .int), 1)
def bm_X8_press : bw_M := (8, yX8_press, cX8_press, 3, (some .int), 1)
def bm_X7_mend : bw_M := (7, yX7_mend, cX7_mend, 2, (some .int), 1)
def bm_X8_mend : bw_M := (8, yX8_mend, cX8_mend, 3, (some .int), 1)
def bm_X7_eye : bw_M := (7, yX7_eye, cX7_eye, 2, (some .int), 1)
def bm_X8_eye : bw_M := (8, yX8_eye, cX8_eye, 3, (some .int), 1)
def bm_X7_turn : bw_M := (7, yX7_turn, cX7_turn, 2, (some .int), 1)
def bm_X8_turn : bw_M := (8, yX8_turn, cX8_turn, 3, (some .int), 1)
def bm_X7_undo : bw_M := (7, yX7_undo, cX7_undo, 3, (some .int), 1)
def bm_X8_undo : bw_M := (8, yX8_undo, cX8_undo, 4, (some .int), 1)
def bm_X7_keep : bw_M := (7, yX7_keep, cX7_keep, 3, (some .int), 1)
def bm_X8_keep : bw_M := (8, yX8_keep, cX8_keep, 3, (some .int), 1)
def bm_X7_on : bw_M := (7, yX7_on, cX7_on, 3, (some .int), 1)
def bm_X8_on : bw_M := (8, yX8_on, cX8_on, 3, (some .int), 1)
def bm_X7_tells : bw_M := (7, yX7_tells, cX7_tells, 3, (some .int), 2)
def bm_X8_tells : bw_M := (8, yX8_tells, cX8_tells, 3, (some .int), 2)
def bm_X7_shown : bw_M := (7, yX7_shown, cX7_shown, 2, (some .int), 1)
def bm_X8_shown : bw_M := (8, yX8_shown, cX8_shown, 6, (some .int), 1)
def bm_X7_call : bw_M := (7, yX7_call, cX7_call, 7, (some .int), 1)
def bm_X8_call : bw_M := (8, yX8_call, cX8_call, 6, (some .int), 1)
def bm_X7_shake : bw_M := (7, yX7_shake, cX7_shake, 6, (some .int), 3)
def bm_X8_shake : bw_M := (8, yX8_shake, cX8_shake, 8, (some .int), 3)
def bm_X7_cover : bw_M := (7, yX7_cover, cX7_cover, 5, (some .int), 1)
def bm_X8_cover : bw_M := (8, yX8_cover, cX8_cover, 6, (some .int), 1)
def bm_X7_rivals : bw_M := (7, yX7_rivals, cX7_rivals, 3, (some .int), 2)
def bm_X8_rivals : bw_M := (8, yX8_rivals, cX8_rivals, 3, (some .int), 2)
def bm_X7_apart : bw_M := (7, yX7_apart, cX7_apart, 4, (some .int), 0)
def bm_X8_apart : bw_M := (8, yX8_apart, cX8_apart, 6, (some .int), 0)
def bm_X7_truths : bw_M := (7, yX7_truths, cX7_truths, 5, (some .int), 1)
def bm_X8_truths : bw_M := (8, yX8_truths, cX8_truths, 6, (some .int), 1)
def bm_X7_sure : bw_M := (7, yX7_sure, cX7_sure, 8, (some .int), 1)
def bm_X8_sure : bw_M := (8, yX8_sure, cX8_sure, 6, (some .int), 1)
def bm_X7_next : bw_M := (7, yX7_next, cX7_next, 10, (some .int), 1)
def bm_X8_next : bw_M := (8, yX8_next, cX8_next, 8, (some .int), 1)
def bm_X7_kinds : bw_M := (7, yX7_kinds, cX7_kinds, 6, (some .int), 2)
def bm_X8_kinds : bw_M := (8, yX8_kinds, cX8_kinds, 10, (some .int), 2)
def bm_X7_walls : bw_M := (7, yX7_walls, cX7_walls, 4, (some .int), 1)
def bm_X8_walls : bw_M := (8, yX8_walls, cX8_walls, 7, (some .int), 1)
def bm_X7_duel : bw_M := (7, yX7_duel, cX7_duel, 3, (some .int), 2)
def bm_X8_duel : bw_M := (8, yX8_duel, cX8_duel, 8, (some .int), 2)
def bm_X7_odds : bw_M := (7, yX7_odds, cX7_odds, 6, (some .int), 2)
def bm_X8_odds : bw_M := (8, yX8_odds, cX8_odds, 3, (some .int), 2)
def bm_X7_mid : bw_M := (7, yX7_mid, cX7_mid, 5, (some .int), 1)
def bm_X8_mid : bw_M := (8, yX8_mid, cX8_mid, 2, (some .int), 1)
def bm_X7_lots : bw_M := (7, yX7_lots, cX7_lots, 9, (some .int), 2)
def bm_X8_lots : bw_M := (8, yX8_lots, cX8_lots, 8, (some .int), 2)
def bm_X7_asked : bw_M := (7, yX7_asked, cX7_asked, 1, (some .int), 0)
def bm_X8_asked : bw_M := (8, yX8_asked, cX8_asked, 1, (some .int), 0)
def bm_X7_upper : bw_M := (7, yX7_upper, cX7_upper, 1, (some .long), 0)
def bm_X8_upper : bw_M := (8, yX8_upper, cX8_upper, 1, (some .long), 0)
def bm_X7_lower : bw_M := (7, yX7_lower, cX7_lower, 1, (some .long), 0)
def bm_X8_lower : bw_M := (8, yX8_lower, cX8_lower, 1, (some .long), 0)
def bm_X8_count : bw_M := (8, yX8_count, cX8_count, 2, (some .int), 1)
def bm_X7_finding : bw_M := (7, yX7_finding, cX7_finding, 1, (some .int), 0)
def bm_X8_finding : bw_M := (8, yX8_finding, cX8_finding, 1, (some .int), 0)
def bm_X7_findings : bw_M := (7, yX7_findings, cX7_findings, 2, (some .int), 1)
def bm_X8_findings : bw_M := (8, yX8_findings, cX8_findings, 2, (some .int), 1)
def bm_X7_digest : bw_M := (7, yX7_digest, cX7_digest, 5, (some .long), 0)
def bm_X8_digest : bw_M := (8, yX8_digest, cX8_digest, 5, (some .long), 0)
def bm_X8_in : bw_M := (8, yX8_in, cX8_in, 6, (some .boolean), 3)
def bm_X8_isRow : bw_M := (8, yX8_isRow, cX8_isRow, 1, (some .boolean), 1)
def bm_X8_isText : bw_M := (8, yX8_isText, cX8_isText, 1, (some .boolean), 1)
def bm_X8_kindBy : bw_M := (8, yX8_kindBy, cX8_kindBy, 1, (some .int), 1)
def bm_X8_begin : bw_M := (8, yX8_begin, cX8_begin, 2, none, 1)
def bm_X8_has : bw_M := (8, yX8_has, cX8_has, 2, (some .boolean), 2)
def bm_X8_seesAs : bw_M := (8, yX8_seesAs, cX8_seesAs, 7, (some .boolean), 5)
def bm_X8_tellsAs : bw_M := (8, yX8_tellsAs, cX8_tellsAs, 7, (some .int), 6)
def bm_X8_isOf : bw_M := (8, yX8_isOf, cX8_isOf, 2, (some .boolean), 2)
def bm_X8_bits : bw_M := (8, yX8_bits, cX8_bits, 3, (some .int), 1)
def bm_X8_goDeed : bw_M := (8, yX8_goDeed, cX8_goDeed, 3, none, 2)
def bm_X8_may : bw_M := (8, yX8_may, cX8_may, 3, (some .boolean), 2)
def bm_X8_isShelf : bw_M := (8, yX8_isShelf, cX8_isShelf, 1, (some .boolean), 1)
def bm_X8_isThing : bw_M := (8, yX8_isThing, cX8_isThing, 1, (some .boolean), 1)
def bm_X8_pairOf : bw_M := (8, yX8_pairOf, cX8_pairOf, 1, (some .int), 1)
def bm_X8_startOf : bw_M := (8, yX8_startOf, cX8_startOf, 1, (some .int), 1)
def bm_X8_manyThere : bw_M := (8, yX8_manyThere, cX8_manyThere, 4, (some .int), 2)
def bm_X8_finds : bw_M := (8, yX8_finds, cX8_finds, 2, (some .int), 1)
def bm_X8_asks : bw_M := (8, yX8_asks, cX8_asks, 2, (some .int), 1)
def bm_X8_here : bw_M := (8, yX8_here, cX8_here, 2, (some .int), 1)
def bm_X8_takes : bw_M := (8, yX8_takes, cX8_takes, 5, (some .boolean), 3)
def bm_X8_skip : bw_M := (8, yX8_skip, cX8_skip, 2, none, 1)
def bm_X8_takesSet : bw_M := (8, yX8_takesSet, cX8_takesSet, 5, (some .boolean), 2)
def bm_X8_takesFirst : bw_M := (8, yX8_takesFirst, cX8_takesFirst, 2, (some .boolean), 1)
def bm_X8_takesBear : bw_M := (8, yX8_takesBear, cX8_takesBear, 4, (some .boolean), 1)
def bm_X8_faultOf : bw_M := (8, yX8_faultOf, cX8_faultOf, 3, (some .int), 1)
def bm_X8_sayOf : bw_M := (8, yX8_sayOf, cX8_sayOf, 5, (some .int), 4)
def bm_X8_tellOf : bw_M := (8, yX8_tellOf, cX8_tellOf, 5, (some .int), 4)
def bm_X8_tellNow : bw_M := (8, yX8_tellNow, cX8_tellNow, 3, (some .int), 2)
def bm_X8_balance : bw_M := (8, yX8_balance, cX8_balance, 7, (some .int), 3)
def bm_X8_toldThings : bw_M := (8, yX8_toldThings, cX8_toldThings, 4, (some .int), 1)
def bm_X8_isBear : bw_M := (8, yX8_isBear, cX8_isBear, 2, (some .boolean), 1)
def bm_X8_toldOf : bw_M := (8, yX8_toldOf, cX8_toldOf, 3, (some .int), 2)
def bm_X8_seesBeyond : bw_M := (8, yX8_seesBeyond, cX8_seesBeyond, 5, (some .int), 2)
def bm_X8_does : bw_M := (8, yX8_does, cX8_does, 2, none, 1)
def bm_X8_doesTo : bw_M := (8, yX8_doesTo, cX8_doesTo, 3, (some .int), 2)
def bm_X8_allBears : bw_M := (8, yX8_allBears, cX8_allBears, 1, (some .int), 0)
def bm_X8_shownBy : bw_M := (8, yX8_shownBy, cX8_shownBy, 4, (some .int), 1)
def bm_X8_layHand : bw_M := (8, yX8_layHand, cX8_layHand, 2, none, 0)
def bm_X8_goes : bw_M := (8, yX8_goes, cX8_goes, 8, (some .boolean), 4)
def bm_X8_rivalThings : bw_M := (8, yX8_rivalThings, cX8_rivalThings, 7, (some .int), 2)
def bm_X8_refusesPairs : bw_M := (8, yX8_refusesPairs, cX8_refusesPairs, 4, (some .int), 1)
def bm_X8_refusesLooks : bw_M := (8, yX8_refusesLooks, cX8_refusesLooks, 2, (some .int), 1)
def bm_X8_isTruth : bw_M := (8, yX8_isTruth, cX8_isTruth, 6, (some .boolean), 2)
def bm_X8_goChoices : bw_M := (8, yX8_goChoices, cX8_goChoices, 6, (some .int), 2)
def bm_X8_weigh : bw_M := (8, yX8_weigh, cX8_weigh, 4, none, 2)
def bm_X8_fraction : bw_M := (8, yX8_fraction, cX8_fraction, 11, none, 2)
def bm_X8_goOdds : bw_M := (8, yX8_goOdds, cX8_goOdds, 11, none, 2)
def bm_X8_sumOf : bw_M := (8, yX8_sumOf, cX8_sumOf, 4, (some .int), 1)
def bm_X8_manyOf : bw_M := (8, yX8_manyOf, cX8_manyOf, 4, (some .int), 1)
def bm_X8_counted : bw_M := (8, yX8_counted, cX8_counted, 2, (some .int), 1)
def bw_FT : List (Nat × Nat × Nat × Nat × Bool × Nat) := [(0, 7, 0, 0, false, 141), (1, 9, 1, 0, false, 171), (1, 15, 1, 1, false, 176), (1, 18, 1, 2, false, 182), (1, 21, 1, 3, false, 184), (1, 29, 1, 4, false, 186), (1, 33, 1, 5, false, 191), (1, 36, 1, 6, false, 193), (1, 39, 1, 7, false, 198), (1, 42, 1, 8, false, 200), (1, 45, 1, 9, false, 201), (2, 9, 2, 0, false, 248), (2, 20, 2, 1, false, 249), (2, 24, 2, 2, false, 250), (2, 27, 2, 3, false, 251), (2, 62, 1, 4, true, 189), (2, 73, 1, 1, true, 180), (2, 76, 1, 6, true, 196), (3, 9, 3, 0, false, 230), (3, 15, 3, 1, false, 231), (3, 18, 3, 2, false, 232), (3, 43, 1, 1, true, 178), (3, 50, 1, 0, true, 174), (4, 7, 4, 0, false, 150), (4, 13, 4, 1, false, 151), (4, 21, 4, 2, false, 152), (4, 25, 4, 3, false, 153), (5, 9, 5, 0, false, 269), (5, 20, 5, 1, false, 270), (5, 24, 5, 2, false, 271), (5, 27, 1, 0, true, 172), (5, 30, 1, 4, true, 187), (5, 37, 1, 6, true, 194), (5, 44, 1, 1, true, 177), (6, 9, 6, 0, false, 287), (6, 15, 6, 1, false, 288), (6, 18, 6, 2, false, 289), (6, 26, 6, 3, false, 290), (6, 30, 6, 4, false, 291), (6, 33, 6, 5, false, 292), (6, 36, 1, 0, true, 173), (6, 39, 1, 6, true, 195), (6, 59, 1, 4, true, 188), (6, 66, 1, 1, true, 179), (7, 14, 7, 0, false, 309), (7, 18, 7, 1, false, 310), (7, 24, 7, 2, false, 311), (7, 28, 7, 3, false, 312), (7, 31, 7, 4, false, 313), (7, 38, 7, 5, false, 314), (7, 45, 7, 6, false, 315), (7, 52, 7, 7, false, 316), (7, 59, 7, 8, false, 317), (7, 68, 7, 9, false, 318), (7, 72, 7, 10, false, 319), (7, 76, 7, 11, false, 320), (7, 79, 7, 12, false, 321), (7, 83, 7, 13, false, 322), (7, 141, 1, 0, true, 175), (7, 150, 1, 4, true, 190), (7, 165, 1, 3, true, 185), (7, 212, 6, 5, true, 293), (7, 299, 1, 1, true, 181), (7, 302, 1, 2, true, 183), (7, 305, 1, 6, true, 197), (7, 311, 1, 5, true, 192), (7, 339, 1, 7, true, 199), (8, 7, 8, 0, false, 930), (8, 13, 8, 1, false, 931), (8, 16, 8, 2, false, 932), (8, 20, 8, 3, false, 933), (8, 23, 8, 4, false, 934), (8, 26, 8, 5, false, 935), (8, 29, 8, 6, false, 936), (8, 32, 8, 7, false, 937), (8, 35, 8, 11, false, 941), (8, 39, 8, 12, false, 942), (8, 42, 8, 13, false, 943), (8, 45, 8, 15, false, 945), (8, 48, 8, 16, false, 946), (8, 51, 8, 17, false, 947), (8, 54, 8, 18, false, 948), (8, 57, 8, 19, false, 949), (8, 60, 8, 8, false, 938), (8, 64, 8, 9, false, 939), (8, 93, 8, 14, false, 944), (8, 228, 8, 10, false, 940)]
def bw_fl (o ix : Nat) : Option (Nat × Nat) := (bw_FT.find? (fun e => e.1 == o && e.2.1 == ix)).map (fun e => (e.2.2.1, e.2.2.2.1))
def bw_MT : List (Nat × Nat × Nat × bw_M × Nat × Nat × Nat × Nat × Nat) := [(0, 13, 2, bm_X0_get, 511, 366, 3, 110, 367),
  (1, 26, 5, bm_X0_init, 170, 138, 0, 110, 139),
  (1, 48, 3, bm_X0_take, 507, 509, 25, 110, 510),
  (1, 52, 3, bm_X0_set, 498, 148, 0, 110, 149),
  (1, 56, 2, bm_X1_allBears, 642, 644, 41, 111, 645),
  (1, 60, 3, bm_X0_get, 545, 366, 3, 110, 367),
  (1, 64, 1, bm_X7_isOfKind, 546, 547, 0, 108, 548),
  (1, 68, 2, bm_X1_change, 583, 585, 36, 111, 586),
  (1, 72, 1, bm_X7_isIn, 540, 534, 0, 108, 535),
  (1, 75, 2, bm_X1_seenBy, 541, 543, 31, 111, 544),
  (1, 79, 2, bm_X1_toldOf, 630, 538, 30, 111, 539),
  (1, 82, 0, bm_X1_onesOf, 631, 632, 0, 111, 633),
  (1, 86, 2, bm_X1_answerIf, 626, 628, 39, 111, 629),
  (1, 89, 0, bm_J6_bitCount_0f7a4, 558, 559, 0, 118, 560),
  (2, 17, 5, bm_X0_init, 247, 138, 0, 110, 139),
  (2, 34, 3, bm_X4_has, 749, 383, 5, 109, 384),
  (2, 40, 3, bm_X4_sizeOf, 750, 387, 6, 109, 388),
  (2, 44, 3, bm_X4_get, 751, 396, 8, 109, 397),
  (2, 48, 3, bm_X0_set, 752, 148, 0, 110, 149),
  (2, 52, 3, bm_X0_get, 758, 366, 3, 110, 367),
  (2, 54, 3, bm_X1_answerIf, 768, 628, 39, 111, 629),
  (2, 65, 0, bm_X2_setsWith, 759, 760, 0, 113, 761),
  (2, 69, 2, bm_X2_fits, 764, 766, 58, 113, 767),
  (2, 79, 3, bm_X1_seenBy, 821, 543, 31, 111, 544),
  (2, 83, 1, bm_X7_isIn, 822, 534, 0, 108, 535),
  (3, 21, 3, bm_X4_sizeOf, 461, 387, 6, 109, 388),
  (3, 27, 3, bm_X1_clear, 462, 464, 16, 111, 465),
  (3, 32, 2, bm_X3_skipBlanks, 466, 468, 17, 112, 469),
  (3, 36, 2, bm_X3_byteHere, 471, 473, 18, 112, 474),
  (3, 40, 2, bm_X3_twoFigures, 475, 477, 19, 112, 478),
  (3, 46, 2, bm_X3_readBear, 487, 489, 22, 112, 490),
  (3, 53, 0, bm_X3_kindOfLetter, 491, 492, 0, 112, 493),
  (3, 56, 2, bm_X3_fail, 483, 485, 21, 112, 486),
  (3, 60, 2, bm_X3_oneFigure, 479, 481, 20, 112, 482),
  (3, 64, 3, bm_X1_seat, 494, 496, 23, 111, 497),
  (3, 68, 3, bm_X4_get, 470, 396, 8, 109, 397),
  (4, 18, 5, bm_X0_init, 137, 138, 0, 110, 139),
  (4, 28, 3, bm_X0_set, 146, 148, 0, 110, 149),
  (4, 32, 2, bm_X4_isNumber, 373, 358, 1, 109, 359),
  (4, 36, 3, bm_X0_get, 389, 366, 3, 110, 367),
  (4, 40, 2, bm_X4_sizeOf, 385, 387, 6, 109, 388),
  (4, 43, 2, bm_X4_hasPlace, 398, 392, 7, 109, 393),
  (4, 47, 2, bm_X4_hasSpan, 427, 421, 11, 109, 422),
  (4, 51, 3, bm_X0_move, 428, 430, 13, 110, 431),
  (4, 55, 2, bm_X4_get, 444, 396, 8, 109, 397),
  (4, 58, 2, bm_X4_has, 899, 383, 5, 109, 384),
  (5, 17, 5, bm_X0_init, 268, 138, 0, 110, 139),
  (5, 33, 3, bm_X0_get, 650, 366, 3, 110, 367),
  (5, 40, 3, bm_X1_toldOf, 651, 538, 30, 111, 539),
  (5, 47, 1, bm_X1_onesOf, 652, 632, 0, 111, 633),
  (5, 51, 3, bm_X0_set, 653, 148, 0, 110, 149),
  (5, 55, 1, bm_X7_isIn, 662, 534, 0, 108, 535),
  (5, 59, 2, bm_X5_balance, 658, 660, 44, 114, 661),
  (5, 63, 2, bm_X5_toldBy, 663, 665, 45, 114, 666),
  (6, 23, 5, bm_X0_init, 286, 138, 0, 110, 139),
  (6, 40, 3, bm_X0_get, 685, 366, 3, 110, 367),
  (6, 44, 3, bm_X0_set, 686, 148, 0, 110, 149),
  (6, 48, 1, bm_X7_isIn, 687, 534, 0, 108, 535),
  (6, 52, 0, bm_X6_worthIf, 688, 689, 0, 115, 690),
  (6, 56, 2, bm_X6_worthNow, 693, 695, 48, 115, 696),
  (6, 62, 3, bm_X1_toldOf, 691, 538, 30, 111, 539),
  (6, 69, 1, bm_X1_onesOf, 692, 632, 0, 111, 633),
  (6, 73, 2, bm_X6_pressOn, 701, 703, 50, 115, 704),
  (6, 77, 2, bm_X6_canWear, 705, 707, 51, 115, 708),
  (6, 80, 2, bm_X6_wearBy, 709, 711, 52, 115, 712),
  (6, 83, 2, bm_X6_playOut, 831, 829, 64, 115, 830),
  (7, 11, 5, bm_X4_init, 131, 132, 0, 109, 133),
  (7, 23, 5, bm_X1_init, 165, 166, 0, 111, 167),
  (7, 37, 5, bm_X3_init, 226, 227, 0, 112, 228),
  (7, 44, 5, bm_X2_init, 242, 243, 0, 113, 244),
  (7, 51, 5, bm_X5_init, 263, 264, 0, 114, 265),
  (7, 58, 5, bm_X6_init, 281, 282, 0, 115, 283),
  (7, 65, 5, bm_X0_init, 308, 138, 0, 110, 139),
  (7, 86, 3, bm_X4_isNumber, 356, 358, 1, 109, 359),
  (7, 90, 2, bm_X7_found, 360, 362, 2, 108, 363),
  (7, 94, 3, bm_X4_make, 369, 371, 4, 109, 372),
  (7, 98, 0, bm_X7_missingPlace, 378, 379, 0, 108, 380),
  (7, 102, 3, bm_X4_get, 394, 396, 8, 109, 397),
  (7, 106, 3, bm_X4_set, 399, 401, 9, 109, 402),
  (7, 109, 3, bm_X4_has, 381, 383, 5, 109, 384),
  (7, 112, 3, bm_X4_drop, 411, 413, 10, 109, 414),
  (7, 115, 3, bm_X4_hasSpan, 419, 421, 11, 109, 422),
  (7, 119, 3, bm_X4_move, 423, 425, 12, 109, 426),
  (7, 123, 3, bm_X4_sizeOf, 439, 387, 6, 109, 388),
  (7, 126, 3, bm_X4_sumOf, 440, 442, 14, 109, 443),
  (7, 130, 3, bm_X3_readInto, 457, 459, 15, 112, 460),
  (7, 134, 3, bm_X1_take, 503, 505, 24, 111, 506),
  (7, 138, 2, bm_X7_forgetKept, 512, 514, 26, 108, 515),
  (7, 144, 3, bm_X1_hasBear, 525, 527, 28, 111, 528),
  (7, 147, 2, bm_X7_ofBear, 529, 531, 29, 108, 532),
  (7, 153, 3, bm_X0_get, 364, 366, 3, 110, 367),
  (7, 155, 0, bm_X7_isOfKind, 553, 547, 0, 108, 548),
  (7, 159, 3, bm_X1_markOf, 554, 556, 32, 111, 557),
  (7, 162, 2, bm_X7_answerDeed, 571, 573, 33, 108, 574),
  (7, 168, 3, bm_X1_takeBackTo, 603, 605, 37, 111, 606),
  (7, 171, 2, bm_X7_keptIn, 516, 518, 27, 108, 519),
  (7, 175, 0, bm_X7_isThing, 619, 620, 0, 108, 621),
  (7, 178, 3, bm_X1_answerOf, 622, 624, 38, 111, 625),
  (7, 181, 3, bm_X1_isSet, 638, 640, 40, 111, 641),
  (7, 184, 3, bm_X5_hear, 646, 648, 42, 114, 649),
  (7, 187, 3, bm_X5_tiedBy, 654, 656, 43, 114, 657),
  (7, 190, 3, bm_X5_shownBy, 667, 669, 46, 114, 670),
  (7, 193, 3, bm_X1_allBears, 675, 644, 41, 111, 645),
  (7, 197, 0, bm_J6_bitCount_0f7a4, 676, 559, 0, 118, 560),
  (7, 202, 0, bm_X7_isIn, 533, 534, 0, 108, 535),
  (7, 205, 3, bm_X6_open, 681, 683, 47, 115, 684),
  (7, 209, 3, bm_X6_fewestPresses, 697, 699, 49, 115, 700),
  (7, 215, 3, bm_X5_toldBy, 717, 665, 45, 114, 666),
  (7, 218, 0, bm_X7_isFewer, 718, 719, 0, 108, 720),
  (7, 221, 3, bm_X5_clash, 725, 727, 53, 114, 728),
  (7, 224, 3, bm_X5_hasRivals, 733, 735, 54, 114, 736),
  (7, 227, 2, bm_X7_readLooks, 741, 743, 55, 108, 744),
  (7, 230, 3, bm_X2_fittingSets, 753, 755, 57, 113, 756),
  (7, 234, 0, bm_X7_leastOf, 769, 770, 0, 108, 771),
  (7, 238, 0, bm_J13_bitCount_95d88, 772, 773, 0, 120, 774),
  (7, 242, 2, bm_X7_tellPart, 778, 780, 59, 108, 781),
  (7, 246, 1, bm_X2_setsWith, 789, 760, 0, 113, 761),
  (7, 251, 2, bm_X7_greatestPart, 795, 797, 60, 108, 798),
  (7, 255, 3, bm_X2_fitKind, 805, 807, 61, 113, 808),
  (7, 259, 3, bm_X2_whoSpoke, 813, 815, 62, 113, 816),
  (7, 262, 3, bm_X2_whoKeptBack, 817, 819, 63, 113, 820),
  (7, 266, 3, bm_X6_playOut, 827, 829, 64, 115, 830),
  (7, 269, 0, bm_X7_isChance, 840, 841, 0, 108, 842),
  (7, 272, 2, bm_X7_weightOf, 843, 845, 65, 108, 846),
  (7, 276, 2, bm_X7_allWeight, 847, 849, 66, 108, 850),
  (7, 287, 0, bm_X7_actOfLot, 864, 865, 0, 108, 866),
  (7, 290, 3, bm_X1_canBe, 575, 577, 34, 111, 578),
  (7, 293, 3, bm_X1_commit, 579, 581, 35, 111, 582),
  (7, 296, 2, bm_X7_shownByAll, 867, 869, 67, 108, 870),
  (7, 308, 3, bm_X0_sum, 887, 889, 68, 110, 890),
  (7, 314, 3, bm_X1_thoseOfKind, 891, 893, 69, 111, 894),
  (7, 317, 3, bm_X4_thoseThere, 895, 897, 70, 109, 898),
  (7, 320, 2, bm_X7_keptCourts, 900, 902, 71, 108, 903),
  (7, 327, 2, bm_X7_count, 918, 884, 885, 108, 886),
  (7, 330, 3, bm_X4_digestFrom, 919, 921, 72, 109, 922),
  (7, 334, 3, bm_X0_set, 368, 148, 0, 110, 149),
  (7, 336, 3, bm_X4_hasPlace, 390, 392, 7, 109, 393),
  (7, 342, 3, bm_X1_toldOf, 536, 538, 30, 111, 539),
  (7, 346, 3, bm_X1_clear, 520, 464, 16, 111, 465),
  (7, 349, 3, bm_X2_readFrom, 745, 747, 56, 113, 748),
  (7, 352, 3, bm_X1_answerIf, 799, 628, 39, 111, 629),
  (7, 363, 0, bm_X7_commonDivisor, 782, 783, 0, 108, 784),
  (8, 69, 0, bm_X8_in, 1000, 1001, 0, 116, 1002),
  (8, 75, 0, bm_X8_isRow, 996, 997, 0, 116, 998),
  (8, 79, 2, bm_X8_finds, 1003, 1005, 73, 116, 1006),
  (8, 83, 2, bm_X8_at, 1011, 1012, 1013, 116, 1014),
  (8, 87, 2, bm_X8_asks, 1015, 1017, 74, 116, 1018),
  (8, 90, 0, bm_X8_isText, 1036, 1037, 0, 116, 1038),
  (8, 96, 2, bm_X8_here, 1060, 1062, 78, 116, 1063),
  (8, 101, 2, bm_X8_takes, 1068, 1070, 80, 116, 1071),
  (8, 105, 2, bm_X8_skip, 1056, 1058, 77, 116, 1059),
  (8, 109, 2, bm_X8_takesSet, 1064, 1066, 79, 116, 1067),
  (8, 113, 0, bm_X8_kindBy, 1077, 1078, 0, 116, 1079),
  (8, 116, 2, bm_X8_takesFirst, 1052, 1054, 76, 116, 1055),
  (8, 119, 2, bm_X8_takesBear, 1073, 1075, 81, 116, 1076),
  (8, 122, 2, bm_X8_faultOf, 1048, 1050, 75, 116, 1051),
  (8, 125, 0, bm_X8_begin, 1084, 1085, 0, 116, 1086),
  (8, 129, 0, bm_X8_has, 1099, 1100, 0, 116, 1101),
  (8, 132, 0, bm_X8_seesAs, 1121, 1122, 0, 116, 1123),
  (8, 136, 0, bm_X8_tellsAs, 1118, 1119, 0, 116, 1120),
  (8, 140, 2, bm_X8_sayOf, 1114, 1116, 87, 116, 1117),
  (8, 144, 2, bm_X8_tellOf, 1110, 1112, 86, 116, 1113),
  (8, 147, 2, bm_X8_tellNow, 1106, 1108, 85, 116, 1109),
  (8, 150, 2, bm_X8_balance, 1199, 1201, 92, 116, 1202),
  (8, 154, 2, bm_X8_toldThings, 1102, 1104, 84, 116, 1105),
  (8, 157, 2, bm_X8_isBear, 1091, 1093, 82, 116, 1094),
  (8, 160, 2, bm_X8_toldOf, 1095, 1097, 83, 116, 1098),
  (8, 163, 0, bm_X8_isOf, 1128, 1129, 0, 116, 1130),
  (8, 166, 0, bm_X8_bits, 1131, 1132, 0, 116, 1133),
  (8, 169, 2, bm_X8_seesBeyond, 1134, 1136, 88, 116, 1137),
  (8, 172, 0, bm_X8_goDeed, 1153, 1154, 0, 116, 1155),
  (8, 176, 0, bm_X8_may, 1146, 1147, 0, 116, 1148),
  (8, 180, 2, bm_X8_does, 1149, 1151, 90, 116, 1152),
  (8, 183, 2, bm_X8_doesTo, 1142, 1144, 89, 116, 1145),
  (8, 188, 0, bm_X8_isShelf, 1176, 1177, 0, 116, 1178),
  (8, 191, 0, bm_X8_isThing, 1188, 1189, 0, 116, 1190),
  (8, 194, 2, bm_X8_allBears, 1195, 1197, 91, 116, 1198),
  (8, 198, 2, bm_X8_shownBy, 1203, 1205, 93, 116, 1206),
  (8, 202, 2, bm_X8_layHand, 1220, 1222, 95, 116, 1223),
  (8, 205, 2, bm_X8_goes, 1216, 1218, 94, 116, 1219),
  (8, 211, 2, bm_X8_rivalThings, 1233, 1235, 96, 116, 1236),
  (8, 216, 0, bm_X8_pairOf, 1258, 1259, 0, 116, 1260),
  (8, 219, 2, bm_X8_refusesPairs, 1249, 1251, 98, 116, 1252),
  (8, 222, 2, bm_X8_refusesLooks, 1245, 1247, 97, 116, 1248),
  (8, 225, 2, bm_X8_isTruth, 1254, 1256, 99, 116, 1257),
  (8, 232, 0, bm_X8_startOf, 1281, 1282, 0, 116, 1283),
  (8, 235, 2, bm_X8_goChoices, 1285, 1287, 100, 116, 1288),
  (8, 238, 2, bm_X8_weigh, 1289, 1291, 101, 116, 1292),
  (8, 244, 2, bm_X8_fraction, 1302, 1304, 103, 116, 1305),
  (8, 248, 2, bm_X8_goOdds, 1298, 1300, 102, 116, 1301),
  (8, 261, 2, bm_X8_sumOf, 1340, 1342, 105, 116, 1343),
  (8, 264, 2, bm_X8_manyOf, 1344, 1346, 106, 116, 1347),
  (8, 267, 0, bm_X8_manyThere, 1348, 1349, 0, 116, 1350),
  (8, 273, 2, bm_X8_counted, 1336, 1338, 104, 116, 1339),
  (9, 9, 4, bm_X7_init, 123, 124, 0, 108, 125),
  (9, 12, 4, bm_X8_init, 926, 927, 0, 116, 928),
  (9, 13, 2, bm_X7_row, 352, 353, 354, 108, 355),
  (9, 17, 2, bm_X8_row, 992, 993, 994, 116, 995),
  (9, 18, 2, bm_X7_lay, 374, 375, 376, 108, 377),
  (9, 22, 2, bm_X8_lay, 1007, 1008, 1009, 116, 1010),
  (9, 23, 2, bm_X7_at, 403, 404, 405, 108, 406),
  (9, 26, 2, bm_X8_at, 1019, 1012, 1013, 116, 1014),
  (9, 27, 2, bm_X7_tear, 407, 408, 409, 108, 410),
  (9, 31, 2, bm_X8_tear, 1020, 1021, 1022, 116, 1023),
  (9, 32, 2, bm_X7_copy, 415, 416, 417, 108, 418),
  (9, 36, 2, bm_X8_copy, 1024, 1025, 1026, 116, 1027),
  (9, 37, 2, bm_X7_mean, 435, 436, 437, 108, 438),
  (9, 40, 2, bm_X8_mean, 1028, 1029, 1030, 116, 1031),
  (9, 41, 2, bm_X7_text, 445, 446, 447, 108, 448),
  (9, 44, 2, bm_X8_text, 1032, 1033, 1034, 116, 1035),
  (9, 45, 2, bm_X7_put, 449, 450, 451, 108, 452),
  (9, 48, 2, bm_X8_put, 1040, 1041, 1042, 116, 1043),
  (9, 49, 2, bm_X7_fault, 453, 454, 455, 108, 456),
  (9, 52, 2, bm_X8_fault, 1044, 1045, 1046, 116, 1047),
  (9, 53, 2, bm_X7_court, 499, 500, 501, 108, 502),
  (9, 56, 2, bm_X8_court, 1080, 1081, 1082, 116, 1083),
  (9, 57, 2, bm_X7_bear, 521, 522, 523, 108, 524),
  (9, 60, 2, bm_X8_bear, 1087, 1088, 1089, 116, 1090),
  (9, 61, 2, bm_X7_mark, 549, 550, 551, 108, 552),
  (9, 64, 2, bm_X8_mark, 1124, 1125, 1126, 116, 1127),
  (9, 65, 2, bm_X7_press, 567, 568, 569, 108, 570),
  (9, 68, 2, bm_X8_press, 1138, 1139, 1140, 116, 1141),
  (9, 69, 2, bm_X7_mend, 587, 588, 589, 108, 590),
  (9, 72, 2, bm_X8_mend, 1156, 1157, 1158, 116, 1159),
  (9, 73, 2, bm_X7_eye, 591, 592, 593, 108, 594),
  (9, 76, 2, bm_X8_eye, 1160, 1161, 1162, 116, 1163),
  (9, 77, 2, bm_X7_turn, 595, 596, 597, 108, 598),
  (9, 80, 2, bm_X8_turn, 1164, 1165, 1166, 116, 1167),
  (9, 81, 2, bm_X7_undo, 599, 600, 601, 108, 602),
  (9, 84, 2, bm_X8_undo, 1168, 1169, 1170, 116, 1171),
  (9, 85, 2, bm_X7_keep, 607, 608, 609, 108, 610),
  (9, 88, 2, bm_X8_keep, 1172, 1173, 1174, 116, 1175),
  (9, 89, 2, bm_X7_on, 611, 612, 613, 108, 614),
  (9, 92, 2, bm_X8_on, 1180, 1181, 1182, 116, 1183),
  (9, 93, 2, bm_X7_tells, 615, 616, 617, 108, 618),
  (9, 96, 2, bm_X8_tells, 1184, 1185, 1186, 116, 1187),
  (9, 97, 2, bm_X7_shown, 634, 635, 636, 108, 637),
  (9, 100, 2, bm_X8_shown, 1191, 1192, 1193, 116, 1194),
  (9, 101, 2, bm_X7_call, 671, 672, 673, 108, 674),
  (9, 104, 2, bm_X8_call, 1207, 1208, 1209, 116, 1210),
  (9, 105, 2, bm_X7_shake, 677, 678, 679, 108, 680),
  (9, 108, 2, bm_X8_shake, 1212, 1213, 1214, 116, 1215),
  (9, 109, 2, bm_X7_cover, 713, 714, 715, 108, 716),
  (9, 112, 2, bm_X8_cover, 1224, 1225, 1226, 116, 1227),
  (9, 113, 2, bm_X7_rivals, 721, 722, 723, 108, 724),
  (9, 116, 2, bm_X8_rivals, 1229, 1230, 1231, 116, 1232),
  (9, 117, 2, bm_X7_apart, 729, 730, 731, 108, 732),
  (9, 121, 2, bm_X8_apart, 1237, 1238, 1239, 116, 1240),
  (9, 122, 2, bm_X7_truths, 737, 738, 739, 108, 740),
  (9, 125, 2, bm_X8_truths, 1241, 1242, 1243, 116, 1244),
  (9, 126, 2, bm_X7_sure, 785, 786, 787, 108, 788),
  (9, 129, 2, bm_X8_sure, 1261, 1262, 1263, 116, 1264),
  (9, 130, 2, bm_X7_next, 791, 792, 793, 108, 794),
  (9, 133, 2, bm_X8_next, 1265, 1266, 1267, 116, 1268),
  (9, 134, 2, bm_X7_kinds, 801, 802, 803, 108, 804),
  (9, 137, 2, bm_X8_kinds, 1269, 1270, 1271, 116, 1272),
  (9, 138, 2, bm_X7_walls, 809, 810, 811, 108, 812),
  (9, 141, 2, bm_X8_walls, 1273, 1274, 1275, 116, 1276),
  (9, 142, 2, bm_X7_duel, 823, 824, 825, 108, 826),
  (9, 145, 2, bm_X8_duel, 1277, 1278, 1279, 116, 1280),
  (9, 146, 2, bm_X7_odds, 836, 837, 838, 108, 839),
  (9, 149, 2, bm_X8_odds, 1293, 1294, 1295, 116, 1296),
  (9, 150, 2, bm_X7_mid, 852, 853, 854, 108, 855),
  (9, 153, 2, bm_X8_mid, 1306, 1307, 1308, 116, 1309),
  (9, 154, 2, bm_X7_lots, 856, 857, 858, 108, 859),
  (9, 157, 2, bm_X8_lots, 1310, 1311, 1312, 116, 1313),
  (9, 158, 2, bm_X7_asked, 871, 872, 873, 108, 874),
  (9, 161, 2, bm_X8_asked, 1319, 1320, 1321, 116, 1322),
  (9, 162, 2, bm_X7_upper, 875, 876, 877, 108, 878),
  (9, 166, 2, bm_X8_upper, 1323, 1324, 1325, 116, 1326),
  (9, 167, 2, bm_X7_lower, 879, 880, 881, 108, 882),
  (9, 170, 2, bm_X8_lower, 1327, 1328, 1329, 116, 1330),
  (9, 171, 2, bm_X7_count, 883, 884, 885, 108, 886),
  (9, 174, 2, bm_X8_count, 1331, 1332, 1333, 116, 1334),
  (9, 175, 2, bm_X7_finding, 904, 905, 906, 108, 907),
  (9, 178, 2, bm_X8_finding, 1351, 1352, 1353, 116, 1354),
  (9, 179, 2, bm_X7_findings, 908, 909, 910, 108, 911),
  (9, 182, 2, bm_X8_findings, 1355, 1356, 1357, 116, 1358),
  (9, 183, 2, bm_X7_digest, 912, 913, 914, 108, 915),
  (9, 186, 2, bm_X8_digest, 1359, 1360, 1361, 116, 1362)]
def bw_mt (o ix : Nat) : Option (Nat × bw_M) := (bw_MT.find? (fun e => e.1 == o && e.2.1 == ix)).map (fun e => (e.2.2.1, e.2.2.2.1))
def bw_KT : List (Nat × Nat × Value × Nat) := [(2, 60, .long (-1), 757), (4, 61, .long (31), 923), (7, 249, .long (-1), 790), (7, 280, .int (2147483646), 860), (7, 281, .long (48271), 861), (7, 283, .long (2147483647), 862), (7, 285, .long (8), 863), (7, 323, .long (17), 916), (7, 325, .long (31), 917), (7, 361, .long (12), 851), (8, 67, .long (5), 999), (8, 73, .long (3), 1039), (8, 99, .long (48), 1072), (8, 186, .long (2), 1179), (8, 201, .int (1000000), 1211), (8, 209, .long (63), 1228), (8, 214, .long (47), 1253), (8, 231, .int (-1000000), 1284), (8, 242, .long (12), 1297), (8, 251, .long (20), 1314), (8, 253, .long (2147483646), 1315), (8, 255, .long (48271), 1316), (8, 257, .long (2147483647), 1317), (8, 259, .long (8), 1318), (8, 271, .long (11), 1335), (8, 276, .long (17), 1363), (8, 278, .long (31), 1364)]
def bw_kc (o ix : Nat) : Option Value := (bw_KT.find? (fun e => e.1 == o && e.2.1 == ix)).map (fun e => e.2.2.1)
def bw_NT : List (Nat × Nat × Nat × Nat × Nat × Nat) := [(1, 24, 0, 169, 136, 110), (2, 15, 0, 246, 136, 110), (4, 16, 0, 135, 136, 110), (5, 15, 0, 267, 136, 110), (6, 21, 0, 285, 136, 110), (7, 7, 4, 129, 130, 109), (7, 21, 1, 163, 164, 111), (7, 35, 3, 224, 225, 112), (7, 42, 2, 240, 241, 113), (7, 49, 5, 261, 262, 114), (7, 56, 6, 279, 280, 115), (7, 63, 0, 307, 136, 110), (9, 7, 7, 121, 122, 108), (9, 10, 8, 924, 925, 116)]
def bw_cl (o ix : Nat) : Option Nat := (bw_NT.find? (fun e => e.1 == o && e.2.1 == ix)).map (fun e => e.2.2.1)
def bw_anT : List (Nat × Nat × Nat) := [(7, 21, 163)]
def bw_an (o ix : Nat) : Bool := (bw_anT.find? (fun e => e.1 == o && e.2.1 == ix)).isSome
def bw_stT : List (Nat × Nat × Nat) := [(2, 30, 762)]
def bw_st (o ix : Nat) : Bool := (bw_stT.find? (fun e => e.1 == o && e.2.1 == ix)).isSome
def bw_oiT : List (Nat × Nat × Nat) := [(0, 1, 140), (1, 3, 168), (2, 3, 245), (3, 3, 229), (4, 1, 134), (5, 3, 266), (6, 3, 284), (7, 1, 126), (8, 1, 929)]
def bw_oi (o ix : Nat) : Bool := (bw_oiT.find? (fun e => e.1 == o && e.2.1 == ix)).isSome
def bw_acT : List (Nat × Nat × Nat) := [(0, 17, 432)]
def bw_ac (o ix : Nat) : Bool := (bw_acT.find? (fun e => e.1 == o && e.2.1 == ix)).isSome
def bw_mxT : List (Nat × Nat × Bool × Nat) := [(1, 94, true, 564), (6, 86, true, 832), (6, 92, false, 833), (7, 356, true, 800)]
def bw_mx (o ix : Nat) : Option Bool := (bw_mxT.find? (fun e => e.1 == o && e.2.1 == ix)).map (fun e => e.2.2.1)
end
section
/-- one instruction that is neither a call nor an end -/
def bw_x (X : Nat × (Nat → Int32)) (o nL : Nat) (ini : Bool) (i : Instr) : Nat → bw_L → List Value → bw_H → Option bw_C := match i with
  | .iload_n k => bq_il 1 (k : Nat)
  | .iload k => bq_il 2 k
  | .lload_n k => bq_ll 1 (k : Nat)
  | .lload k => bq_ll 2 k
  | .aload_n k => bq_al 1 (k : Nat)
  | .aload k => bq_al 2 k
  | .istore_n k => bq_is nL 1 (k : Nat)
  | .istore k => bq_is nL 2 k
  | .lstore_n k => bq_ls nL 1 (k : Nat)
  | .lstore k => bq_ls nL 2 k
  | .astore_n k => bq_as nL 1 (k : Nat)
  | .astore k => bq_as nL 2 k
  | .iinc k n => bq_ic nL k n
  | .iconst n => bq_cn 1 (.int (Int32.ofInt n))
  | .bipush n => bq_cn 2 (.int (Int8.ofInt n).toInt32)
  | .sipush n => bq_cn 3 (.int (Int16.ofInt n).toInt32)
  | .lconst n => bq_cn 1 (.long (Int64.ofNat (n : Nat)))
  | .aconst_null => bq_cn 1 .null
  | .ldc ix => match bw_kc o ix with
    | some (.int v) => bq_cn 2 (.int v)
    | _ => fun _ _ _ _ => none
  | .ldc_w ix => match bw_kc o ix with
    | some (.int v) => bq_cn 3 (.int v)
    | _ => fun _ _ _ _ => none
  | .ldc2_w ix => match bw_kc o ix with
    | some (.long v) => bq_cn 3 (.long v)
    | _ => fun _ _ _ _ => none
  | .iadd => bq_ii (fun x y => x + y)
  | .isub => bq_ii (fun x y => x - y)
  | .imul => bq_ii (fun x y => x * y)
  | .iand => bq_ii (fun x y => x &&& y)
  | .ior => bq_ii (fun x y => x ||| y)
  | .ixor => bq_ii (fun x y => x ^^^ y)
  | .ishl => bq_ii (fun x y => x <<< (y &&& 31))
  | .ishr => bq_ii (fun x y => x >>> (y &&& 31))
  | .iushr => bq_ii (fun x y => (x.toUInt32 >>> (y.toUInt32 &&& Int32.toUInt32 31)).toInt32)
  | .idiv => bq_id (fun x y => x / y)
  | .irem => bq_id (fun x y => x - x / y * y)
  | .ladd => bq_jj (fun x y => x + y)
  | .lsub => bq_jj (fun x y => x - y)
  | .lmul => bq_jj (fun x y => x * y)
  | .land => bq_jj (fun x y => x &&& y)
  | .lor => bq_jj (fun x y => x ||| y)
  | .lxor => bq_jj (fun x y => x ^^^ y)
  | .ldiv => bq_jd (fun x y => x / y)
  | .lrem => bq_jd (fun x y => x - x / y * y)
  | .lushr => bq_ju
  | .ineg => bq_i1 (fun x => .int (-x))
  | .i2l => bq_i1 (fun x => .long x.toInt64)
  | .i2b => bq_i1 (fun x => .int x.toInt8.toInt32)
  | .lneg => bq_j1 (fun x => .long (-x))
  | .l2i => bq_j1 (fun x => .int x.toInt32)
  | .lcmp => bq_cm
  | .dup => bq_du
  | .dup2 => bq_d2
  | .goto off => bq_go off
  | .ifCond .eq off => bq_if (fun x => decide (x = 0)) off
  | .ifCond .ne off => bq_if (fun x => decide (¬ x = 0)) off
  | .ifCond .lt off => bq_if (fun x => decide (x < 0)) off
  | .ifCond .ge off => bq_if (fun x => decide (0 ≤ x)) off
  | .ifCond .gt off => bq_if (fun x => decide (0 < x)) off
  | .ifCond .le off => bq_if (fun x => decide (x ≤ 0)) off
  | .if_icmp .eq off => bq_cp (fun x y => decide (x = y)) off
  | .if_icmp .ne off => bq_cp (fun x y => decide (¬ x = y)) off
  | .if_icmp .lt off => bq_cp (fun x y => decide (x < y)) off
  | .if_icmp .ge off => bq_cp (fun x y => decide (y ≤ x)) off
  | .if_icmp .gt off => bq_cp (fun x y => decide (y < x)) off
  | .if_icmp .le off => bq_cp (fun x y => decide (x ≤ y)) off
  | .ifnull off => bq_nu off
  | .ifnonnull off => bq_nn off
  | .tableswitch df lo hi offs => bq_ts df lo hi offs
  | .getfield ix => bq_gf (bw_fl o ix)
  | .putfield ix => bq_pf o ini (bw_fl o ix)
  | .getstatic ix => bq_gs (bw_st o ix)
  | .laload => bq_la
  | .iaload => bq_ia X
  | .baload => bq_ba
  | .aaload => bq_aa
  | .iastore => bq_ist
  | .bastore => bq_bst
  | .aastore => bq_ast
  | .arraylength => bq_len X
  | .new ix => bq_new (bw_cl o ix)
  | .newarray t => bq_na t
  | .anewarray ix => bq_an (bw_an o ix)
  | .invokespecial ix => bq_oi (bw_oi o ix)
  | .invokestatic ix => (match bw_mx o ix with
    | some b => bq_mx b
    | none => bq_ac (bw_ac o ix))
  | _ => fun _ _ _ _ => none
/-- an end: what is returned -/
def bw_e (rt : Option FieldType) (i : Instr) (st : List Value) : Option (Option Value) := match i, st with
  | .ireturn, [.int v] => (match rt with
    | some ty => if narrow ty (.int v) = .int v then some (some (.int v)) else none
    | none => none)
  | .lreturn, [.long v] => if rt = some .long then some (some (.long v)) else none
  | .areturn, [.ref a] => (match rt with
    | some (.object _) => some (some (.ref a))
    | _ => none)
  | .areturn, [.null] => (match rt with
    | some (.object _) => some (some .null)
    | _ => none)
  | .return_, [] => if rt = none then some none else none
  | _, _ => none
/-- a call: by its kind (0 static, 2 virtual, 4 init; 1 more: of a nest mate), the method, its arguments (receiver first), the rest -/
def bw_c (o : Nat) (i : Instr) (st : List Value) (h : bw_H) : Option (bw_M × Bool × List Value × List Value) := match i with
  | .invokestatic ix => (match bw_mt o ix with
    | some (kd, M) => if kd ≤ 1 ∧ M.2.2.2.2.2 ≤ st.length ∧ ((st.drop M.2.2.2.2.2).map fun v => v.category).sum ≤ 8 ∧ (lg_sl (st.take M.2.2.2.2.2).reverse).length ≤ M.2.2.2.1 ∧ M.2.2.2.1 ≤ 30
        then some (M, false, (st.take M.2.2.2.2.2).reverse, st.drop M.2.2.2.2.2) else none
    | none => none)
  | .invokevirtual ix => (match bw_mt o ix with
    | some (kd, M) => (match st.drop M.2.2.2.2.2 with
      | .ref a :: r => if (kd = 2 ∨ kd = 3) ∧ M.2.2.2.2.2 ≤ st.length ∧ a < bw_n h ∧ bw_k h a = .inl M.1 ∧ M.1 < 9 ∧ (r.map fun v => v.category).sum ≤ 8 ∧ (lg_sl (.ref a :: (st.take M.2.2.2.2.2).reverse)).length ≤ M.2.2.2.1 ∧ M.2.2.2.1 ≤ 30
        then some (M, false, .ref a :: (st.take M.2.2.2.2.2).reverse, r) else none
      | _ => none)
    | none => none)
  | .invokespecial ix => (match bw_mt o ix with
    | some (kd, M) => (match st.drop M.2.2.2.2.2 with
      | .ref a :: r => if (kd = 4 ∨ kd = 5) ∧ M.2.2.2.2.2 ≤ st.length ∧ M.2.1.name = "<init>" ∧ M.2.2.2.2.1 = none ∧ (r.map fun v => v.category).sum ≤ 8 ∧ (lg_sl (.ref a :: (st.take M.2.2.2.2.2).reverse)).length ≤ M.2.2.2.1 ∧ M.2.2.2.1 ≤ 30
        then some (M, true, .ref a :: (st.take M.2.2.2.2.2).reverse, r) else none
      | _ => none)
    | none => none)
  | _ => none
/-- how long an instruction is (0: by its table) -/
def bw_w (i : Instr) : Nat := match i with
  | .iload _ | .lload _ | .aload _ | .istore _ | .lstore _ | .astore _ | .bipush _ | .ldc _ | .newarray _ => 2
  | .sipush _ | .ldc_w _ | .ldc2_w _ | .iinc _ _ | .goto _ | .ifCond _ _ | .if_icmp _ _ | .ifnull _ | .ifnonnull _ | .getfield _ | .putfield _ | .getstatic _ | .new _ | .anewarray _ | .invokestatic _ | .invokevirtual _ | .invokespecial _ => 3
  | .tableswitch _ _ _ _ => 0
  | _ => 1
/-- runs n steps at most (of the method and of all that it calls), at most d calls deep -/
def bw_run (X : Nat × (Nat → Int32)) : Nat → Nat → Nat → Nat → Bool → Option FieldType → ByteArray → Nat → bw_L → List Value → bw_H → Option (Option Value × bw_H)
  | 0, _, _, _, _, _, _, _, _, _, _ => none
  | n + 1, d, o, nL, ini, rt, cc, pc, ls, st, h => match decode cc pc with
    | .error _ => none
    | .ok (i, len) => if ¬ (len = bw_w i ∨ bw_w i = 0) then none else match bw_x X o nL ini i pc ls st h with
      | some (pc', ls', st', h') => bw_run X n d o nL ini rt cc pc' ls' st' h'
      | none => match bw_e rt i st with
        | some v => some (v, h)
        | none => match d with
          | 0 => none
          | d' + 1 => match bw_c o i st h with
            | some (M, im, as, r) => (match bw_run X n d' M.1 M.2.2.2.1 im M.2.2.2.2.1 M.2.2.1 0 (lv_args 0 as) [] h with
              | some (v, h1) => bw_run X n d o nL ini rt cc (pc + 3) ls (v.toList ++ r) h1
              | none => none)
            | none => none
end
section
/-! what the small machine does with locals and stack, the JVM does -/
def bw_tr (g : Nat × Nat × Nat) (v : Value) : Value := match v with
  | .ref a => .ref (g.1 + a)
  | .retAddr a => .ref (if a = 0 then g.2.1 else g.2.2)
  | .int x => .int x
  | .long x => .long x
  | .float x => .float x
  | .double x => .double x
  | .null => .null
def bw_tl (g : Nat × Nat × Nat) (ls : bw_L) : bw_L := ls.map (fun q => (q.1, bw_tr g q.2))
theorem bw_tr_cat (g : Nat × Nat × Nat) (v : Value) : (bw_tr g v).category = v.category := by cases v <;> rfl
def bw_en (cA : FieldType → ClassId) (g : Nat × Nat × Nat) (h : bw_H) (p : Nat) : va_E := match bw_k h p with
  | .inl c => .inr (c, (List.range (bw_N c)).map (fun k => bw_tr g (bw_fv h p c k)))
  | .inr (ty, N) => .inl (cA ty, N, match ty with
    | .object _ => .inr (.inr (.inr (.inr (fun j => (bw_r h p j).map (fun a => g.1 + a)))))
    | _ => .inl (bw_i h p))
def bw_ws (cA : FieldType → ClassId) (g : Nat × Nat × Nat) (h : bw_H) : va_W := (List.range (bw_n h)).map (fun p => (g.1 + p, bw_en cA g h p))
def bw_A (g : Nat × Nat × Nat) : Nat → Prop := fun q => g.1 ≤ q
abbrev bw_tys (cA : FieldType → ClassId) : List (ClassId × FieldType) := [(cA .int, .int), (cA .boolean, .boolean), (cA (.object RX1), .object RX1)]
theorem bw_ws_get {cA : FieldType → ClassId} {g : Nat × Nat × Nat} {h : bw_H} {p : Nat} (hp : p < bw_n h) : (bw_ws cA g h)[p]? = some (g.1 + p, bw_en cA g h p) := by
  unfold bw_ws
  rw [List.getElem?_map, List.getElem?_range hp]
  rfl
theorem bw_ws_lt {cA : FieldType → ClassId} {g : Nat × Nat × Nat} {h : bw_H} {p : Nat} {q : Nat × va_E} (hq : (bw_ws cA g h)[p]? = some q) : p < bw_n h ∧ q = (g.1 + p, bw_en cA g h p) := by
  have hp : p < bw_n h := by
    have := (List.getElem?_eq_some_iff.mp hq).1
    unfold bw_ws at this
    simpa using this
  refine ⟨hp, ?_⟩
  rw [bw_ws_get hp] at hq
  exact (Option.some.inj hq).symm
theorem bw_ws_D (cA : FieldType → ClassId) (g : Nat × Nat × Nat) (h : bw_H) : va_D (bw_A g) (bw_ws cA g h) := by
  refine ⟨fun i j p q hi hj e => ?_, fun k q hq => ?_⟩
  · have h1 := (bw_ws_lt hi).2
    have h2 := (bw_ws_lt hj).2
    subst h1 h2
    have e : g.1 + i = g.1 + j := e
    omega
  · have h1 := (bw_ws_lt hq).2
    subst h1
    exact Nat.le_add_right _ _
theorem bw_ws_set {cA : FieldType → ClassId} {g : Nat × Nat × Nat} {h h' : bw_H} {p : Nat} (hn : bw_n h' = bw_n h) (ho : ∀ q, q ≠ p → bw_en cA g h' q = bw_en cA g h q) : (bw_ws cA g h).set p (g.1 + p, bw_en cA g h' p) = bw_ws cA g h' := by
  refine List.ext_getElem? fun i => ?_
  rw [List.getElem?_set]
  by_cases hi : i < bw_n h
  · rw [bw_ws_get (h := h') (by omega)]
    by_cases hp : p = i
    · subst hp
      rw [if_pos rfl, if_pos (by unfold bw_ws; simpa using hi)]
    · rw [if_neg hp, bw_ws_get hi, ho i (fun q => hp q.symm)]
  · have h1 : (bw_ws cA g h).length ≤ i := by unfold bw_ws; simpa using hi
    have h2 : (bw_ws cA g h').length ≤ i := by unfold bw_ws; simp; omega
    rw [List.getElem?_eq_none h2, List.getElem?_eq_none h1]
    by_cases hp : p = i
    · rw [if_pos hp, if_neg (by omega)]
    · rw [if_neg hp]
theorem bw_ws_push {cA : FieldType → ClassId} {g : Nat × Nat × Nat} {h h' : bw_H} (hn : bw_n h' = bw_n h + 1) (ho : ∀ q, q < bw_n h → bw_en cA g h' q = bw_en cA g h q) : bw_ws cA g h ++ [(g.1 + bw_n h, bw_en cA g h' (bw_n h))] = bw_ws cA g h' := by
  unfold bw_ws
  rw [hn, List.range_succ, List.map_append]
  congr 1
  refine List.map_congr_left fun q hq => ?_
  rw [ho q (List.mem_range.mp hq)]
def bw_inv (D : va_G) (cA : FieldType → ClassId) (g : Nat × Nat × Nat) (s : State) (cells : Nat) (h : bw_H) (H : Heap) (locs : List Loc) : Prop :=
  va_P D vwCl (bw_ws cA g h) H ∧ va_S (bw_A g) s.heap H locs ∧ s.heap.size + cells ≤ g.1 + bw_n h
def bw_at (p : Program) (l : Launch) (e : Env) (R : Room) (s : State) (m : MethodId) (args : Array Value) (below : List Frame) (meth : Method) (c : Code) (Q : State → Prop) (D : va_G) (cA : FieldType → ClassId) (g : Nat × Nat × Nat) (nL cells slots : Nat) (k : bw_C) : Prop :=
  ∀ (H : Heap) (locs : List Loc) (la : Array Slot), bw_inv D cA g s cells k.2.2.2 H locs → lv_has la nL (bw_tl g k.2.1) → W p l e R s m args below meth c H locs cells slots Q (F0 m k.1 la (k.2.2.1.map (bw_tr g)))
theorem bw_lg_mem {ls : bw_L} {i : Nat} {v : Value} (h : bw_lg ls i = some v) : (i, v) ∈ ls := by
  unfold bw_lg at h
  cases hf : ls.find? (fun q => q.1 == i) with
  | none => rw [hf] at h; cases h
  | some q =>
    rw [hf] at h
    have h1 := List.mem_of_find?_eq_some hf
    have h2 := List.find?_some hf
    have h3 : q.1 = i := by simpa using h2
    have h4 : q.2 = v := Option.some.inj h
    have : q = (i, v) := by rw [← h3, ← h4]
    rw [← this]
    exact h1
theorem bw_lg_at {g : Nat × Nat × Nat} {ls : bw_L} {i nL : Nat} {v : Value} {la : Array Slot} (h : bw_lg ls i = some v) (hl : lv_has la nL (bw_tl g ls)) : la[i]? = some (.val (bw_tr g v)) :=
  hl.2.2 (i, bw_tr g v) (List.mem_map.mpr ⟨(i, v), bw_lg_mem h, rfl⟩)
theorem bw_tl_s1 (g : Nat × Nat × Nat) (ls : bw_L) (i : Nat) (v : Value) : bw_tl g (bw_s1 ls i v) = (i, bw_tr g v) :: (bw_tl g ls).filter (fun q => !(q.1 == i) && !(q.1 + 1 == i && q.2.category == 2)) := by
  unfold bw_tl bw_s1
  rw [List.map_cons, List.filter_map]
  congr 2
  refine List.filter_congr fun q _ => ?_
  simp only [Function.comp, bw_tr_cat]
theorem bw_tl_s2 (g : Nat × Nat × Nat) (ls : bw_L) (i : Nat) (v : Value) : bw_tl g (bw_s2 ls i v) = (i, bw_tr g v) :: (bw_tl g ls).filter (fun q => !(q.1 == i) && (!(q.1 == i + 1) && !(q.1 + 1 == i && q.2.category == 2))) := by
  unfold bw_tl bw_s2
  rw [List.map_cons, List.filter_map]
  congr 2
  refine List.filter_congr fun q _ => ?_
  simp only [Function.comp, bw_tr_cat]
theorem bw_jp_ok {pc q : Nat} {off : Int} (h : bw_jp pc off = some q) : (pc : Int) + off = (q : Int) := by
  unfold bw_jp at h
  split at h
  · cases h; omega
  · cases h
section BO
variable {p : Program} {l : Launch} {e : Env} {R : Room} {s : State} {m : MethodId} {args : Array Value} {below : List Frame} {meth : Method} {c : Code} {Q : State → Prop} {D : va_G} {cA : FieldType → ClassId} {g : Nat × Nat × Nat} {nL cells slots : Nat} {pc : Nat} {ls : bw_L} {st : List Value} {h : bw_H} {k : bw_C} {cc : ByteArray}
theorem bo_il {w i : Nat} (row : ∀ (H : Heap) (locs : List Loc) (la : Array Slot) (x : Int32) (r : List Value), la[i]? = some (.val (.int x)) → W p l e R s m args below meth c H locs cells slots Q (F0 m (pc + w) la (.int x :: r)) → W p l e R s m args below meth c H locs cells slots Q (F0 m pc la r))
    (hq : bq_il w i pc ls st h = some k) (K : bw_at p l e R s m args below meth c Q D cA g nL cells slots k) : bw_at p l e R s m args below meth c Q D cA g nL cells slots (pc, ls, st, h) := by
  unfold bq_il at hq
  split at hq
  · rename_i x hx
    cases hq
    intro H locs la hi hl
    exact row H locs la x _ (bw_lg_at hx hl) (K H locs la hi hl)
  · cases hq
theorem bo_ll {w i : Nat} (row : ∀ (H : Heap) (locs : List Loc) (la : Array Slot) (x : Int64) (r : List Value), la[i]? = some (.val (.long x)) → W p l e R s m args below meth c H locs cells slots Q (F0 m (pc + w) la (.long x :: r)) → W p l e R s m args below meth c H locs cells slots Q (F0 m pc la r))
    (hq : bq_ll w i pc ls st h = some k) (K : bw_at p l e R s m args below meth c Q D cA g nL cells slots k) : bw_at p l e R s m args below meth c Q D cA g nL cells slots (pc, ls, st, h) := by
  unfold bq_ll at hq
  split at hq
  · rename_i x hx
    cases hq
    intro H locs la hi hl
    exact row H locs la x _ (bw_lg_at hx hl) (K H locs la hi hl)
  · cases hq
theorem bo_al {w i : Nat} (row : ∀ (H : Heap) (locs : List Loc) (la : Array Slot) (x : Nat) (r : List Value), la[i]? = some (.val (.ref x)) → W p l e R s m args below meth c H locs cells slots Q (F0 m (pc + w) la (.ref x :: r)) → W p l e R s m args below meth c H locs cells slots Q (F0 m pc la r))
    (rowN : ∀ (H : Heap) (locs : List Loc) (la : Array Slot) (r : List Value), la[i]? = some (.val .null) → W p l e R s m args below meth c H locs cells slots Q (F0 m (pc + w) la (.null :: r)) → W p l e R s m args below meth c H locs cells slots Q (F0 m pc la r))
    (hq : bq_al w i pc ls st h = some k) (K : bw_at p l e R s m args below meth c Q D cA g nL cells slots k) : bw_at p l e R s m args below meth c Q D cA g nL cells slots (pc, ls, st, h) := by
  unfold bq_al at hq
  split at hq
  · rename_i x hx
    cases hq
    intro H locs la hi hl
    exact row H locs la (g.1 + x) _ (bw_lg_at hx hl) (K H locs la hi hl)
  · rename_i x hx
    cases hq
    intro H locs la hi hl
    exact row H locs la (if x = 0 then g.2.1 else g.2.2) _ (bw_lg_at hx hl) (K H locs la hi hl)
  · rename_i hx
    cases hq
    intro H locs la hi hl
    exact rowN H locs la _ (bw_lg_at hx hl) (K H locs la hi hl)
  · cases hq
theorem bo_is {w i : Nat} (row : ∀ (H : Heap) (locs : List Loc) (la : Array Slot) (x : Int32) (lv lv' : List (Nat × Value)) (r : List Value), lv_has la nL lv → i < nL → (i, Value.int x) :: lv.filter (fun q => !(q.1 == i) && !(q.1 + 1 == i && q.2.category == 2)) = lv' → (∀ la' : Array Slot, lv_has la' nL lv' → W p l e R s m args below meth c H locs cells slots Q (F0 m (pc + w) la' r)) → W p l e R s m args below meth c H locs cells slots Q (F0 m pc la (.int x :: r)))
    (hq : bq_is nL w i pc ls st h = some k) (K : bw_at p l e R s m args below meth c Q D cA g nL cells slots k) : bw_at p l e R s m args below meth c Q D cA g nL cells slots (pc, ls, st, h) := by
  unfold bq_is at hq
  split at hq
  · rename_i x r
    split at hq
    · rename_i hi
      cases hq
      intro H locs la hv hl
      exact row H locs la x _ _ _ hl hi rfl (fun la' hl' => K H locs la' hv (by
        have e := bw_tl_s1 g ls i (.int x)
        exact e ▸ hl'))
    · cases hq
  · cases hq
theorem bo_ls {w i : Nat} (row : ∀ (H : Heap) (locs : List Loc) (la : Array Slot) (x : Int64) (lv lv' : List (Nat × Value)) (r : List Value), lv_has la nL lv → i + 1 < nL → (i, Value.long x) :: lv.filter (fun q => !(q.1 == i) && (!(q.1 == i + 1) && !(q.1 + 1 == i && q.2.category == 2))) = lv' → (∀ la' : Array Slot, lv_has la' nL lv' → W p l e R s m args below meth c H locs cells slots Q (F0 m (pc + w) la' r)) → W p l e R s m args below meth c H locs cells slots Q (F0 m pc la (.long x :: r)))
    (hq : bq_ls nL w i pc ls st h = some k) (K : bw_at p l e R s m args below meth c Q D cA g nL cells slots k) : bw_at p l e R s m args below meth c Q D cA g nL cells slots (pc, ls, st, h) := by
  unfold bq_ls at hq
  split at hq
  · rename_i x r
    split at hq
    · rename_i hi
      cases hq
      intro H locs la hv hl
      exact row H locs la x _ _ _ hl hi rfl (fun la' hl' => K H locs la' hv (by
        have e := bw_tl_s2 g ls i (.long x)
        exact e ▸ hl'))
    · cases hq
  · cases hq
theorem bo_as {w i : Nat} (row : ∀ (H : Heap) (locs : List Loc) (la : Array Slot) (x : Nat) (lv lv' : List (Nat × Value)) (r : List Value), lv_has la nL lv → i < nL → (i, Value.ref x) :: lv.filter (fun q => !(q.1 == i) && !(q.1 + 1 == i && q.2.category == 2)) = lv' → (∀ la' : Array Slot, lv_has la' nL lv' → W p l e R s m args below meth c H locs cells slots Q (F0 m (pc + w) la' r)) → W p l e R s m args below meth c H locs cells slots Q (F0 m pc la (.ref x :: r)))
    (rowN : ∀ (H : Heap) (locs : List Loc) (la : Array Slot) (lv lv' : List (Nat × Value)) (r : List Value), lv_has la nL lv → i < nL → (i, Value.null) :: lv.filter (fun q => !(q.1 == i) && !(q.1 + 1 == i && q.2.category == 2)) = lv' → (∀ la' : Array Slot, lv_has la' nL lv' → W p l e R s m args below meth c H locs cells slots Q (F0 m (pc + w) la' r)) → W p l e R s m args below meth c H locs cells slots Q (F0 m pc la (.null :: r)))
    (hq : bq_as nL w i pc ls st h = some k) (K : bw_at p l e R s m args below meth c Q D cA g nL cells slots k) : bw_at p l e R s m args below meth c Q D cA g nL cells slots (pc, ls, st, h) := by
  unfold bq_as at hq
  split at hq
  · rename_i x r
    split at hq
    · rename_i hi
      cases hq
      intro H locs la hv hl
      exact row H locs la (g.1 + x) _ _ _ hl hi rfl (fun la' hl' => K H locs la' hv (by
        have e := bw_tl_s1 g ls i (.ref x)
        exact e ▸ hl'))
    · cases hq
  · rename_i r
    split at hq
    · rename_i hi
      cases hq
      intro H locs la hv hl
      exact rowN H locs la _ _ _ hl hi rfl (fun la' hl' => K H locs la' hv (by
        have e := bw_tl_s1 g ls i .null
        exact e ▸ hl'))
    · cases hq
  · cases hq
theorem bo_ic {i : Nat} {n : Int} (row : ∀ (H : Heap) (locs : List Loc) (la : Array Slot) (x v : Int32) (lv lv' : List (Nat × Value)) (kk : Nat) (r : List Value), lv_has la nL lv → lv[kk]? = some (i, .int x) → x + Int32.ofInt n = v → i < nL → (i, Value.int v) :: lv.filter (fun q => !(q.1 == i) && !(q.1 + 1 == i && q.2.category == 2)) = lv' → (∀ la' : Array Slot, lv_has la' nL lv' → W p l e R s m args below meth c H locs cells slots Q (F0 m (pc + 3) la' r)) → W p l e R s m args below meth c H locs cells slots Q (F0 m pc la r))
    (hq : bq_ic nL i n pc ls st h = some k) (K : bw_at p l e R s m args below meth c Q D cA g nL cells slots k) : bw_at p l e R s m args below meth c Q D cA g nL cells slots (pc, ls, st, h) := by
  unfold bq_ic at hq
  split at hq
  · rename_i x hx
    split at hq
    · rename_i hi
      cases hq
      intro H locs la hv hl
      have hm : (i, bw_tr g (.int x)) ∈ bw_tl g ls := List.mem_map.mpr ⟨(i, .int x), bw_lg_mem hx, rfl⟩
      obtain ⟨kk, hk⟩ := List.getElem?_of_mem hm
      exact row H locs la x _ _ _ kk _ hl hk rfl hi rfl (fun la' hl' => K H locs la' hv (by
        have e := bw_tl_s1 g ls i (.int (x + Int32.ofInt n))
        exact e ▸ hl'))
    · cases hq
  · cases hq
theorem bo_ii {f : Int32 → Int32 → Int32} (row : ∀ (H : Heap) (locs : List Loc) (la : Array Slot) (x y : Int32) (r : List Value), W p l e R s m args below meth c H locs cells slots Q (F0 m (pc + 1) la (.int (f x y) :: r)) → W p l e R s m args below meth c H locs cells slots Q (F0 m pc la (.int y :: .int x :: r)))
    (hq : bq_ii f pc ls st h = some k) (K : bw_at p l e R s m args below meth c Q D cA g nL cells slots k) : bw_at p l e R s m args below meth c Q D cA g nL cells slots (pc, ls, st, h) := by
  unfold bq_ii at hq
  split at hq
  · cases hq
    intro H locs la hi hl
    exact row H locs la _ _ _ (K H locs la hi hl)
  · cases hq
theorem bo_id {f : Int32 → Int32 → Int32} (row : ∀ (H : Heap) (locs : List Loc) (la : Array Slot) (x y : Int32) (r : List Value), ¬ y = 0 → W p l e R s m args below meth c H locs cells slots Q (F0 m (pc + 1) la (.int (f x y) :: r)) → W p l e R s m args below meth c H locs cells slots Q (F0 m pc la (.int y :: .int x :: r)))
    (hq : bq_id f pc ls st h = some k) (K : bw_at p l e R s m args below meth c Q D cA g nL cells slots k) : bw_at p l e R s m args below meth c Q D cA g nL cells slots (pc, ls, st, h) := by
  unfold bq_id at hq
  split at hq
  · split at hq
    · cases hq
    · rename_i hne
      cases hq
      intro H locs la hi hl
      exact row H locs la _ _ _ hne (K H locs la hi hl)
  · cases hq
theorem bo_jj {f : Int64 → Int64 → Int64} (row : ∀ (H : Heap) (locs : List Loc) (la : Array Slot) (x y : Int64) (r : List Value), W p l e R s m args below meth c H locs cells slots Q (F0 m (pc + 1) la (.long (f x y) :: r)) → W p l e R s m args below meth c H locs cells slots Q (F0 m pc la (.long y :: .long x :: r)))
    (hq : bq_jj f pc ls st h = some k) (K : bw_at p l e R s m args below meth c Q D cA g nL cells slots k) : bw_at p l e R s m args below meth c Q D cA g nL cells slots (pc, ls, st, h) := by
  unfold bq_jj at hq
  split at hq
  · cases hq
    intro H locs la hi hl
    exact row H locs la _ _ _ (K H locs la hi hl)
  · cases hq
theorem bo_jd {f : Int64 → Int64 → Int64} (row : ∀ (H : Heap) (locs : List Loc) (la : Array Slot) (x y : Int64) (r : List Value), ¬ y = 0 → W p l e R s m args below meth c H locs cells slots Q (F0 m (pc + 1) la (.long (f x y) :: r)) → W p l e R s m args below meth c H locs cells slots Q (F0 m pc la (.long y :: .long x :: r)))
    (hq : bq_jd f pc ls st h = some k) (K : bw_at p l e R s m args below meth c Q D cA g nL cells slots k) : bw_at p l e R s m args below meth c Q D cA g nL cells slots (pc, ls, st, h) := by
  unfold bq_jd at hq
  split at hq
  · split at hq
    · cases hq
    · rename_i hne
      cases hq
      intro H locs la hi hl
      exact row H locs la _ _ _ hne (K H locs la hi hl)
  · cases hq
theorem bo_i1 {f : Int32 → Value} (row : ∀ (H : Heap) (locs : List Loc) (la : Array Slot) (x : Int32) (r : List Value), W p l e R s m args below meth c H locs cells slots Q (F0 m (pc + 1) la (bw_tr g (f x) :: r)) → W p l e R s m args below meth c H locs cells slots Q (F0 m pc la (.int x :: r)))
    (hq : bq_i1 f pc ls st h = some k) (K : bw_at p l e R s m args below meth c Q D cA g nL cells slots k) : bw_at p l e R s m args below meth c Q D cA g nL cells slots (pc, ls, st, h) := by
  unfold bq_i1 at hq
  split at hq
  · cases hq
    intro H locs la hi hl
    exact row H locs la _ _ (K H locs la hi hl)
  · cases hq
theorem bo_j1 {f : Int64 → Value} (row : ∀ (H : Heap) (locs : List Loc) (la : Array Slot) (x : Int64) (r : List Value), W p l e R s m args below meth c H locs cells slots Q (F0 m (pc + 1) la (bw_tr g (f x) :: r)) → W p l e R s m args below meth c H locs cells slots Q (F0 m pc la (.long x :: r)))
    (hq : bq_j1 f pc ls st h = some k) (K : bw_at p l e R s m args below meth c Q D cA g nL cells slots k) : bw_at p l e R s m args below meth c Q D cA g nL cells slots (pc, ls, st, h) := by
  unfold bq_j1 at hq
  split at hq
  · cases hq
    intro H locs la hi hl
    exact row H locs la _ _ (K H locs la hi hl)
  · cases hq
theorem bo_cn {w : Nat} {v : Value} (row : ∀ (H : Heap) (locs : List Loc) (la : Array Slot) (r : List Value), W p l e R s m args below meth c H locs cells slots Q (F0 m (pc + w) la (bw_tr g v :: r)) → W p l e R s m args below meth c H locs cells slots Q (F0 m pc la r))
    (hq : bq_cn w v pc ls st h = some k) (K : bw_at p l e R s m args below meth c Q D cA g nL cells slots k) : bw_at p l e R s m args below meth c Q D cA g nL cells slots (pc, ls, st, h) := by
  unfold bq_cn at hq
  cases hq
  intro H locs la hi hl
  exact row H locs la _ (K H locs la hi hl)
theorem bo_ju (hx : p.tables.exec = Jvm.exec) (hb : c.code = cc) (hdg : decode cc pc = .ok (.lushr, 1))
    (hq : bq_ju pc ls st h = some k) (K : bw_at p l e R s m args below meth c Q D cA g nL cells slots k) : bw_at p l e R s m args below meth c Q D cA g nL cells slots (pc, ls, st, h) := by
  unfold bq_ju at hq
  split at hq
  · cases hq
    intro H locs la hi hl
    exact lv_lushr hx hb hdg rfl (K H locs la hi hl)
  · cases hq
theorem bo_cm (hx : p.tables.exec = Jvm.exec) (hb : c.code = cc) (hdg : decode cc pc = .ok (.lcmp, 1))
    (hq : bq_cm pc ls st h = some k) (K : bw_at p l e R s m args below meth c Q D cA g nL cells slots k) : bw_at p l e R s m args below meth c Q D cA g nL cells slots (pc, ls, st, h) := by
  unfold bq_cm at hq
  split at hq
  · cases hq
    intro H locs la hi hl
    exact W.lcmp hx hb hdg (K H locs la hi hl)
  · cases hq
theorem bo_du (hx : p.tables.exec = Jvm.exec) (hb : c.code = cc) (hdg : decode cc pc = .ok (.dup, 1))
    (hq : bq_du pc ls st h = some k) (K : bw_at p l e R s m args below meth c Q D cA g nL cells slots k) : bw_at p l e R s m args below meth c Q D cA g nL cells slots (pc, ls, st, h) := by
  unfold bq_du at hq
  split at hq
  · split at hq
    · rename_i hc
      cases hq
      intro H locs la hi hl
      exact lv_dup hx hb hdg (by rw [bw_tr_cat]; exact hc) (K H locs la hi hl)
    · cases hq
  · cases hq
theorem bo_d2 (hx : p.tables.exec = Jvm.exec) (hb : c.code = cc) (hdg : decode cc pc = .ok (.dup2, 1))
    (hq : bq_d2 pc ls st h = some k) (K : bw_at p l e R s m args below meth c Q D cA g nL cells slots k) : bw_at p l e R s m args below meth c Q D cA g nL cells slots (pc, ls, st, h) := by
  unfold bq_d2 at hq
  split at hq
  · split at hq
    · rename_i hc
      cases hq
      intro H locs la hi hl
      exact lv_dup2_11 hx hb hdg (by rw [bw_tr_cat]; exact hc.1) (by rw [bw_tr_cat]; exact hc.2) (K H locs la hi hl)
    · cases hq
  · cases hq
theorem bo_go {off : Int} (hx : p.tables.exec = Jvm.exec) (hb : c.code = cc) (hdg : decode cc pc = .ok (.goto off, 3))
    (hq : bq_go off pc ls st h = some k) (K : bw_at p l e R s m args below meth c Q D cA g nL cells slots k) : bw_at p l e R s m args below meth c Q D cA g nL cells slots (pc, ls, st, h) := by
  unfold bq_go at hq
  split at hq
  · rename_i q hj
    cases hq
    intro H locs la hi hl
    exact lv_goto hx hb hdg (bw_jp_ok hj) (K H locs la hi hl)
  · cases hq
theorem bo_if {d : Int32 → Bool} {off : Int} (row : ∀ (H : Heap) (locs : List Loc) (la : Array Slot) (x : Int32) (r : List Value) (q : Nat), (pc : Int) + off = (q : Int) → (d x = true → W p l e R s m args below meth c H locs cells slots Q (F0 m q la r)) → (¬ d x = true → W p l e R s m args below meth c H locs cells slots Q (F0 m (pc + 3) la r)) → W p l e R s m args below meth c H locs cells slots Q (F0 m pc la (.int x :: r)))
    (hq : bq_if d off pc ls st h = some k) (K : bw_at p l e R s m args below meth c Q D cA g nL cells slots k) : bw_at p l e R s m args below meth c Q D cA g nL cells slots (pc, ls, st, h) := by
  unfold bq_if at hq
  split at hq
  · split at hq
    · rename_i q hj
      cases hq
      intro H locs la hi hl
      refine row H locs la _ _ q (bw_jp_ok hj) (fun hd => ?_) (fun hd => ?_)
      · have := K H locs la hi hl
        rw [if_pos hd] at this
        exact this
      · have := K H locs la hi hl
        rw [if_neg hd] at this
        exact this
    · cases hq
  · cases hq
theorem bo_cp {d : Int32 → Int32 → Bool} {off : Int} (row : ∀ (H : Heap) (locs : List Loc) (la : Array Slot) (x y : Int32) (r : List Value) (q : Nat), (pc : Int) + off = (q : Int) → (d x y = true → W p l e R s m args below meth c H locs cells slots Q (F0 m q la r)) → (¬ d x y = true → W p l e R s m args below meth c H locs cells slots Q (F0 m (pc + 3) la r)) → W p l e R s m args below meth c H locs cells slots Q (F0 m pc la (.int y :: .int x :: r)))
    (hq : bq_cp d off pc ls st h = some k) (K : bw_at p l e R s m args below meth c Q D cA g nL cells slots k) : bw_at p l e R s m args below meth c Q D cA g nL cells slots (pc, ls, st, h) := by
  unfold bq_cp at hq
  split at hq
  · split at hq
    · rename_i q hj
      cases hq
      intro H locs la hi hl
      refine row H locs la _ _ _ q (bw_jp_ok hj) (fun hd => ?_) (fun hd => ?_)
      · have := K H locs la hi hl
        rw [if_pos hd] at this
        exact this
      · have := K H locs la hi hl
        rw [if_neg hd] at this
        exact this
    · cases hq
  · cases hq
theorem bo_nu {off : Int} (hx : p.tables.exec = Jvm.exec) (hb : c.code = cc) (hdg : decode cc pc = .ok (.ifnull off, 3))
    (hq : bq_nu off pc ls st h = some k) (K : bw_at p l e R s m args below meth c Q D cA g nL cells slots k) : bw_at p l e R s m args below meth c Q D cA g nL cells slots (pc, ls, st, h) := by
  unfold bq_nu at hq
  split at hq
  · split at hq
    · rename_i q hj
      cases hq
      intro H locs la hi hl
      exact lv_ifnullN hx hb hdg (bw_jp_ok hj) (K H locs la hi hl)
    · cases hq
  · cases hq
    intro H locs la hi hl
    exact lv_ifnull hx hb hdg (K H locs la hi hl)
  · cases hq
theorem bo_nn {off : Int} (hx : p.tables.exec = Jvm.exec) (hb : c.code = cc) (hdg : decode cc pc = .ok (.ifnonnull off, 3))
    (hq : bq_nn off pc ls st h = some k) (K : bw_at p l e R s m args below meth c Q D cA g nL cells slots k) : bw_at p l e R s m args below meth c Q D cA g nL cells slots (pc, ls, st, h) := by
  unfold bq_nn at hq
  split at hq
  · split at hq
    · rename_i q hj
      cases hq
      intro H locs la hi hl
      exact lv_ifnonnull hx hb hdg (bw_jp_ok hj) (K H locs la hi hl)
    · cases hq
  · cases hq
    intro H locs la hi hl
    exact lv_ifnonnullN hx hb hdg (K H locs la hi hl)
  · cases hq
theorem bo_ts {df lo hi : Int} {offs : Array Int} {len : Nat} (hx : p.tables.exec = Jvm.exec) (hb : c.code = cc) (hdg : decode cc pc = .ok (.tableswitch df lo hi offs, len))
    (hq : bq_ts df lo hi offs pc ls st h = some k) (K : bw_at p l e R s m args below meth c Q D cA g nL cells slots k) : bw_at p l e R s m args below meth c Q D cA g nL cells slots (pc, ls, st, h) := by
  unfold bq_ts at hq
  split at hq
  · split at hq
    · rename_i hout
      split at hq
      · rename_i q hj
        cases hq
        intro H locs la hi hl
        exact lv_tableOut hx hb hdg hout (bw_jp_ok hj) (K H locs la hi hl)
      · cases hq
    · rename_i hout
      split at hq
      · rename_i off ho
        split at hq
        · rename_i q hj
          cases hq
          intro H locs la hi hl
          exact lv_tableIn hx hb hdg (fun q => hout (Or.inl q)) (fun q => hout (Or.inr q)) ho (bw_jp_ok hj) (K H locs la hi hl)
        · cases hq
      · cases hq
  · cases hq
end BO
end
section
/-! the tables hold: each link is a word of the claim's tables -/
theorem bw_FT_ok : bw_FT.all (fun e => decide (e.2.2.1 < 9) && decide (e.2.2.2.1 < bw_N e.2.2.1) && decide (lw_tbl[e.2.2.2.2.2]? = some (if e.2.2.2.2.1 = true then Cond.fieldLinkNest (bw_R e.1) e.2.1 (bw_T e.2.2.1 e.2.2.2.1).1 (bw_T e.2.2.1 e.2.2.2.1).2.1 (bw_T e.2.2.1 e.2.2.2.1).2.2.1 "BearWitness" else Cond.fieldLink (bw_R e.1) e.2.1 (bw_T e.2.2.1 e.2.2.2.1).1 (bw_T e.2.2.1 e.2.2.2.1).2.1 (bw_T e.2.2.1 e.2.2.2.1).2.2.1))) = true := by decide +kernel
theorem bw_FT_ok2 : bw_FT.all (fun e => !e.2.2.2.2.1 || decide (e.2.2.1 ≠ e.1)) = true := by decide +kernel
theorem bw_MT_ok : bw_MT.all (fun e => decide (lw_tbl[e.2.2.2.2.1]? = some (if e.2.2.1 % 2 = 1 then Cond.methodLinkNest (bw_R e.1) e.2.1 e.2.2.2.1.2.1 "BearWitness" else Cond.methodLink (bw_R e.1) e.2.1 e.2.2.2.1.2.1)) && decide (lw_tbl[e.2.2.2.2.2.1]? = some (if e.2.2.1 ≤ 1 then Cond.static e.2.2.2.1.2.1 else Cond.instanceMethod e.2.2.2.1.2.1)) && (decide (e.2.2.1 ≠ 2 ∧ e.2.2.1 ≠ 3) || decide (lw_tbl[e.2.2.2.2.2.2.1]? = some (Cond.selects e.2.2.2.1.2.1.cls e.2.2.2.1.2.1 e.2.2.2.1.2.1))) && decide (lw_tbl[e.2.2.2.2.2.2.2.1]? = some (Cond.initialized e.2.2.2.1.2.1.cls))) = true := by decide +kernel
theorem bw_MT_ok2 : bw_MT.all (fun e => decide (e.2.2.1 ≤ 5) && decide (e.2.2.2.1.2.1.cls ≠ "java/lang/invoke/MethodHandle" ∧ e.2.2.2.1.2.1.cls ≠ "java/lang/invoke/VarHandle")) = true := by decide +kernel
theorem bw_MT_ok3 : bw_MT.all (fun e => decide (bw_R e.2.2.2.1.1 = e.2.2.2.1.2.1.cls)) = true := by decide +kernel
theorem bw_MT_ok4 : bw_MT.all (fun e => decide ((parseMethodDescriptor e.2.2.2.1.2.1.desc).map (fun d => d.parameters.length) = some e.2.2.2.1.2.2.2.2.2)) = true := by decide +kernel
theorem bw_MT_ok5 : bw_MT.all (fun e => Jvm.plainName e.2.2.2.1.2.1.cls) = true := by decide +kernel
def bw_all {α : Type} (P : α → Prop) : List α → Prop
  | [] => True
  | a :: l => P a ∧ bw_all P l
theorem bw_all_mem {α : Type} {P : α → Prop} : ∀ {l : List α}, bw_all P l → ∀ a ∈ l, P a
  | [], _, a, h => absurd h List.not_mem_nil
  | b :: l, h, a, ha => by
    rcases List.mem_cons.mp ha with rfl | ha
    · exact h.1
    · exact bw_all_mem h.2 a ha
abbrev bw_cd (M : bw_M) : Cond := Cond.code M.2.1 M.2.2.1 M.2.2.2.1 M.2.2.2.2.1
set_option maxRecDepth 100000 in
theorem cd_X4_init : bw_cd bm_X4_init ∈ lw_tbl := List.mem_of_getElem? (i := 133) rfl
set_option maxRecDepth 100000 in
theorem cd_X1_init : bw_cd bm_X1_init ∈ lw_tbl := List.mem_of_getElem? (i := 167) rfl
set_option maxRecDepth 100000 in
theorem cd_X3_init : bw_cd bm_X3_init ∈ lw_tbl := List.mem_of_getElem? (i := 228) rfl
set_option maxRecDepth 100000 in
theorem cd_X2_init : bw_cd bm_X2_init ∈ lw_tbl := List.mem_of_getElem? (i := 244) rfl
set_option maxRecDepth 100000 in
theorem cd_X5_init : bw_cd bm_X5_init ∈ lw_tbl := List.mem_of_getElem? (i := 265) rfl
set_option maxRecDepth 100000 in
theorem cd_X6_init : bw_cd bm_X6_init ∈ lw_tbl := List.mem_of_getElem? (i := 283) rfl
set_option maxRecDepth 100000 in
theorem cd_X0_init : bw_cd bm_X0_init ∈ lw_tbl := List.mem_of_getElem? (i := 139) rfl
set_option maxRecDepth 100000 in
theorem cd_X7_missingPlace : bw_cd bm_X7_missingPlace ∈ lw_tbl := List.mem_of_getElem? (i := 380) rfl
set_option maxRecDepth 100000 in
theorem cd_X7_isOfKind : bw_cd bm_X7_isOfKind ∈ lw_tbl := List.mem_of_getElem? (i := 548) rfl
set_option maxRecDepth 100000 in
theorem cd_X7_isThing : bw_cd bm_X7_isThing ∈ lw_tbl := List.mem_of_getElem? (i := 621) rfl
set_option maxRecDepth 100000 in
theorem cd_J6_bitCount_0f7a4 : bw_cd bm_J6_bitCount_0f7a4 ∈ lw_tbl := List.mem_of_getElem? (i := 560) rfl
set_option maxRecDepth 100000 in
theorem cd_X7_isIn : bw_cd bm_X7_isIn ∈ lw_tbl := List.mem_of_getElem? (i := 535) rfl
set_option maxRecDepth 100000 in
theorem cd_X7_isFewer : bw_cd bm_X7_isFewer ∈ lw_tbl := List.mem_of_getElem? (i := 720) rfl
set_option maxRecDepth 100000 in
theorem cd_X7_leastOf : bw_cd bm_X7_leastOf ∈ lw_tbl := List.mem_of_getElem? (i := 771) rfl
set_option maxRecDepth 100000 in
theorem cd_J13_bitCount_95d88 : bw_cd bm_J13_bitCount_95d88 ∈ lw_tbl := List.mem_of_getElem? (i := 774) rfl
set_option maxRecDepth 100000 in
theorem cd_X2_setsWith : bw_cd bm_X2_setsWith ∈ lw_tbl := List.mem_of_getElem? (i := 761) rfl
set_option maxRecDepth 100000 in
theorem cd_X7_isChance : bw_cd bm_X7_isChance ∈ lw_tbl := List.mem_of_getElem? (i := 842) rfl
set_option maxRecDepth 100000 in
theorem cd_X7_actOfLot : bw_cd bm_X7_actOfLot ∈ lw_tbl := List.mem_of_getElem? (i := 866) rfl
set_option maxRecDepth 100000 in
theorem cd_X7_commonDivisor : bw_cd bm_X7_commonDivisor ∈ lw_tbl := List.mem_of_getElem? (i := 784) rfl
set_option maxRecDepth 100000 in
theorem cd_X4_isNumber : bw_cd bm_X4_isNumber ∈ lw_tbl := List.mem_of_getElem? (i := 359) rfl
set_option maxRecDepth 100000 in
theorem cd_X7_found : bw_cd bm_X7_found ∈ lw_tbl := List.mem_of_getElem? (i := 363) rfl
set_option maxRecDepth 100000 in
theorem cd_X4_make : bw_cd bm_X4_make ∈ lw_tbl := List.mem_of_getElem? (i := 372) rfl
set_option maxRecDepth 100000 in
theorem cd_X4_get : bw_cd bm_X4_get ∈ lw_tbl := List.mem_of_getElem? (i := 397) rfl
set_option maxRecDepth 100000 in
theorem cd_X4_set : bw_cd bm_X4_set ∈ lw_tbl := List.mem_of_getElem? (i := 402) rfl
set_option maxRecDepth 100000 in
theorem cd_X4_has : bw_cd bm_X4_has ∈ lw_tbl := List.mem_of_getElem? (i := 384) rfl
set_option maxRecDepth 100000 in
theorem cd_X4_drop : bw_cd bm_X4_drop ∈ lw_tbl := List.mem_of_getElem? (i := 414) rfl
set_option maxRecDepth 100000 in
theorem cd_X4_hasSpan : bw_cd bm_X4_hasSpan ∈ lw_tbl := List.mem_of_getElem? (i := 422) rfl
set_option maxRecDepth 100000 in
theorem cd_X4_move : bw_cd bm_X4_move ∈ lw_tbl := List.mem_of_getElem? (i := 426) rfl
set_option maxRecDepth 100000 in
theorem cd_X4_sizeOf : bw_cd bm_X4_sizeOf ∈ lw_tbl := List.mem_of_getElem? (i := 388) rfl
set_option maxRecDepth 100000 in
theorem cd_X4_sumOf : bw_cd bm_X4_sumOf ∈ lw_tbl := List.mem_of_getElem? (i := 443) rfl
set_option maxRecDepth 100000 in
theorem cd_X3_readInto : bw_cd bm_X3_readInto ∈ lw_tbl := List.mem_of_getElem? (i := 460) rfl
set_option maxRecDepth 100000 in
theorem cd_X1_take : bw_cd bm_X1_take ∈ lw_tbl := List.mem_of_getElem? (i := 506) rfl
set_option maxRecDepth 100000 in
theorem cd_X7_forgetKept : bw_cd bm_X7_forgetKept ∈ lw_tbl := List.mem_of_getElem? (i := 515) rfl
set_option maxRecDepth 100000 in
theorem cd_X1_hasBear : bw_cd bm_X1_hasBear ∈ lw_tbl := List.mem_of_getElem? (i := 528) rfl
set_option maxRecDepth 100000 in
theorem cd_X7_ofBear : bw_cd bm_X7_ofBear ∈ lw_tbl := List.mem_of_getElem? (i := 532) rfl
set_option maxRecDepth 100000 in
theorem cd_X0_get : bw_cd bm_X0_get ∈ lw_tbl := List.mem_of_getElem? (i := 367) rfl
set_option maxRecDepth 100000 in
theorem cd_X1_markOf : bw_cd bm_X1_markOf ∈ lw_tbl := List.mem_of_getElem? (i := 557) rfl
set_option maxRecDepth 100000 in
theorem cd_X7_answerDeed : bw_cd bm_X7_answerDeed ∈ lw_tbl := List.mem_of_getElem? (i := 574) rfl
set_option maxRecDepth 100000 in
theorem cd_X1_takeBackTo : bw_cd bm_X1_takeBackTo ∈ lw_tbl := List.mem_of_getElem? (i := 606) rfl
set_option maxRecDepth 100000 in
theorem cd_X7_keptIn : bw_cd bm_X7_keptIn ∈ lw_tbl := List.mem_of_getElem? (i := 519) rfl
set_option maxRecDepth 100000 in
theorem cd_X1_answerOf : bw_cd bm_X1_answerOf ∈ lw_tbl := List.mem_of_getElem? (i := 625) rfl
set_option maxRecDepth 100000 in
theorem cd_X1_isSet : bw_cd bm_X1_isSet ∈ lw_tbl := List.mem_of_getElem? (i := 641) rfl
set_option maxRecDepth 100000 in
theorem cd_X5_hear : bw_cd bm_X5_hear ∈ lw_tbl := List.mem_of_getElem? (i := 649) rfl
set_option maxRecDepth 100000 in
theorem cd_X5_tiedBy : bw_cd bm_X5_tiedBy ∈ lw_tbl := List.mem_of_getElem? (i := 657) rfl
set_option maxRecDepth 100000 in
theorem cd_X5_shownBy : bw_cd bm_X5_shownBy ∈ lw_tbl := List.mem_of_getElem? (i := 670) rfl
set_option maxRecDepth 100000 in
theorem cd_X1_allBears : bw_cd bm_X1_allBears ∈ lw_tbl := List.mem_of_getElem? (i := 645) rfl
set_option maxRecDepth 100000 in
theorem cd_X6_open : bw_cd bm_X6_open ∈ lw_tbl := List.mem_of_getElem? (i := 684) rfl
set_option maxRecDepth 100000 in
theorem cd_X6_fewestPresses : bw_cd bm_X6_fewestPresses ∈ lw_tbl := List.mem_of_getElem? (i := 700) rfl
set_option maxRecDepth 100000 in
theorem cd_X5_toldBy : bw_cd bm_X5_toldBy ∈ lw_tbl := List.mem_of_getElem? (i := 666) rfl
set_option maxRecDepth 100000 in
theorem cd_X5_clash : bw_cd bm_X5_clash ∈ lw_tbl := List.mem_of_getElem? (i := 728) rfl
set_option maxRecDepth 100000 in
theorem cd_X5_hasRivals : bw_cd bm_X5_hasRivals ∈ lw_tbl := List.mem_of_getElem? (i := 736) rfl
set_option maxRecDepth 100000 in
theorem cd_X7_readLooks : bw_cd bm_X7_readLooks ∈ lw_tbl := List.mem_of_getElem? (i := 744) rfl
set_option maxRecDepth 100000 in
theorem cd_X2_fittingSets : bw_cd bm_X2_fittingSets ∈ lw_tbl := List.mem_of_getElem? (i := 756) rfl
set_option maxRecDepth 100000 in
theorem cd_X7_tellPart : bw_cd bm_X7_tellPart ∈ lw_tbl := List.mem_of_getElem? (i := 781) rfl
set_option maxRecDepth 100000 in
theorem cd_X7_greatestPart : bw_cd bm_X7_greatestPart ∈ lw_tbl := List.mem_of_getElem? (i := 798) rfl
set_option maxRecDepth 100000 in
theorem cd_X2_fitKind : bw_cd bm_X2_fitKind ∈ lw_tbl := List.mem_of_getElem? (i := 808) rfl
set_option maxRecDepth 100000 in
theorem cd_X2_whoSpoke : bw_cd bm_X2_whoSpoke ∈ lw_tbl := List.mem_of_getElem? (i := 816) rfl
set_option maxRecDepth 100000 in
theorem cd_X2_whoKeptBack : bw_cd bm_X2_whoKeptBack ∈ lw_tbl := List.mem_of_getElem? (i := 820) rfl
set_option maxRecDepth 100000 in
theorem cd_X6_playOut : bw_cd bm_X6_playOut ∈ lw_tbl := List.mem_of_getElem? (i := 830) rfl
set_option maxRecDepth 100000 in
theorem cd_X7_weightOf : bw_cd bm_X7_weightOf ∈ lw_tbl := List.mem_of_getElem? (i := 846) rfl
set_option maxRecDepth 100000 in
theorem cd_X7_allWeight : bw_cd bm_X7_allWeight ∈ lw_tbl := List.mem_of_getElem? (i := 850) rfl
set_option maxRecDepth 100000 in
theorem cd_X1_canBe : bw_cd bm_X1_canBe ∈ lw_tbl := List.mem_of_getElem? (i := 578) rfl
set_option maxRecDepth 100000 in
theorem cd_X1_commit : bw_cd bm_X1_commit ∈ lw_tbl := List.mem_of_getElem? (i := 582) rfl
set_option maxRecDepth 100000 in
theorem cd_X7_shownByAll : bw_cd bm_X7_shownByAll ∈ lw_tbl := List.mem_of_getElem? (i := 870) rfl
set_option maxRecDepth 100000 in
theorem cd_X0_sum : bw_cd bm_X0_sum ∈ lw_tbl := List.mem_of_getElem? (i := 890) rfl
set_option maxRecDepth 100000 in
theorem cd_X1_thoseOfKind : bw_cd bm_X1_thoseOfKind ∈ lw_tbl := List.mem_of_getElem? (i := 894) rfl
set_option maxRecDepth 100000 in
theorem cd_X4_thoseThere : bw_cd bm_X4_thoseThere ∈ lw_tbl := List.mem_of_getElem? (i := 898) rfl
set_option maxRecDepth 100000 in
theorem cd_X7_keptCourts : bw_cd bm_X7_keptCourts ∈ lw_tbl := List.mem_of_getElem? (i := 903) rfl
set_option maxRecDepth 100000 in
theorem cd_X7_count : bw_cd bm_X7_count ∈ lw_tbl := List.mem_of_getElem? (i := 886) rfl
set_option maxRecDepth 100000 in
theorem cd_X4_digestFrom : bw_cd bm_X4_digestFrom ∈ lw_tbl := List.mem_of_getElem? (i := 922) rfl
set_option maxRecDepth 100000 in
theorem cd_X0_set : bw_cd bm_X0_set ∈ lw_tbl := List.mem_of_getElem? (i := 149) rfl
set_option maxRecDepth 100000 in
theorem cd_X4_hasPlace : bw_cd bm_X4_hasPlace ∈ lw_tbl := List.mem_of_getElem? (i := 393) rfl
set_option maxRecDepth 100000 in
theorem cd_X1_toldOf : bw_cd bm_X1_toldOf ∈ lw_tbl := List.mem_of_getElem? (i := 539) rfl
set_option maxRecDepth 100000 in
theorem cd_X1_clear : bw_cd bm_X1_clear ∈ lw_tbl := List.mem_of_getElem? (i := 465) rfl
set_option maxRecDepth 100000 in
theorem cd_X2_readFrom : bw_cd bm_X2_readFrom ∈ lw_tbl := List.mem_of_getElem? (i := 748) rfl
set_option maxRecDepth 100000 in
theorem cd_X1_answerIf : bw_cd bm_X1_answerIf ∈ lw_tbl := List.mem_of_getElem? (i := 629) rfl
set_option maxRecDepth 100000 in
theorem cd_X1_onesOf : bw_cd bm_X1_onesOf ∈ lw_tbl := List.mem_of_getElem? (i := 633) rfl
set_option maxRecDepth 100000 in
theorem cd_X0_take : bw_cd bm_X0_take ∈ lw_tbl := List.mem_of_getElem? (i := 510) rfl
set_option maxRecDepth 100000 in
theorem cd_X1_change : bw_cd bm_X1_change ∈ lw_tbl := List.mem_of_getElem? (i := 586) rfl
set_option maxRecDepth 100000 in
theorem cd_X1_seenBy : bw_cd bm_X1_seenBy ∈ lw_tbl := List.mem_of_getElem? (i := 544) rfl
set_option maxRecDepth 100000 in
theorem cd_X2_fits : bw_cd bm_X2_fits ∈ lw_tbl := List.mem_of_getElem? (i := 767) rfl
set_option maxRecDepth 100000 in
theorem cd_X3_kindOfLetter : bw_cd bm_X3_kindOfLetter ∈ lw_tbl := List.mem_of_getElem? (i := 493) rfl
set_option maxRecDepth 100000 in
theorem cd_X3_skipBlanks : bw_cd bm_X3_skipBlanks ∈ lw_tbl := List.mem_of_getElem? (i := 469) rfl
set_option maxRecDepth 100000 in
theorem cd_X3_byteHere : bw_cd bm_X3_byteHere ∈ lw_tbl := List.mem_of_getElem? (i := 474) rfl
set_option maxRecDepth 100000 in
theorem cd_X3_twoFigures : bw_cd bm_X3_twoFigures ∈ lw_tbl := List.mem_of_getElem? (i := 478) rfl
set_option maxRecDepth 100000 in
theorem cd_X3_readBear : bw_cd bm_X3_readBear ∈ lw_tbl := List.mem_of_getElem? (i := 490) rfl
set_option maxRecDepth 100000 in
theorem cd_X3_fail : bw_cd bm_X3_fail ∈ lw_tbl := List.mem_of_getElem? (i := 486) rfl
set_option maxRecDepth 100000 in
theorem cd_X3_oneFigure : bw_cd bm_X3_oneFigure ∈ lw_tbl := List.mem_of_getElem? (i := 482) rfl
set_option maxRecDepth 100000 in
theorem cd_X1_seat : bw_cd bm_X1_seat ∈ lw_tbl := List.mem_of_getElem? (i := 497) rfl
set_option maxRecDepth 100000 in
theorem cd_X0_move : bw_cd bm_X0_move ∈ lw_tbl := List.mem_of_getElem? (i := 431) rfl
set_option maxRecDepth 100000 in
theorem cd_X5_balance : bw_cd bm_X5_balance ∈ lw_tbl := List.mem_of_getElem? (i := 661) rfl
set_option maxRecDepth 100000 in
theorem cd_X6_worthIf : bw_cd bm_X6_worthIf ∈ lw_tbl := List.mem_of_getElem? (i := 690) rfl
set_option maxRecDepth 100000 in
theorem cd_X6_worthNow : bw_cd bm_X6_worthNow ∈ lw_tbl := List.mem_of_getElem? (i := 696) rfl
set_option maxRecDepth 100000 in
theorem cd_X6_pressOn : bw_cd bm_X6_pressOn ∈ lw_tbl := List.mem_of_getElem? (i := 704) rfl
set_option maxRecDepth 100000 in
theorem cd_X6_canWear : bw_cd bm_X6_canWear ∈ lw_tbl := List.mem_of_getElem? (i := 708) rfl
set_option maxRecDepth 100000 in
theorem cd_X6_wearBy : bw_cd bm_X6_wearBy ∈ lw_tbl := List.mem_of_getElem? (i := 712) rfl
set_option maxRecDepth 100000 in
theorem cd_X7_init : bw_cd bm_X7_init ∈ lw_tbl := List.mem_of_getElem? (i := 125) rfl
set_option maxRecDepth 100000 in
theorem cd_X8_init : bw_cd bm_X8_init ∈ lw_tbl := List.mem_of_getElem? (i := 928) rfl
set_option maxRecDepth 100000 in
theorem cd_X7_row : bw_cd bm_X7_row ∈ lw_tbl := List.mem_of_getElem? (i := 355) rfl
set_option maxRecDepth 100000 in
theorem cd_X8_row : bw_cd bm_X8_row ∈ lw_tbl := List.mem_of_getElem? (i := 995) rfl
set_option maxRecDepth 100000 in
theorem cd_X7_lay : bw_cd bm_X7_lay ∈ lw_tbl := List.mem_of_getElem? (i := 377) rfl
set_option maxRecDepth 100000 in
theorem cd_X8_lay : bw_cd bm_X8_lay ∈ lw_tbl := List.mem_of_getElem? (i := 1010) rfl
set_option maxRecDepth 100000 in
theorem cd_X7_at : bw_cd bm_X7_at ∈ lw_tbl := List.mem_of_getElem? (i := 406) rfl
set_option maxRecDepth 100000 in
theorem cd_X8_at : bw_cd bm_X8_at ∈ lw_tbl := List.mem_of_getElem? (i := 1014) rfl
set_option maxRecDepth 100000 in
theorem cd_X7_tear : bw_cd bm_X7_tear ∈ lw_tbl := List.mem_of_getElem? (i := 410) rfl
set_option maxRecDepth 100000 in
theorem cd_X8_tear : bw_cd bm_X8_tear ∈ lw_tbl := List.mem_of_getElem? (i := 1023) rfl
set_option maxRecDepth 100000 in
theorem cd_X7_copy : bw_cd bm_X7_copy ∈ lw_tbl := List.mem_of_getElem? (i := 418) rfl
set_option maxRecDepth 100000 in
theorem cd_X8_copy : bw_cd bm_X8_copy ∈ lw_tbl := List.mem_of_getElem? (i := 1027) rfl
set_option maxRecDepth 100000 in
theorem cd_X7_mean : bw_cd bm_X7_mean ∈ lw_tbl := List.mem_of_getElem? (i := 438) rfl
set_option maxRecDepth 100000 in
theorem cd_X8_mean : bw_cd bm_X8_mean ∈ lw_tbl := List.mem_of_getElem? (i := 1031) rfl
set_option maxRecDepth 100000 in
theorem cd_X7_text : bw_cd bm_X7_text ∈ lw_tbl := List.mem_of_getElem? (i := 448) rfl
set_option maxRecDepth 100000 in
theorem cd_X8_text : bw_cd bm_X8_text ∈ lw_tbl := List.mem_of_getElem? (i := 1035) rfl
set_option maxRecDepth 100000 in
theorem cd_X7_put : bw_cd bm_X7_put ∈ lw_tbl := List.mem_of_getElem? (i := 452) rfl
set_option maxRecDepth 100000 in
theorem cd_X8_put : bw_cd bm_X8_put ∈ lw_tbl := List.mem_of_getElem? (i := 1043) rfl
set_option maxRecDepth 100000 in
theorem cd_X7_fault : bw_cd bm_X7_fault ∈ lw_tbl := List.mem_of_getElem? (i := 456) rfl
set_option maxRecDepth 100000 in
theorem cd_X8_fault : bw_cd bm_X8_fault ∈ lw_tbl := List.mem_of_getElem? (i := 1047) rfl
set_option maxRecDepth 100000 in
theorem cd_X7_court : bw_cd bm_X7_court ∈ lw_tbl := List.mem_of_getElem? (i := 502) rfl
set_option maxRecDepth 100000 in
theorem cd_X8_court : bw_cd bm_X8_court ∈ lw_tbl := List.mem_of_getElem? (i := 1083) rfl
set_option maxRecDepth 100000 in
theorem cd_X7_bear : bw_cd bm_X7_bear ∈ lw_tbl := List.mem_of_getElem? (i := 524) rfl
set_option maxRecDepth 100000 in
theorem cd_X8_bear : bw_cd bm_X8_bear ∈ lw_tbl := List.mem_of_getElem? (i := 1090) rfl
set_option maxRecDepth 100000 in
theorem cd_X7_mark : bw_cd bm_X7_mark ∈ lw_tbl := List.mem_of_getElem? (i := 552) rfl
set_option maxRecDepth 100000 in
theorem cd_X8_mark : bw_cd bm_X8_mark ∈ lw_tbl := List.mem_of_getElem? (i := 1127) rfl
set_option maxRecDepth 100000 in
theorem cd_X7_press : bw_cd bm_X7_press ∈ lw_tbl := List.mem_of_getElem? (i := 570) rfl
set_option maxRecDepth 100000 in
theorem cd_X8_press : bw_cd bm_X8_press ∈ lw_tbl := List.mem_of_getElem? (i := 1141) rfl
set_option maxRecDepth 100000 in
theorem cd_X7_mend : bw_cd bm_X7_mend ∈ lw_tbl := List.mem_of_getElem? (i := 590) rfl
set_option maxRecDepth 100000 in
theorem cd_X8_mend : bw_cd bm_X8_mend ∈ lw_tbl := List.mem_of_getElem? (i := 1159) rfl
set_option maxRecDepth 100000 in
theorem cd_X7_eye : bw_cd bm_X7_eye ∈ lw_tbl := List.mem_of_getElem? (i := 594) rfl
set_option maxRecDepth 100000 in
theorem cd_X8_eye : bw_cd bm_X8_eye ∈ lw_tbl := List.mem_of_getElem? (i := 1163) rfl
set_option maxRecDepth 100000 in
theorem cd_X7_turn : bw_cd bm_X7_turn ∈ lw_tbl := List.mem_of_getElem? (i := 598) rfl
set_option maxRecDepth 100000 in
theorem cd_X8_turn : bw_cd bm_X8_turn ∈ lw_tbl := List.mem_of_getElem? (i := 1167) rfl
set_option maxRecDepth 100000 in
theorem cd_X7_undo : bw_cd bm_X7_undo ∈ lw_tbl := List.mem_of_getElem? (i := 602) rfl
set_option maxRecDepth 100000 in
theorem cd_X8_undo : bw_cd bm_X8_undo ∈ lw_tbl := List.mem_of_getElem? (i := 1171) rfl
set_option maxRecDepth 100000 in
theorem cd_X7_keep : bw_cd bm_X7_keep ∈ lw_tbl := List.mem_of_getElem? (i := 610) rfl
set_option maxRecDepth 100000 in
theorem cd_X8_keep : bw_cd bm_X8_keep ∈ lw_tbl := List.mem_of_getElem? (i := 1175) rfl
set_option maxRecDepth 100000 in
theorem cd_X7_on : bw_cd bm_X7_on ∈ lw_tbl := List.mem_of_getElem? (i := 614) rfl
set_option maxRecDepth 100000 in
theorem cd_X8_on : bw_cd bm_X8_on ∈ lw_tbl := List.mem_of_getElem? (i := 1183) rfl
set_option maxRecDepth 100000 in
theorem cd_X7_tells : bw_cd bm_X7_tells ∈ lw_tbl := List.mem_of_getElem? (i := 618) rfl
set_option maxRecDepth 100000 in
theorem cd_X8_tells : bw_cd bm_X8_tells ∈ lw_tbl := List.mem_of_getElem? (i := 1187) rfl
set_option maxRecDepth 100000 in
theorem cd_X7_shown : bw_cd bm_X7_shown ∈ lw_tbl := List.mem_of_getElem? (i := 637) rfl
set_option maxRecDepth 100000 in
theorem cd_X8_shown : bw_cd bm_X8_shown ∈ lw_tbl := List.mem_of_getElem? (i := 1194) rfl
set_option maxRecDepth 100000 in
theorem cd_X7_call : bw_cd bm_X7_call ∈ lw_tbl := List.mem_of_getElem? (i := 674) rfl
set_option maxRecDepth 100000 in
theorem cd_X8_call : bw_cd bm_X8_call ∈ lw_tbl := List.mem_of_getElem? (i := 1210) rfl
set_option maxRecDepth 100000 in
theorem cd_X7_shake : bw_cd bm_X7_shake ∈ lw_tbl := List.mem_of_getElem? (i := 680) rfl
set_option maxRecDepth 100000 in
theorem cd_X8_shake : bw_cd bm_X8_shake ∈ lw_tbl := List.mem_of_getElem? (i := 1215) rfl
set_option maxRecDepth 100000 in
theorem cd_X7_cover : bw_cd bm_X7_cover ∈ lw_tbl := List.mem_of_getElem? (i := 716) rfl
set_option maxRecDepth 100000 in
theorem cd_X8_cover : bw_cd bm_X8_cover ∈ lw_tbl := List.mem_of_getElem? (i := 1227) rfl
set_option maxRecDepth 100000 in
theorem cd_X7_rivals : bw_cd bm_X7_rivals ∈ lw_tbl := List.mem_of_getElem? (i := 724) rfl
set_option maxRecDepth 100000 in
theorem cd_X8_rivals : bw_cd bm_X8_rivals ∈ lw_tbl := List.mem_of_getElem? (i := 1232) rfl
set_option maxRecDepth 100000 in
theorem cd_X7_apart : bw_cd bm_X7_apart ∈ lw_tbl := List.mem_of_getElem? (i := 732) rfl
set_option maxRecDepth 100000 in
theorem cd_X8_apart : bw_cd bm_X8_apart ∈ lw_tbl := List.mem_of_getElem? (i := 1240) rfl
set_option maxRecDepth 100000 in
theorem cd_X7_truths : bw_cd bm_X7_truths ∈ lw_tbl := List.mem_of_getElem? (i := 740) rfl
set_option maxRecDepth 100000 in
theorem cd_X8_truths : bw_cd bm_X8_truths ∈ lw_tbl := List.mem_of_getElem? (i := 1244) rfl
set_option maxRecDepth 100000 in
theorem cd_X7_sure : bw_cd bm_X7_sure ∈ lw_tbl := List.mem_of_getElem? (i := 788) rfl
set_option maxRecDepth 100000 in
theorem cd_X8_sure : bw_cd bm_X8_sure ∈ lw_tbl := List.mem_of_getElem? (i := 1264) rfl
set_option maxRecDepth 100000 in
theorem cd_X7_next : bw_cd bm_X7_next ∈ lw_tbl := List.mem_of_getElem? (i := 794) rfl
set_option maxRecDepth 100000 in
theorem cd_X8_next : bw_cd bm_X8_next ∈ lw_tbl := List.mem_of_getElem? (i := 1268) rfl
set_option maxRecDepth 100000 in
theorem cd_X7_kinds : bw_cd bm_X7_kinds ∈ lw_tbl := List.mem_of_getElem? (i := 804) rfl
set_option maxRecDepth 100000 in
theorem cd_X8_kinds : bw_cd bm_X8_kinds ∈ lw_tbl := List.mem_of_getElem? (i := 1272) rfl
set_option maxRecDepth 100000 in
theorem cd_X7_walls : bw_cd bm_X7_walls ∈ lw_tbl := List.mem_of_getElem? (i := 812) rfl
set_option maxRecDepth 100000 in
theorem cd_X8_walls : bw_cd bm_X8_walls ∈ lw_tbl := List.mem_of_getElem? (i := 1276) rfl
set_option maxRecDepth 100000 in
theorem cd_X7_duel : bw_cd bm_X7_duel ∈ lw_tbl := List.mem_of_getElem? (i := 826) rfl
set_option maxRecDepth 100000 in
theorem cd_X8_duel : bw_cd bm_X8_duel ∈ lw_tbl := List.mem_of_getElem? (i := 1280) rfl
set_option maxRecDepth 100000 in
theorem cd_X7_odds : bw_cd bm_X7_odds ∈ lw_tbl := List.mem_of_getElem? (i := 839) rfl
set_option maxRecDepth 100000 in
theorem cd_X8_odds : bw_cd bm_X8_odds ∈ lw_tbl := List.mem_of_getElem? (i := 1296) rfl
set_option maxRecDepth 100000 in
theorem cd_X7_mid : bw_cd bm_X7_mid ∈ lw_tbl := List.mem_of_getElem? (i := 855) rfl
set_option maxRecDepth 100000 in
theorem cd_X8_mid : bw_cd bm_X8_mid ∈ lw_tbl := List.mem_of_getElem? (i := 1309) rfl
set_option maxRecDepth 100000 in
theorem cd_X7_lots : bw_cd bm_X7_lots ∈ lw_tbl := List.mem_of_getElem? (i := 859) rfl
set_option maxRecDepth 100000 in
theorem cd_X8_lots : bw_cd bm_X8_lots ∈ lw_tbl := List.mem_of_getElem? (i := 1313) rfl
set_option maxRecDepth 100000 in
theorem cd_X7_asked : bw_cd bm_X7_asked ∈ lw_tbl := List.mem_of_getElem? (i := 874) rfl
set_option maxRecDepth 100000 in
theorem cd_X8_asked : bw_cd bm_X8_asked ∈ lw_tbl := List.mem_of_getElem? (i := 1322) rfl
set_option maxRecDepth 100000 in
theorem cd_X7_upper : bw_cd bm_X7_upper ∈ lw_tbl := List.mem_of_getElem? (i := 878) rfl
set_option maxRecDepth 100000 in
theorem cd_X8_upper : bw_cd bm_X8_upper ∈ lw_tbl := List.mem_of_getElem? (i := 1326) rfl
set_option maxRecDepth 100000 in
theorem cd_X7_lower : bw_cd bm_X7_lower ∈ lw_tbl := List.mem_of_getElem? (i := 882) rfl
set_option maxRecDepth 100000 in
theorem cd_X8_lower : bw_cd bm_X8_lower ∈ lw_tbl := List.mem_of_getElem? (i := 1330) rfl
set_option maxRecDepth 100000 in
theorem cd_X8_count : bw_cd bm_X8_count ∈ lw_tbl := List.mem_of_getElem? (i := 1334) rfl
set_option maxRecDepth 100000 in
theorem cd_X7_finding : bw_cd bm_X7_finding ∈ lw_tbl := List.mem_of_getElem? (i := 907) rfl
set_option maxRecDepth 100000 in
theorem cd_X8_finding : bw_cd bm_X8_finding ∈ lw_tbl := List.mem_of_getElem? (i := 1354) rfl
set_option maxRecDepth 100000 in
theorem cd_X7_findings : bw_cd bm_X7_findings ∈ lw_tbl := List.mem_of_getElem? (i := 911) rfl
set_option maxRecDepth 100000 in
theorem cd_X8_findings : bw_cd bm_X8_findings ∈ lw_tbl := List.mem_of_getElem? (i := 1358) rfl
set_option maxRecDepth 100000 in
theorem cd_X7_digest : bw_cd bm_X7_digest ∈ lw_tbl := List.mem_of_getElem? (i := 915) rfl
set_option maxRecDepth 100000 in
theorem cd_X8_digest : bw_cd bm_X8_digest ∈ lw_tbl := List.mem_of_getElem? (i := 1362) rfl
set_option maxRecDepth 100000 in
theorem cd_X8_in : bw_cd bm_X8_in ∈ lw_tbl := List.mem_of_getElem? (i := 1002) rfl
set_option maxRecDepth 100000 in
theorem cd_X8_isRow : bw_cd bm_X8_isRow ∈ lw_tbl := List.mem_of_getElem? (i := 998) rfl
set_option maxRecDepth 100000 in
theorem cd_X8_isText : bw_cd bm_X8_isText ∈ lw_tbl := List.mem_of_getElem? (i := 1038) rfl
set_option maxRecDepth 100000 in
theorem cd_X8_kindBy : bw_cd bm_X8_kindBy ∈ lw_tbl := List.mem_of_getElem? (i := 1079) rfl
set_option maxRecDepth 100000 in
theorem cd_X8_begin : bw_cd bm_X8_begin ∈ lw_tbl := List.mem_of_getElem? (i := 1086) rfl
set_option maxRecDepth 100000 in
theorem cd_X8_has : bw_cd bm_X8_has ∈ lw_tbl := List.mem_of_getElem? (i := 1101) rfl
set_option maxRecDepth 100000 in
theorem cd_X8_seesAs : bw_cd bm_X8_seesAs ∈ lw_tbl := List.mem_of_getElem? (i := 1123) rfl
set_option maxRecDepth 100000 in
theorem cd_X8_tellsAs : bw_cd bm_X8_tellsAs ∈ lw_tbl := List.mem_of_getElem? (i := 1120) rfl
set_option maxRecDepth 100000 in
theorem cd_X8_isOf : bw_cd bm_X8_isOf ∈ lw_tbl := List.mem_of_getElem? (i := 1130) rfl
set_option maxRecDepth 100000 in
theorem cd_X8_bits : bw_cd bm_X8_bits ∈ lw_tbl := List.mem_of_getElem? (i := 1133) rfl
set_option maxRecDepth 100000 in
theorem cd_X8_goDeed : bw_cd bm_X8_goDeed ∈ lw_tbl := List.mem_of_getElem? (i := 1155) rfl
set_option maxRecDepth 100000 in
theorem cd_X8_may : bw_cd bm_X8_may ∈ lw_tbl := List.mem_of_getElem? (i := 1148) rfl
set_option maxRecDepth 100000 in
theorem cd_X8_isShelf : bw_cd bm_X8_isShelf ∈ lw_tbl := List.mem_of_getElem? (i := 1178) rfl
set_option maxRecDepth 100000 in
theorem cd_X8_isThing : bw_cd bm_X8_isThing ∈ lw_tbl := List.mem_of_getElem? (i := 1190) rfl
set_option maxRecDepth 100000 in
theorem cd_X8_pairOf : bw_cd bm_X8_pairOf ∈ lw_tbl := List.mem_of_getElem? (i := 1260) rfl
set_option maxRecDepth 100000 in
theorem cd_X8_startOf : bw_cd bm_X8_startOf ∈ lw_tbl := List.mem_of_getElem? (i := 1283) rfl
set_option maxRecDepth 100000 in
theorem cd_X8_manyThere : bw_cd bm_X8_manyThere ∈ lw_tbl := List.mem_of_getElem? (i := 1350) rfl
set_option maxRecDepth 100000 in
theorem cd_X8_finds : bw_cd bm_X8_finds ∈ lw_tbl := List.mem_of_getElem? (i := 1006) rfl
set_option maxRecDepth 100000 in
theorem cd_X8_asks : bw_cd bm_X8_asks ∈ lw_tbl := List.mem_of_getElem? (i := 1018) rfl
set_option maxRecDepth 100000 in
theorem cd_X8_here : bw_cd bm_X8_here ∈ lw_tbl := List.mem_of_getElem? (i := 1063) rfl
set_option maxRecDepth 100000 in
theorem cd_X8_takes : bw_cd bm_X8_takes ∈ lw_tbl := List.mem_of_getElem? (i := 1071) rfl
set_option maxRecDepth 100000 in
theorem cd_X8_skip : bw_cd bm_X8_skip ∈ lw_tbl := List.mem_of_getElem? (i := 1059) rfl
set_option maxRecDepth 100000 in
theorem cd_X8_takesSet : bw_cd bm_X8_takesSet ∈ lw_tbl := List.mem_of_getElem? (i := 1067) rfl
set_option maxRecDepth 100000 in
theorem cd_X8_takesFirst : bw_cd bm_X8_takesFirst ∈ lw_tbl := List.mem_of_getElem? (i := 1055) rfl
set_option maxRecDepth 100000 in
theorem cd_X8_takesBear : bw_cd bm_X8_takesBear ∈ lw_tbl := List.mem_of_getElem? (i := 1076) rfl
set_option maxRecDepth 100000 in
theorem cd_X8_faultOf : bw_cd bm_X8_faultOf ∈ lw_tbl := List.mem_of_getElem? (i := 1051) rfl
set_option maxRecDepth 100000 in
theorem cd_X8_sayOf : bw_cd bm_X8_sayOf ∈ lw_tbl := List.mem_of_getElem? (i := 1117) rfl
set_option maxRecDepth 100000 in
theorem cd_X8_tellOf : bw_cd bm_X8_tellOf ∈ lw_tbl := List.mem_of_getElem? (i := 1113) rfl
set_option maxRecDepth 100000 in
theorem cd_X8_tellNow : bw_cd bm_X8_tellNow ∈ lw_tbl := List.mem_of_getElem? (i := 1109) rfl
set_option maxRecDepth 100000 in
theorem cd_X8_balance : bw_cd bm_X8_balance ∈ lw_tbl := List.mem_of_getElem? (i := 1202) rfl
set_option maxRecDepth 100000 in
theorem cd_X8_toldThings : bw_cd bm_X8_toldThings ∈ lw_tbl := List.mem_of_getElem? (i := 1105) rfl
set_option maxRecDepth 100000 in
theorem cd_X8_isBear : bw_cd bm_X8_isBear ∈ lw_tbl := List.mem_of_getElem? (i := 1094) rfl
set_option maxRecDepth 100000 in
theorem cd_X8_toldOf : bw_cd bm_X8_toldOf ∈ lw_tbl := List.mem_of_getElem? (i := 1098) rfl
set_option maxRecDepth 100000 in
theorem cd_X8_seesBeyond : bw_cd bm_X8_seesBeyond ∈ lw_tbl := List.mem_of_getElem? (i := 1137) rfl
set_option maxRecDepth 100000 in
theorem cd_X8_does : bw_cd bm_X8_does ∈ lw_tbl := List.mem_of_getElem? (i := 1152) rfl
set_option maxRecDepth 100000 in
theorem cd_X8_doesTo : bw_cd bm_X8_doesTo ∈ lw_tbl := List.mem_of_getElem? (i := 1145) rfl
set_option maxRecDepth 100000 in
theorem cd_X8_allBears : bw_cd bm_X8_allBears ∈ lw_tbl := List.mem_of_getElem? (i := 1198) rfl
set_option maxRecDepth 100000 in
theorem cd_X8_shownBy : bw_cd bm_X8_shownBy ∈ lw_tbl := List.mem_of_getElem? (i := 1206) rfl
set_option maxRecDepth 100000 in
theorem cd_X8_layHand : bw_cd bm_X8_layHand ∈ lw_tbl := List.mem_of_getElem? (i := 1223) rfl
set_option maxRecDepth 100000 in
theorem cd_X8_goes : bw_cd bm_X8_goes ∈ lw_tbl := List.mem_of_getElem? (i := 1219) rfl
set_option maxRecDepth 100000 in
theorem cd_X8_rivalThings : bw_cd bm_X8_rivalThings ∈ lw_tbl := List.mem_of_getElem? (i := 1236) rfl
set_option maxRecDepth 100000 in
theorem cd_X8_refusesPairs : bw_cd bm_X8_refusesPairs ∈ lw_tbl := List.mem_of_getElem? (i := 1252) rfl
set_option maxRecDepth 100000 in
theorem cd_X8_refusesLooks : bw_cd bm_X8_refusesLooks ∈ lw_tbl := List.mem_of_getElem? (i := 1248) rfl
set_option maxRecDepth 100000 in
theorem cd_X8_isTruth : bw_cd bm_X8_isTruth ∈ lw_tbl := List.mem_of_getElem? (i := 1257) rfl
set_option maxRecDepth 100000 in
theorem cd_X8_goChoices : bw_cd bm_X8_goChoices ∈ lw_tbl := List.mem_of_getElem? (i := 1288) rfl
set_option maxRecDepth 100000 in
theorem cd_X8_weigh : bw_cd bm_X8_weigh ∈ lw_tbl := List.mem_of_getElem? (i := 1292) rfl
set_option maxRecDepth 100000 in
theorem cd_X8_fraction : bw_cd bm_X8_fraction ∈ lw_tbl := List.mem_of_getElem? (i := 1305) rfl
set_option maxRecDepth 100000 in
theorem cd_X8_goOdds : bw_cd bm_X8_goOdds ∈ lw_tbl := List.mem_of_getElem? (i := 1301) rfl
set_option maxRecDepth 100000 in
theorem cd_X8_sumOf : bw_cd bm_X8_sumOf ∈ lw_tbl := List.mem_of_getElem? (i := 1343) rfl
set_option maxRecDepth 100000 in
theorem cd_X8_manyOf : bw_cd bm_X8_manyOf ∈ lw_tbl := List.mem_of_getElem? (i := 1347) rfl
set_option maxRecDepth 100000 in
theorem cd_X8_counted : bw_cd bm_X8_counted ∈ lw_tbl := List.mem_of_getElem? (i := 1339) rfl
set_option maxRecDepth 100000 in
theorem bw_MT_code : bw_all (fun e => bw_cd e.2.2.2.1 ∈ lw_tbl) bw_MT := ⟨cd_X0_get, cd_X0_init, cd_X0_take, cd_X0_set, cd_X1_allBears, cd_X0_get, cd_X7_isOfKind, cd_X1_change, cd_X7_isIn, cd_X1_seenBy, cd_X1_toldOf, cd_X1_onesOf, cd_X1_answerIf, cd_J6_bitCount_0f7a4, cd_X0_init, cd_X4_has, cd_X4_sizeOf, cd_X4_get, cd_X0_set, cd_X0_get, cd_X1_answerIf, cd_X2_setsWith, cd_X2_fits, cd_X1_seenBy, cd_X7_isIn, cd_X4_sizeOf, cd_X1_clear, cd_X3_skipBlanks, cd_X3_byteHere, cd_X3_twoFigures, cd_X3_readBear, cd_X3_kindOfLetter, cd_X3_fail, cd_X3_oneFigure, cd_X1_seat, cd_X4_get, cd_X0_init, cd_X0_set, cd_X4_isNumber, cd_X0_get, cd_X4_sizeOf, cd_X4_hasPlace, cd_X4_hasSpan, cd_X0_move, cd_X4_get, cd_X4_has, cd_X0_init, cd_X0_get, cd_X1_toldOf, cd_X1_onesOf, cd_X0_set, cd_X7_isIn, cd_X5_balance, cd_X5_toldBy, cd_X0_init, cd_X0_get, cd_X0_set, cd_X7_isIn, cd_X6_worthIf, cd_X6_worthNow, cd_X1_toldOf, cd_X1_onesOf, cd_X6_pressOn, cd_X6_canWear, cd_X6_wearBy, cd_X6_playOut, cd_X4_init, cd_X1_init, cd_X3_init, cd_X2_init, cd_X5_init, cd_X6_init, cd_X0_init, cd_X4_isNumber, cd_X7_found, cd_X4_make, cd_X7_missingPlace, cd_X4_get, cd_X4_set, cd_X4_has, cd_X4_drop, cd_X4_hasSpan, cd_X4_move, cd_X4_sizeOf, cd_X4_sumOf, cd_X3_readInto, cd_X1_take, cd_X7_forgetKept, cd_X1_hasBear, cd_X7_ofBear, cd_X0_get, cd_X7_isOfKind, cd_X1_markOf, cd_X7_answerDeed, cd_X1_takeBackTo, cd_X7_keptIn, cd_X7_isThing, cd_X1_answerOf, cd_X1_isSet, cd_X5_hear, cd_X5_tiedBy, cd_X5_shownBy, cd_X1_allBears, cd_J6_bitCount_0f7a4, cd_X7_isIn, cd_X6_open, cd_X6_fewestPresses, cd_X5_toldBy, cd_X7_isFewer, cd_X5_clash, cd_X5_hasRivals, cd_X7_readLooks, cd_X2_fittingSets, cd_X7_leastOf, cd_J13_bitCount_95d88, cd_X7_tellPart, cd_X2_setsWith, cd_X7_greatestPart, cd_X2_fitKind, cd_X2_whoSpoke, cd_X2_whoKeptBack, cd_X6_playOut, cd_X7_isChance, cd_X7_weightOf, cd_X7_allWeight, cd_X7_actOfLot, cd_X1_canBe, cd_X1_commit, cd_X7_shownByAll, cd_X0_sum, cd_X1_thoseOfKind, cd_X4_thoseThere, cd_X7_keptCourts, cd_X7_count, cd_X4_digestFrom, cd_X0_set, cd_X4_hasPlace, cd_X1_toldOf, cd_X1_clear, cd_X2_readFrom, cd_X1_answerIf, cd_X7_commonDivisor, cd_X8_in, cd_X8_isRow, cd_X8_finds, cd_X8_at, cd_X8_asks, cd_X8_isText, cd_X8_here, cd_X8_takes, cd_X8_skip, cd_X8_takesSet, cd_X8_kindBy, cd_X8_takesFirst, cd_X8_takesBear, cd_X8_faultOf, cd_X8_begin, cd_X8_has, cd_X8_seesAs, cd_X8_tellsAs, cd_X8_sayOf, cd_X8_tellOf, cd_X8_tellNow, cd_X8_balance, cd_X8_toldThings, cd_X8_isBear, cd_X8_toldOf, cd_X8_isOf, cd_X8_bits, cd_X8_seesBeyond, cd_X8_goDeed, cd_X8_may, cd_X8_does, cd_X8_doesTo, cd_X8_isShelf, cd_X8_isThing, cd_X8_allBears, cd_X8_shownBy, cd_X8_layHand, cd_X8_goes, cd_X8_rivalThings, cd_X8_pairOf, cd_X8_refusesPairs, cd_X8_refusesLooks, cd_X8_isTruth, cd_X8_startOf, cd_X8_goChoices, cd_X8_weigh, cd_X8_fraction, cd_X8_goOdds, cd_X8_sumOf, cd_X8_manyOf, cd_X8_manyThere, cd_X8_counted, cd_X7_init, cd_X8_init, cd_X7_row, cd_X8_row, cd_X7_lay, cd_X8_lay, cd_X7_at, cd_X8_at, cd_X7_tear, cd_X8_tear, cd_X7_copy, cd_X8_copy, cd_X7_mean, cd_X8_mean, cd_X7_text, cd_X8_text, cd_X7_put, cd_X8_put, cd_X7_fault, cd_X8_fault, cd_X7_court, cd_X8_court, cd_X7_bear, cd_X8_bear, cd_X7_mark, cd_X8_mark, cd_X7_press, cd_X8_press, cd_X7_mend, cd_X8_mend, cd_X7_eye, cd_X8_eye, cd_X7_turn, cd_X8_turn, cd_X7_undo, cd_X8_undo, cd_X7_keep, cd_X8_keep, cd_X7_on, cd_X8_on, cd_X7_tells, cd_X8_tells, cd_X7_shown, cd_X8_shown, cd_X7_call, cd_X8_call, cd_X7_shake, cd_X8_shake, cd_X7_cover, cd_X8_cover, cd_X7_rivals, cd_X8_rivals, cd_X7_apart, cd_X8_apart, cd_X7_truths, cd_X8_truths, cd_X7_sure, cd_X8_sure, cd_X7_next, cd_X8_next, cd_X7_kinds, cd_X8_kinds, cd_X7_walls, cd_X8_walls, cd_X7_duel, cd_X8_duel, cd_X7_odds, cd_X8_odds, cd_X7_mid, cd_X8_mid, cd_X7_lots, cd_X8_lots, cd_X7_asked, cd_X8_asked, cd_X7_upper, cd_X8_upper, cd_X7_lower, cd_X8_lower, cd_X7_count, cd_X8_count, cd_X7_finding, cd_X8_finding, cd_X7_findings, cd_X8_findings, cd_X7_digest, cd_X8_digest, trivial⟩
theorem bw_KT_ok : bw_KT.all (fun e => decide (lw_tbl[e.2.2.2]? = some (match e.2.2.1 with | .int x => Cond.constant (bw_R e.1) e.2.1 x | .long x => Cond.constantLong (bw_R e.1) e.2.1 x | _ => Cond.tt))) = true := by decide +kernel
theorem bw_NT_ok : bw_NT.all (fun e => decide (e.2.2.1 < 9) && decide (lw_tbl[e.2.2.2.1]? = some (Cond.classLink (bw_R e.1) e.2.1 (bw_R e.2.2.1))) && decide (lw_tbl[e.2.2.2.2.1]? = some (Cond.instantiable (bw_R e.2.2.1) (bw_N e.2.2.1))) && decide (lw_tbl[e.2.2.2.2.2]? = some (Cond.initialized (bw_R e.2.2.1)))) = true := by decide +kernel
theorem bw_anT_ok : bw_anT.all (fun e => decide (lw_tbl[e.2.2]? = some (Cond.classLink (bw_R e.1) e.2.1 RX1))) = true := by decide +kernel
theorem bw_stT_ok : bw_stT.all (fun e => decide (lw_tbl[e.2.2]? = some (Cond.fieldLink (bw_R e.1) e.2.1 "BearWitness$Looks" "SETS_WITH" "[J"))) = true := by decide +kernel
theorem bw_oiT_ok : bw_oiT.all (fun e => decide (lw_tbl[e.2.2]? = some (Cond.methodLink (bw_R e.1) e.2.1 objectInit))) = true := by decide +kernel
theorem bw_acT_ok : bw_acT.all (fun e => decide (lw_tbl[e.2.2]? = some (Cond.methodLink (bw_R e.1) e.2.1 arraycopyName))) = true := by decide +kernel
theorem bw_mxT_ok : bw_mxT.all (fun e => decide (lw_tbl[e.2.2.2]? = some (Cond.methodLink (bw_R e.1) e.2.1 (if e.2.2.1 = true then Lib.Math.max.name else Lib.Math.min.name)))) = true := by decide +kernel
theorem bw_w_max1 : Cond.static Lib.Math.max.name ∈ lw_tbl := List.mem_of_getElem? (i := 565) (by decide +kernel)
theorem bw_w_max2 : Cond.code Lib.Math.max.name Lib.Math.max.code 2 (some .int) ∈ lw_tbl := List.mem_of_getElem? (i := 566) (by decide +kernel)
theorem bw_w_min1 : Cond.static Lib.Math.min.name ∈ lw_tbl := List.mem_of_getElem? (i := 834) (by decide +kernel)
theorem bw_w_min2 : Cond.code Lib.Math.min.name Lib.Math.min.code 2 (some .int) ∈ lw_tbl := List.mem_of_getElem? (i := 835) (by decide +kernel)
theorem bw_w_mm : Cond.initialized "java/lang/Math" ∈ lw_tbl := List.mem_of_getElem? (i := 119) (by decide +kernel)
theorem bw_w_oi1 : Cond.instanceMethod objectInit ∈ lw_tbl := List.mem_of_getElem? (i := 127) (by decide +kernel)
theorem bw_w_oi2 : Cond.code objectInit ⟨#[0xb1]⟩ 1 none ∈ lw_tbl := List.mem_of_getElem? (i := 128) (by decide +kernel)
theorem bw_w_ac1 : Cond.native arraycopyName ∈ lw_tbl := List.mem_of_getElem? (i := 434) (by decide +kernel)
theorem bw_w_ac2 : Cond.static arraycopyName ∈ lw_tbl := List.mem_of_getElem? (i := 433) (by decide +kernel)
theorem bw_w_ac3 : Cond.initialized "java/lang/System" ∈ lw_tbl := List.mem_of_getElem? (i := 117) (by decide +kernel)
theorem bw_w_arI : Cond.arrayClass .int ∈ lw_tbl := List.mem_of_getElem? (i := 145) (by decide +kernel)
theorem bw_w_arZ : Cond.arrayClass .boolean ∈ lw_tbl := List.mem_of_getElem? (i := 991) (by decide +kernel)
theorem bw_w_aro : Cond.arrayOver (.object RX1) ∈ lw_tbl := List.mem_of_getElem? (i := 223) (by decide +kernel)
end
section
/-! what the small machine does with objects and arrays, the JVM does -/
def bw_gd : List Cond := lw_tbl.filter (fun w => w.onTables && w.keepsH)
abbrev bw_Ts : List Cond := bw_gd ++ [Cond.arrayClass .int, Cond.arrayClass .boolean]
theorem bw_in {w : Cond} (h : w ∈ lw_tbl) (hg : (w.onTables && w.keepsH) = true) : w ∈ bw_Ts := List.mem_append_left _ (List.mem_filter.mpr ⟨h, hg⟩)
theorem bw_cl9 : ∀ c, c < 9 → vwCl[c]? = some (bw_R c, bw_T c, bw_N c) := fun c h => by
  rcases (show c = 0 ∨ c = 1 ∨ c = 2 ∨ c = 3 ∨ c = 4 ∨ c = 5 ∨ c = 6 ∨ c = 7 ∨ c = 8 by omega) with rfl | rfl | rfl | rfl | rfl | rfl | rfl | rfl | rfl <;> rfl
theorem bw_lay_in : ∀ c, c < 9 → ∀ w ∈ u_ws (bw_R c) (bw_T c) (bw_N c), w ∈ bw_Ts := fun c h w hw => by
  have hl : w ∈ lw_tbl := by
    rcases (show c = 0 ∨ c = 1 ∨ c = 2 ∨ c = 3 ∨ c = 4 ∨ c = 5 ∨ c = 6 ∨ c = 7 ∨ c = 8 by omega) with rfl | rfl | rfl | rfl | rfl | rfl | rfl | rfl | rfl
    · exact inX0 w hw
    · exact inX1 w hw
    · exact inX2 w hw
    · exact inX3 w hw
    · exact inX4 w hw
    · exact inX5 w hw
    · exact inX6 w hw
    · exact inX7 w hw
    · exact inX8 w hw
  refine bw_in hl ?_
  unfold u_ws at hw
  obtain ⟨k, -, rfl⟩ := List.mem_map.mp hw
  unfold u_lay
  split <;> rfl
theorem bw_ty_ok : ∀ c, c < 9 → ∀ k, k < bw_N c → parseFieldDescriptor (bw_T c k).2.2.1 = some (bw_ty c k) := fun c h => by
  rcases (show c = 0 ∨ c = 1 ∨ c = 2 ∨ c = 3 ∨ c = 4 ∨ c = 5 ∨ c = 6 ∨ c = 7 ∨ c = 8 by omega) with rfl | rfl | rfl | rfl | rfl | rfl | rfl | rfl | rfl
  · exact tyX0_ok
  · exact tyX1_ok
  · exact tyX2_ok
  · exact tyX3_ok
  · exact tyX4_ok
  · exact tyX5_ok
  · exact tyX6_ok
  · exact tyX7_ok
  · exact tyX8_ok
theorem bw_nm_ok : ∀ c, c < 9 → ∀ a, a < bw_N c → ∀ b, b < bw_N c → a ≠ b → (bw_T c a).2.1 ≠ (bw_T c b).2.1 := fun c h => by
  rcases (show c = 0 ∨ c = 1 ∨ c = 2 ∨ c = 3 ∨ c = 4 ∨ c = 5 ∨ c = 6 ∨ c = 7 ∨ c = 8 by omega) with rfl | rfl | rfl | rfl | rfl | rfl | rfl | rfl | rfl
  · exact nmX0
  · exact nmX1
  · exact nmX2
  · exact nmX3
  · exact nmX4
  · exact nmX5
  · exact nmX6
  · exact nmX7
  · exact nmX8
theorem bw_T_own : ∀ c, c < 9 → ∀ k, k < bw_N c → (bw_T c k).1 = bw_R c := by decide +kernel
theorem bw_fl_ok {o ix c k : Nat} (h : bw_fl o ix = some (c, k)) : c < 9 ∧ k < bw_N c ∧ (Cond.fieldLink (bw_R o) ix (bw_T c k).1 (bw_T c k).2.1 (bw_T c k).2.2.1 ∈ bw_Ts ∨ (Cond.fieldLinkNest (bw_R o) ix (bw_T c k).1 (bw_T c k).2.1 (bw_T c k).2.2.1 "BearWitness" ∈ bw_Ts ∧ c ≠ o)) := by
  unfold bw_fl at h
  cases hf : bw_FT.find? (fun e => e.1 == o && e.2.1 == ix) with
  | none => rw [hf] at h; cases h
  | some x =>
    rw [hf] at h
    have h1 := List.all_eq_true.mp bw_FT_ok x (List.mem_of_find?_eq_some hf)
    have h7 := List.all_eq_true.mp bw_FT_ok2 x (List.mem_of_find?_eq_some hf)
    have h2 := List.find?_some hf
    obtain ⟨x1, x2, x3, x4, x5, x6⟩ := x
    cases h
    simp only [Bool.and_eq_true, decide_eq_true_eq, beq_iff_eq] at h1 h2
    obtain ⟨rfl, rfl⟩ := h2
    obtain ⟨⟨h3, h4⟩, h5⟩ := h1
    refine ⟨h3, h4, ?_⟩
    have h6 := List.mem_of_getElem? h5
    cases x5
    · exact Or.inl (bw_in (by simpa using h6) rfl)
    · exact Or.inr ⟨bw_in (by simpa using h6) rfl, by simpa using h7⟩
theorem bw_range_set {α : Type} {N k : Nat} {F F' : Nat → α} {v : α} (hv : F' k = v) (ho : ∀ j, j ≠ k → F' j = F j) : ((List.range N).map F).set k v = (List.range N).map F' := by
  refine List.ext_getElem? fun i => ?_
  rw [List.getElem?_set]
  by_cases hi : i < N
  · rw [List.getElem?_map, List.getElem?_map, List.getElem?_range hi]
    by_cases hk : k = i
    · subst hk
      rw [if_pos rfl, if_pos (by simpa using hi), ← hv]
      rfl
    · rw [if_neg hk]
      show some (F i) = some (F' i)
      rw [ho i (fun e => hk e.symm)]
  · have h1 : ((List.range N).map F).length ≤ i := by simpa using hi
    have h2 : ((List.range N).map F').length ≤ i := by simpa using hi
    rw [List.getElem?_eq_none h2, List.getElem?_eq_none h1]
    by_cases hk : k = i
    · rw [if_pos hk, if_neg (by omega)]
    · rw [if_neg hk]
theorem bw_up_s {α : Type} (f : Nat → α) (p : Nat) (v : α) : bw_up f p v p = v := by unfold bw_up; rw [if_pos rfl]
theorem bw_up_o {α : Type} {f : Nat → α} {p q : Nat} {v : α} (h : q ≠ p) : bw_up f p v q = f q := by unfold bw_up; rw [if_neg h]
theorem bw_up2_o {α : Type} {f : Nat → Nat → α} {p q k : Nat} {v : α} (h : q ≠ p) : bw_up2 f p k v q = f q := by unfold bw_up2; exact bw_up_o h
theorem bw_up2_s {α : Type} (f : Nat → Nat → α) (p k : Nat) (v : α) : bw_up2 f p k v p = bw_up (f p) k v := by unfold bw_up2; exact bw_up_s _ _ _
theorem bw_en_eq {cA : FieldType → ClassId} {g : Nat × Nat × Nat} {h h' : bw_H} {q : Nat} (h1 : bw_k h' q = bw_k h q) (h2 : bw_i h' q = bw_i h q) (h3 : bw_l h' q = bw_l h q) (h4 : bw_r h' q = bw_r h q) : bw_en cA g h' q = bw_en cA g h q := by
  unfold bw_en bw_fv
  rw [h1, h2, h3, h4]
theorem bw_en_o {cA : FieldType → ClassId} {g : Nat × Nat × Nat} {h : bw_H} {a c : Nat} (hk : bw_k h a = .inl c) : bw_en cA g h a = .inr (c, (List.range (bw_N c)).map (fun k => bw_tr g (bw_fv h a c k))) := by
  unfold bw_en; rw [hk]
theorem bw_en_i {cA : FieldType → ClassId} {g : Nat × Nat × Nat} {h : bw_H} {a N : Nat} (hk : bw_k h a = .inr (.int, N)) : bw_en cA g h a = .inl (cA .int, N, .inl (bw_i h a)) := by
  unfold bw_en; rw [hk]
theorem bw_en_z {cA : FieldType → ClassId} {g : Nat × Nat × Nat} {h : bw_H} {a N : Nat} (hk : bw_k h a = .inr (.boolean, N)) : bw_en cA g h a = .inl (cA .boolean, N, .inl (bw_i h a)) := by
  unfold bw_en; rw [hk]
theorem bw_en_r {cA : FieldType → ClassId} {g : Nat × Nat × Nat} {h : bw_H} {a N : Nat} (hk : bw_k h a = .inr (.object RX1, N)) : bw_en cA g h a = .inl (cA (.object RX1), N, .inr (.inr (.inr (.inr (fun j => (bw_r h a j).map (fun b => g.1 + b)))))) := by
  unfold bw_en; rw [hk]
theorem bw_tr_rf (g : Nat × Nat × Nat) (r : Option Nat) : bw_tr g (bw_rf r) = va_rf (r.map (fun b => g.1 + b)) := by cases r <;> rfl
theorem bw_vin {i : Int32} {N : Nat} (h1 : 0 ≤ i.toInt) (h2 : i.toInt < N) : vp_in i N := vp_in_iff.mpr ⟨h1, h2⟩
section BP
variable {p : Program} {l : Launch} {e : Env} {R : Room} {s : State} {m : MethodId} {args : Array Value} {below : List Frame} {meth : Method} {c : Code} {Q : State → Prop} {D : va_G} {cA : FieldType → ClassId} {g : Nat × Nat × Nat} {nL cells slots : Nat} {pc : Nat} {ls : bw_L} {st : List Value} {h : bw_H} {k : bw_C} {cc : ByteArray} {o : Nat}
theorem bo_gf {ix : Nat} (hx : p.tables.exec = Jvm.exec) (hb : c.code = cc) (hown : s.vm.findClass (bw_R o) = some m.cls) (hts : ∀ w ∈ bw_Ts, w.before args s = true) (hK : va_K D vwCl (bw_tys cA) s) (hdg : decode cc pc = .ok (.getfield ix, 3))
    (hq : bq_gf (bw_fl o ix) pc ls st h = some k) (K : bw_at p l e R s m args below meth c Q D cA g nL cells slots k) : bw_at p l e R s m args below meth c Q D cA g nL cells slots (pc, ls, st, h) := by
  unfold bq_gf at hq
  split at hq
  · rename_i c0 k0 a r hf
    split at hq
    · rename_i hh
      cases hq
      obtain ⟨h9, hk, hw⟩ := bw_fl_ok hf
      intro H locs la hi hl
      have he := bw_ws_get (cA := cA) (g := g) hh.1
      rw [bw_en_o hh.2] at he
      have hv : ((List.range (bw_N c0)).map (fun k => bw_tr g (bw_fv h a c0 k)))[k0]? = some (bw_tr g (bw_fv h a c0 k0)) := by
        rw [List.getElem?_map, List.getElem?_range hk]; rfl
      rcases hw with hw | ⟨hw, -⟩
      · exact va_get hx hb hts (bw_lay_in c0 h9) hown hK hi.1 a he (bw_cl9 c0 h9) k0 hk (hts _ hw) (fun _ q => q) hv hdg (K H locs la hi hl)
      · exact va_getN hx hb hts (bw_lay_in c0 h9) hown hK hi.1 a he (bw_cl9 c0 h9) k0 hk (hts _ hw) (fun _ q => q) hv hdg (K H locs la hi hl)
    · cases hq
  · cases hq
theorem bw_put {ini : Bool} {ix c0 k0 a : Nat} {v : Value} {r : List Value} {h' : bw_H} (hx : p.tables.exec = Jvm.exec) (hb : c.code = cc) (hown : s.vm.findClass (bw_R o) = some m.cls) (hts : ∀ w ∈ bw_Ts, w.before args s = true) (hK : va_K D vwCl (bw_tys cA) s) (hini : ini = true → meth.name = "<init>") (hdg : decode cc pc = .ok (.putfield ix, 3))
    (hf : bw_fl o ix = some (c0, k0)) (ha : a < bw_n h) (hka : bw_k h a = .inl c0) (hfin : (bw_T c0 k0).2.2.2 = false ∨ ((bw_T c0 k0).2.2.2 = true ∧ ini = true ∧ c0 = o)) (hnw : narrow (bw_ty c0 k0) (bw_tr g v) = bw_tr g v) (hft : fits (bw_ty c0 k0) (bw_tr g v) = true)
    (hn : bw_n h' = bw_n h) (ho : ∀ q, q ≠ a → bw_en cA g h' q = bw_en cA g h q) (he' : bw_en cA g h' a = .inr (c0, ((List.range (bw_N c0)).map (fun k => bw_tr g (bw_fv h a c0 k))).set k0 (bw_tr g v)))
    (K : bw_at p l e R s m args below meth c Q D cA g nL cells slots (pc + 3, ls, r, h')) : bw_at p l e R s m args below meth c Q D cA g nL cells slots (pc, ls, v :: .ref a :: r, h) := by
  obtain ⟨h9, hk, hw⟩ := bw_fl_ok hf
  intro H locs la hi hl
  have he := bw_ws_get (cA := cA) (g := g) ha
  rw [bw_en_o hka] at he
  have hws := bw_ws_set (cA := cA) (g := g) hn ho
  rw [he'] at hws
  have hlen : k0 < ((List.range (bw_N c0)).map (fun k => bw_tr g (bw_fv h a c0 k))).length := by simpa using hk
  have kk : ∀ (H1 : Heap) (locs1 : List Loc), va_P D vwCl ((bw_ws cA g h).set a (g.1 + a, .inr (c0, ((List.range (bw_N c0)).map (fun k => bw_tr g (bw_fv h a c0 k))).set k0 (bw_tr g v)))) H1 → va_D (bw_A g) ((bw_ws cA g h).set a (g.1 + a, .inr (c0, ((List.range (bw_N c0)).map (fun k => bw_tr g (bw_fv h a c0 k))).set k0 (bw_tr g v)))) → va_S (bw_A g) s.heap H1 locs1 → W p l e R s m args below meth c H1 locs1 cells slots Q (F0 m (pc + 3) la (r.map (bw_tr g))) := by
    intro H1 locs1 hP1 _ hS1
    rw [hws] at hP1
    exact K H1 locs1 la ⟨hP1, hS1, by have := hi.2.2; show _ ≤ g.1 + bw_n h'; rw [hn]; exact this⟩ hl
  rcases hfin with hfin | ⟨hfin, hin, rfl⟩
  · rcases hw with hw | ⟨hw, -⟩
    · exact va_put hx hb hts (bw_lay_in c0 h9) (bw_ty c0) (bw_ty_ok c0 h9) (bw_nm_ok c0 h9) hown hK hi.1 (bw_ws_D cA g h) hi.2.1 a he (bw_cl9 c0 h9) k0 hk (hts _ hw) (fun _ q => q) hfin (bw_ty_ok c0 h9 k0 hk) hnw hft hlen hdg kk
    · exact va_putN hx hb hts (bw_lay_in c0 h9) (bw_ty c0) (bw_ty_ok c0 h9) (bw_nm_ok c0 h9) hown hK hi.1 (bw_ws_D cA g h) hi.2.1 a he (bw_cl9 c0 h9) k0 hk (hts _ hw) (fun _ q => q) hfin (bw_ty_ok c0 h9 k0 hk) hnw hft hlen hdg kk
  · have hown2 := bw_T_own c0 h9 k0 hk
    rcases hw with hw | ⟨-, hw⟩
    · exact va_putF hx hb hts (bw_lay_in c0 h9) (bw_ty c0) (bw_ty_ok c0 h9) (bw_nm_ok c0 h9) hown hK hi.1 (bw_ws_D cA g h) hi.2.1 a he (bw_cl9 c0 h9) k0 hk (hts _ hw) (fun _ q => q) hfin (hini hin) hown2 (bw_ty_ok c0 h9 k0 hk) hnw hft hlen hdg kk
    · exact absurd rfl hw
theorem bo_pf {ini : Bool} {ix : Nat} (hx : p.tables.exec = Jvm.exec) (hb : c.code = cc) (hown : s.vm.findClass (bw_R o) = some m.cls) (hts : ∀ w ∈ bw_Ts, w.before args s = true) (hK : va_K D vwCl (bw_tys cA) s) (hini : ini = true → meth.name = "<init>") (hdg : decode cc pc = .ok (.putfield ix, 3))
    (hq : bq_pf o ini (bw_fl o ix) pc ls st h = some k) (K : bw_at p l e R s m args below meth c Q D cA g nL cells slots k) : bw_at p l e R s m args below meth c Q D cA g nL cells slots (pc, ls, st, h) := by
  have pI : ∀ (a c0 k0 : Nat) (x : Int32), bw_k h a = .inl c0 → bw_ty c0 k0 = .int → bw_en cA g (bw_si h a k0 x) a = .inr (c0, ((List.range (bw_N c0)).map (fun k => bw_tr g (bw_fv h a c0 k))).set k0 (bw_tr g (.int x))) := by
    intro a c0 k0 x hka hty
    rw [bw_en_o (h := bw_si h a k0 x) hka]
    refine congrArg (fun z => Sum.inr (c0, z)) (bw_range_set ?_ (fun j hj => ?_)).symm
    · unfold bw_fv
      rw [hty]
      show bw_tr g (.int (bw_up2 h.2.2.1 a k0 x a k0)) = _
      rw [bw_up2_s, bw_up_s]
    · unfold bw_fv
      show bw_tr g (match bw_ty c0 j with | .int => .int (bw_up2 h.2.2.1 a k0 x a j) | .long => .long (bw_l h a j) | _ => bw_rf (bw_r h a j)) = _
      rw [bw_up2_s, bw_up_o hj]
      rfl
  have pL : ∀ (a c0 k0 : Nat) (x : Int64), bw_k h a = .inl c0 → bw_ty c0 k0 = .long → bw_en cA g (bw_sl h a k0 x) a = .inr (c0, ((List.range (bw_N c0)).map (fun k => bw_tr g (bw_fv h a c0 k))).set k0 (bw_tr g (.long x))) := by
    intro a c0 k0 x hka hty
    rw [bw_en_o (h := bw_sl h a k0 x) hka]
    refine congrArg (fun z => Sum.inr (c0, z)) (bw_range_set ?_ (fun j hj => ?_)).symm
    · unfold bw_fv
      rw [hty]
      show bw_tr g (.long (bw_up2 h.2.2.2.1 a k0 x a k0)) = _
      rw [bw_up2_s, bw_up_s]
    · unfold bw_fv
      show bw_tr g (match bw_ty c0 j with | .int => .int (bw_i h a j) | .long => .long (bw_up2 h.2.2.2.1 a k0 x a j) | _ => bw_rf (bw_r h a j)) = _
      rw [bw_up2_s, bw_up_o hj]
      rfl
  have pR : ∀ (a c0 k0 : Nat) (x : Nat), bw_k h a = .inl c0 → (bw_ty c0 k0 ≠ .int ∧ bw_ty c0 k0 ≠ .long) → bw_en cA g (bw_sr h a k0 (some x)) a = .inr (c0, ((List.range (bw_N c0)).map (fun k => bw_tr g (bw_fv h a c0 k))).set k0 (bw_tr g (.ref x))) := by
    intro a c0 k0 x hka hty
    rw [bw_en_o (h := bw_sr h a k0 (some x)) hka]
    refine congrArg (fun z => Sum.inr (c0, z)) (bw_range_set ?_ (fun j hj => ?_)).symm
    · have hz := hty
      unfold bw_fv
      split
      · rename_i e; exact absurd e hz.1
      · rename_i e; exact absurd e hz.2
      · show bw_tr g (bw_rf (bw_up2 h.2.2.2.2 a k0 (some x) a k0)) = _
        rw [bw_up2_s, bw_up_s]
        rfl
    · unfold bw_fv
      show bw_tr g (match bw_ty c0 j with | .int => .int (bw_i h a j) | .long => .long (bw_l h a j) | _ => bw_rf (bw_up2 h.2.2.2.2 a k0 (some x) a j)) = _
      rw [bw_up2_s, bw_up_o hj]
      rfl
  have oI : ∀ (a k0 : Nat) (x : Int32), ∀ q, q ≠ a → bw_en cA g (bw_si h a k0 x) q = bw_en cA g h q := fun a k0 x q hq => bw_en_eq rfl (bw_up2_o hq) rfl rfl
  have oL : ∀ (a k0 : Nat) (x : Int64), ∀ q, q ≠ a → bw_en cA g (bw_sl h a k0 x) q = bw_en cA g h q := fun a k0 x q hq => bw_en_eq rfl rfl (bw_up2_o hq) rfl
  have oR : ∀ (a k0 : Nat) (x : Option Nat), ∀ q, q ≠ a → bw_en cA g (bw_sr h a k0 x) q = bw_en cA g h q := fun a k0 x q hq => bw_en_eq rfl rfl rfl (bw_up2_o hq)
  unfold bq_pf at hq
  split at hq
  · rename_i c0 k0 v a r hf
    split at hq
    · rename_i hh
      split at hq
      · rename_i x hty
        cases hq
        exact bw_put (h' := bw_si h a k0 x) hx hb hown hts hK hini hdg hf hh.1 hh.2.1 (Or.inl hh.2.2.2) (by rw [hty]; rfl) (by rw [hty]; rfl) rfl (oI a k0 x) (pI a c0 k0 x hh.2.1 hty) K
      · rename_i x hty
        cases hq
        exact bw_put (h' := bw_sl h a k0 x) hx hb hown hts hK hini hdg hf hh.1 hh.2.1 (Or.inl hh.2.2.2) (by rw [hty]; rfl) (by rw [hty]; rfl) rfl (oL a k0 x) (pL a c0 k0 x hh.2.1 hty) K
      · cases hq
    · split at hq
      · rename_i hh
        split at hq
        · rename_i x hty
          cases hq
          exact bw_put (h' := bw_si h a k0 x) hx hb hown hts hK hini hdg hf hh.1 hh.2.1 (Or.inr hh.2.2.2) (by rw [hty]; rfl) (by rw [hty]; rfl) rfl (oI a k0 x) (pI a c0 k0 x hh.2.1 hty) K
        · rename_i n x hty
          cases hq
          exact bw_put (h' := bw_sr h a k0 (some x)) hx hb hown hts hK hini hdg hf hh.1 hh.2.1 (Or.inr hh.2.2.2) (by rw [hty]; rfl) (by rw [hty]; rfl) rfl (oR a k0 (some x)) (pR a c0 k0 x hh.2.1 (by rw [hty]; exact ⟨fun q => FieldType.noConfusion q, fun q => FieldType.noConfusion q⟩)) K
        · rename_i n x hty
          cases hq
          exact bw_put (h' := bw_sr h a k0 (some x)) hx hb hown hts hK hini hdg hf hh.1 hh.2.1 (Or.inr hh.2.2.2) (by rw [hty]; rfl) (by rw [hty]; rfl) rfl (oR a k0 (some x)) (pR a c0 k0 x hh.2.1 (by rw [hty]; exact ⟨fun q => FieldType.noConfusion q, fun q => FieldType.noConfusion q⟩)) K
        · cases hq
      · cases hq
  · cases hq
end BP
end
section
/-! arrays, statics, new cells, the JDK's natives -/
theorem bw_sum_tr (g : Nat × Nat × Nat) (r : List Value) : ((r.map (bw_tr g)).map fun v => v.category).sum = (r.map fun v => v.category).sum := by
  rw [List.map_map]
  congr 1
  exact List.map_congr_left fun v _ => bw_tr_cat g v
theorem bw_ty_kinds : ∀ c, c < 9 → ∀ k, k < bw_N c → (match bw_ty c k with | .int => true | .long => true | .object _ => true | .array _ => true | _ => false) = true := by decide +kernel
theorem bw_find_in {α : Type} {T : List (Nat × Nat × α)} {o ix : Nat} {x : Nat × Nat × α} (hf : T.find? (fun e => e.1 == o && e.2.1 == ix) = some x) : x ∈ T ∧ x.1 = o ∧ x.2.1 = ix := by
  have h2 := List.find?_some hf
  simp only [Bool.and_eq_true, beq_iff_eq] at h2
  exact ⟨List.mem_of_find?_eq_some hf, h2⟩
section BA
variable {p : Program} {l : Launch} {e : Env} {R : Room} {s : State} {m : MethodId} {args : Array Value} {below : List Frame} {meth : Method} {c : Code} {Q : State → Prop} {D : va_G} {cA : FieldType → ClassId} {g : Nat × Nat × Nat} {nL cells slots : Nat} {pc : Nat} {ls : bw_L} {st : List Value} {h : bw_H} {k : bw_C} {cc : ByteArray} {o : Nat} {X : Nat × (Nat → Int32)}
theorem bw_Wsz {H : Heap} {locs : List Loc} {fr : JFrame} (kk : H.size ≤ s.heap.size + cells → W p l e R s m args below meth c H locs cells slots Q fr) : W p l e R s m args below meth c H locs cells slots Q fr := by
  intro T hT Y
  exact kk (by have := Y.same.2.2.1; rw [← hT]; exact this) T hT Y
theorem bo_gs {ix : Nat} (hx : p.tables.exec = Jvm.exec) (hb : c.code = cc) (hown : s.vm.findClass (bw_R o) = some m.cls) (hts : ∀ w ∈ bw_Ts, w.before args s = true) (hZ : va_Z "BearWitness$Looks" "SETS_WITH" "[J" (.ref g.2.1) (bw_A g) s s.heap) (hdg : decode cc pc = .ok (.getstatic ix, 3))
    (hq : bq_gs (bw_st o ix) pc ls st h = some k) (K : bw_at p l e R s m args below meth c Q D cA g nL cells slots k) : bw_at p l e R s m args below meth c Q D cA g nL cells slots (pc, ls, st, h) := by
  unfold bq_gs at hq
  split at hq
  · rename_i hst
    cases hq
    unfold bw_st at hst
    obtain ⟨x, hf⟩ := Option.isSome_iff_exists.mp hst
    obtain ⟨h1, rfl, rfl⟩ := bw_find_in hf
    have h2 := List.all_eq_true.mp bw_stT_ok x h1
    have h3 := List.mem_of_getElem? (of_decide_eq_true h2)
    intro H locs la hi hl
    exact va_gets hx hb hZ hi.2.1 hown (hts _ (bw_in h3 rfl)) (fun _ q => q) hdg (K H locs la hi hl)
  · cases hq
theorem bo_la (hx : p.tables.exec = Jvm.exec) (hb : c.code = cc) (hT : va_T .long g.2.1 6 (fun j => .long (bw_set6 j)) (bw_A g) s s.heap) (hdg : decode cc pc = .ok (.laload, 1))
    (hq : bq_la pc ls st h = some k) (K : bw_at p l e R s m args below meth c Q D cA g nL cells slots k) : bw_at p l e R s m args below meth c Q D cA g nL cells slots (pc, ls, st, h) := by
  unfold bq_la at hq
  split at hq
  · split at hq
    · rename_i hh
      cases hq
      intro H locs la hi hl
      exact va_tl hx hb hT hi.2.1 (bw_vin hh.1 hh.2) rfl hdg (K H locs la hi hl)
    · cases hq
  · cases hq
theorem bo_ia (hx : p.tables.exec = Jvm.exec) (hb : c.code = cc) (hK : va_K D vwCl (bw_tys cA) s) (hT : va_T .int g.2.2 X.1 (fun j => .int (X.2 j)) (bw_A g) s s.heap) (hdg : decode cc pc = .ok (.iaload, 1))
    (hq : bq_ia X pc ls st h = some k) (K : bw_at p l e R s m args below meth c Q D cA g nL cells slots k) : bw_at p l e R s m args below meth c Q D cA g nL cells slots (pc, ls, st, h) := by
  unfold bq_ia at hq
  split at hq
  · split at hq
    · rename_i hh
      cases hq
      intro H locs la hi hl
      exact va_ti hx hb hT hi.2.1 (bw_vin hh.1 hh.2) rfl hdg (K H locs la hi hl)
    · cases hq
  · split at hq
    · rename_i hk
      split at hq
      · rename_i hh
        obtain ⟨ha, rfl, h1, h2⟩ := hh
        cases hq
        intro H locs la hi hl
        have he := bw_ws_get (cA := cA) (g := g) ha
        rw [bw_en_i hk] at he
        exact va_iald hx hb hK hi.1 _ 0 he rfl (bw_vin h1 h2) hdg (K H locs la hi hl)
      · cases hq
    · cases hq
  · cases hq
theorem bo_ba (hx : p.tables.exec = Jvm.exec) (hb : c.code = cc) (hK : va_K D vwCl (bw_tys cA) s) (hdg : decode cc pc = .ok (.baload, 1))
    (hq : bq_ba pc ls st h = some k) (K : bw_at p l e R s m args below meth c Q D cA g nL cells slots k) : bw_at p l e R s m args below meth c Q D cA g nL cells slots (pc, ls, st, h) := by
  unfold bq_ba at hq
  split at hq
  · split at hq
    · rename_i hk
      split at hq
      · rename_i hh
        obtain ⟨ha, rfl, h1, h2⟩ := hh
        cases hq
        intro H locs la hi hl
        have he := bw_ws_get (cA := cA) (g := g) ha
        rw [bw_en_z hk] at he
        exact va_zald hx hb hK hi.1 _ 1 he rfl (bw_vin h1 h2) hdg (K H locs la hi hl)
      · cases hq
    · cases hq
  · cases hq
theorem bo_aa (hx : p.tables.exec = Jvm.exec) (hb : c.code = cc) (hK : va_K D vwCl (bw_tys cA) s) (hdg : decode cc pc = .ok (.aaload, 1))
    (hq : bq_aa pc ls st h = some k) (K : bw_at p l e R s m args below meth c Q D cA g nL cells slots k) : bw_at p l e R s m args below meth c Q D cA g nL cells slots (pc, ls, st, h) := by
  unfold bq_aa at hq
  split at hq
  · split at hq
    · rename_i hk
      split at hq
      · rename_i hh
        obtain ⟨ha, rfl, h1, h2⟩ := hh
        cases hq
        intro H locs la hi hl
        have he := bw_ws_get (cA := cA) (g := g) ha
        rw [bw_en_r hk] at he
        have := K H locs la hi hl
        rw [show (List.map (bw_tr g) (bw_rf (bw_r h _ _) :: _)) = bw_tr g (bw_rf (bw_r h _ _)) :: List.map (bw_tr g) _ from rfl, bw_tr_rf] at this
        exact va_aldq hx hb hK hi.1 _ 2 he rfl (bw_vin h1 h2) hdg this
      · cases hq
    · cases hq
  · cases hq
theorem bo_ist (hx : p.tables.exec = Jvm.exec) (hb : c.code = cc) (hK : va_K D vwCl (bw_tys cA) s) (hdg : decode cc pc = .ok (.iastore, 1))
    (hq : bq_ist pc ls st h = some k) (K : bw_at p l e R s m args below meth c Q D cA g nL cells slots k) : bw_at p l e R s m args below meth c Q D cA g nL cells slots (pc, ls, st, h) := by
  unfold bq_ist at hq
  split at hq
  · rename_i x i a r
    split at hq
    · rename_i N hk
      split at hq
      · rename_i hh
        obtain ⟨ha, rfl, h1, h2⟩ := hh
        cases hq
        intro H locs la hi hl
        have he := bw_ws_get (cA := cA) (g := g) ha
        rw [bw_en_i hk] at he
        have hws := bw_ws_set (cA := cA) (g := g) (h := h) (h' := bw_si h a i.toNatClampNeg x) (p := a) rfl (fun q hq => bw_en_eq rfl (bw_up2_o hq) rfl rfl)
        have e2 : bw_en cA g (bw_si h a i.toNatClampNeg x) a = .inl (cA .int, N, .inl (upd (bw_i h a) i.toNatClampNeg x)) := by
          rw [bw_en_i (h := bw_si h a i.toNatClampNeg x) hk]
          exact congrArg (fun f => Sum.inl (cA .int, N, Sum.inl f)) (bw_up2_s _ _ _ _)
        rw [e2] at hws
        exact va_iast hx hb hK hi.1 (bw_ws_D cA g h) hi.2.1 _ 0 he rfl (bw_vin h1 h2) hdg (fun H1 locs1 hP1 _ hS1 => K H1 locs1 la ⟨hws ▸ hP1, hS1, hi.2.2⟩ hl)
      · cases hq
    · cases hq
  · cases hq
theorem bo_bst (hx : p.tables.exec = Jvm.exec) (hb : c.code = cc) (hK : va_K D vwCl (bw_tys cA) s) (hdg : decode cc pc = .ok (.bastore, 1))
    (hq : bq_bst pc ls st h = some k) (K : bw_at p l e R s m args below meth c Q D cA g nL cells slots k) : bw_at p l e R s m args below meth c Q D cA g nL cells slots (pc, ls, st, h) := by
  unfold bq_bst at hq
  split at hq
  · rename_i x i a r
    split at hq
    · rename_i N hk
      split at hq
      · rename_i hh
        obtain ⟨ha, rfl, h1, h2⟩ := hh
        cases hq
        intro H locs la hi hl
        have he := bw_ws_get (cA := cA) (g := g) ha
        rw [bw_en_z hk] at he
        have hws := bw_ws_set (cA := cA) (g := g) (h := h) (h' := bw_si h a i.toNatClampNeg (vp_nar .boolean x)) (p := a) rfl (fun q hq => bw_en_eq rfl (bw_up2_o hq) rfl rfl)
        have e2 : bw_en cA g (bw_si h a i.toNatClampNeg (vp_nar .boolean x)) a = .inl (cA .boolean, N, .inl (upd (bw_i h a) i.toNatClampNeg (vp_nar .boolean x))) := by
          rw [bw_en_z (h := bw_si h a i.toNatClampNeg (vp_nar .boolean x)) hk]
          exact congrArg (fun f => Sum.inl (cA .boolean, N, Sum.inl f)) (bw_up2_s _ _ _ _)
        rw [e2] at hws
        exact va_zast hx hb hK hi.1 (bw_ws_D cA g h) hi.2.1 _ 1 he rfl (bw_vin h1 h2) hdg (fun H1 locs1 hP1 _ hS1 => K H1 locs1 la ⟨hws ▸ hP1, hS1, hi.2.2⟩ hl)
      · cases hq
    · cases hq
  · cases hq
theorem bo_ast (hx : p.tables.exec = Jvm.exec) (hb : c.code = cc) (hK : va_K D vwCl (bw_tys cA) s) (hdg : decode cc pc = .ok (.aastore, 1))
    (hq : bq_ast pc ls st h = some k) (K : bw_at p l e R s m args below meth c Q D cA g nL cells slots k) : bw_at p l e R s m args below meth c Q D cA g nL cells slots (pc, ls, st, h) := by
  unfold bq_ast at hq
  split at hq
  · rename_i x i a r
    split at hq
    · rename_i N hk
      split at hq
      · rename_i hh
        obtain ⟨ha, rfl, hxn, hkx, h1, h2⟩ := hh
        cases hq
        intro H locs la hi hl
        have he := bw_ws_get (cA := cA) (g := g) ha
        rw [bw_en_r hk] at he
        have hex := bw_ws_get (cA := cA) (g := g) hxn
        rw [bw_en_o hkx] at hex
        have hws := bw_ws_set (cA := cA) (g := g) (h := h) (h' := bw_sr h a i.toNatClampNeg (some x)) (p := a) rfl (fun q hq => bw_en_eq rfl rfl rfl (bw_up2_o hq))
        have e2 : bw_en cA g (bw_sr h a i.toNatClampNeg (some x)) a = .inl (cA (.object RX1), N, .inr (.inr (.inr (.inr (va_up (fun j => (bw_r h a j).map (fun b => g.1 + b)) i.toNatClampNeg (some (g.1 + x))))))) := by
          rw [bw_en_r (h := bw_sr h a i.toNatClampNeg (some x)) hk]
          refine congrArg (fun f => Sum.inl (cA (.object RX1), N, Sum.inr (Sum.inr (Sum.inr (Sum.inr f))))) (funext fun j => ?_)
          show (bw_up2 h.2.2.2.2 a i.toNatClampNeg (some x) a j).map _ = _
          rw [bw_up2_s]
          unfold bw_up va_up
          by_cases hj : j = i.toNatClampNeg
          · rw [if_pos hj, if_pos hj]; rfl
          · rw [if_neg hj, if_neg hj]; rfl
        rw [e2] at hws
        exact va_astq hx hb hK hi.1 (bw_ws_D cA g h) hi.2.1 _ 2 _ 1 he rfl hex (bw_cl9 1 (by decide)) (bw_vin h1 h2) hdg (fun H1 locs1 hP1 _ hS1 => K H1 locs1 la ⟨hws ▸ hP1, hS1, hi.2.2⟩ hl)
      · cases hq
    · cases hq
  · cases hq
theorem bo_len (hx : p.tables.exec = Jvm.exec) (hb : c.code = cc) (hK : va_K D vwCl (bw_tys cA) s) (hT6 : va_T .long g.2.1 6 (fun j => .long (bw_set6 j)) (bw_A g) s s.heap) (hT : va_T .int g.2.2 X.1 (fun j => .int (X.2 j)) (bw_A g) s s.heap) (hdg : decode cc pc = .ok (.arraylength, 1))
    (hq : bq_len X pc ls st h = some k) (K : bw_at p l e R s m args below meth c Q D cA g nL cells slots k) : bw_at p l e R s m args below meth c Q D cA g nL cells slots (pc, ls, st, h) := by
  unfold bq_len at hq
  split at hq
  · cases hq
    intro H locs la hi hl
    exact va_tlen hx hb hT6 hi.2.1 rfl hdg (K H locs la hi hl)
  · cases hq
    intro H locs la hi hl
    exact va_tlen hx hb hT hi.2.1 rfl hdg (K H locs la hi hl)
  · split at hq
    · rename_i hk
      split at hq
      · rename_i hh
        obtain ⟨ha, hty⟩ := hh
        cases hq
        intro H locs la hi hl
        have he := bw_ws_get (cA := cA) (g := g) ha
        rcases hty with rfl | rfl | rfl
        · rw [bw_en_i hk] at he
          exact va_alen hx hb hK hi.1 _ 0 he rfl rfl hdg (K H locs la hi hl)
        · rw [bw_en_z hk] at he
          exact va_alen hx hb hK hi.1 _ 1 he rfl rfl hdg (K H locs la hi hl)
        · rw [bw_en_r hk] at he
          exact va_alen hx hb hK hi.1 _ 2 he rfl rfl hdg (K H locs la hi hl)
      · cases hq
    · cases hq
  · cases hq
/-- a new cell's address: the next -/
theorem bw_next {q : Nat} {E : va_E} {H1 : Heap} (hP1 : va_P D vwCl (bw_ws cA g h ++ [(q, E)]) H1) (hD1 : va_D (bw_A g) (bw_ws cA g h ++ [(q, E)])) (hsz : H1.size ≤ g.1 + bw_n h + 1) : q = g.1 + bw_n h := by
  have hlen : (bw_ws cA g h).length = bw_n h := by unfold bw_ws; simp
  have hq : (bw_ws cA g h ++ [(q, E)])[bw_n h]? = some (q, E) := by
    rw [List.getElem?_append_right (by omega), hlen, Nat.sub_self]; rfl
  have h1 : q < H1.size := (hP1 _ _ hq).lt
  have h2 : g.1 ≤ q := hD1.2 _ _ hq
  rcases Nat.lt_or_ge (q - g.1) (bw_n h) with h3 | h3
  · have h4 : (bw_ws cA g h ++ [(q, E)])[q - g.1]? = some (g.1 + (q - g.1), bw_en cA g h (q - g.1)) := by
      rw [List.getElem?_append_left (by omega)]; exact bw_ws_get h3
    have := hD1.1 _ _ _ _ h4 hq (by show g.1 + (q - g.1) = q; omega)
    omega
  · omega
theorem bw_en_nw {kd : bw_K} {N : Nat} : ∀ q, q < bw_n h → bw_en cA g (bw_nw h kd N) q = bw_en cA g h q := fun q hq =>
  bw_en_eq (bw_up_o (Nat.ne_of_lt hq)) (bw_up_o (Nat.ne_of_lt hq)) (bw_up_o (Nat.ne_of_lt hq)) (bw_up_o (Nat.ne_of_lt hq))
theorem bo_new {ix : Nat} (hx : p.tables.exec = Jvm.exec) (hb : c.code = cc) (hown : s.vm.findClass (bw_R o) = some m.cls) (hts : ∀ w ∈ bw_Ts, w.before args s = true) (hK : va_K D vwCl (bw_tys cA) s) (hA : s.heap.size ≤ s.heap.size ∧ ∀ q, s.heap.size ≤ q → bw_A g q) (hdg : decode cc pc = .ok (.new ix, 3))
    (hq : bq_new (bw_cl o ix) pc ls st h = some k) (hcells : cells + (bw_n k.2.2.2 - bw_n h) ≤ R.cells) (hslots : slots + (bw_s k.2.2.2 - bw_s h) ≤ R.slots) (K : bw_at p l e R s m args below meth c Q D cA g nL (cells + (bw_n k.2.2.2 - bw_n h)) (slots + (bw_s k.2.2.2 - bw_s h)) k) : bw_at p l e R s m args below meth c Q D cA g nL cells slots (pc, ls, st, h) := by
  unfold bq_new at hq
  split at hq
  · rename_i c0 hc
    split at hq
    · rename_i h9
      cases hq
      unfold bw_cl at hc
      cases hf : bw_NT.find? (fun e => e.1 == o && e.2.1 == ix) with
      | none => rw [hf] at hc; cases hc
      | some x =>
        rw [hf] at hc
        obtain ⟨h1, rfl, rfl⟩ := bw_find_in hf
        have h2 := List.all_eq_true.mp bw_NT_ok x h1
        cases hc
        simp only [Bool.and_eq_true, decide_eq_true_eq] at h2
        obtain ⟨⟨⟨-, w1⟩, w2⟩, w3⟩ := h2
        have en : bw_n (bw_nw h (.inl x.2.2.1) (bw_N x.2.2.1)) - bw_n h = 1 := Nat.add_sub_cancel_left _ _
        have es : bw_s (bw_nw h (.inl x.2.2.1) (bw_N x.2.2.1)) - bw_s h = bw_N x.2.2.1 := Nat.add_sub_cancel_left _ _
        simp only [en, es] at hcells hslots K
        intro H locs la hi hl
        have e2 : bw_en cA g (bw_nw h (.inl x.2.2.1) (bw_N x.2.2.1)) (bw_n h) = .inr (x.2.2.1, (List.range (bw_N x.2.2.1)).map (fun k => bw_tr g (bw_fv (bw_nw h (.inl x.2.2.1) (bw_N x.2.2.1)) (bw_n h) x.2.2.1 k))) := bw_en_o (bw_up_s _ _ _)
        have hws := bw_ws_push (cA := cA) (g := g) (h := h) (h' := bw_nw h (.inl x.2.2.1) (bw_N x.2.2.1)) rfl bw_en_nw
        rw [e2] at hws
        refine va_new hx hb hts (bw_lay_in _ h9) (bw_ty x.2.2.1) (bw_ty_ok _ h9) hown (hts _ (bw_in (List.mem_of_getElem? w1) rfl)) (hts _ (bw_in (List.mem_of_getElem? w2) rfl)) (hts _ (bw_in (List.mem_of_getElem? w3) rfl)) hK hi.1 (bw_ws_D cA g h) hi.2.1 hA.2 (bw_cl9 _ h9) (fs := (List.range (bw_N x.2.2.1)).map (fun k => bw_tr g (bw_fv (bw_nw h (.inl x.2.2.1) (bw_N x.2.2.1)) (bw_n h) x.2.2.1 k))) (fun j hj => ?_) hcells hslots hdg (fun q H1 hP1 hD1 hS1 => ?_)
        · unfold vp_V
          rw [List.getD_eq_getElem?_getD, List.getElem?_map, List.getElem?_range hj]
          have hk := bw_ty_kinds _ h9 j hj
          have zi : bw_i (bw_nw h (.inl x.2.2.1) (bw_N x.2.2.1)) (bw_n h) = fun _ => 0 := bw_up_s _ _ _
          have zl : bw_l (bw_nw h (.inl x.2.2.1) (bw_N x.2.2.1)) (bw_n h) = fun _ => 0 := bw_up_s _ _ _
          have zr : bw_r (bw_nw h (.inl x.2.2.1) (bw_N x.2.2.1)) (bw_n h) = fun _ => none := bw_up_s _ _ _
          show _ = bw_tr g (bw_fv (bw_nw h (.inl x.2.2.1) (bw_N x.2.2.1)) (bw_n h) x.2.2.1 j)
          unfold bw_fv
          rw [zi, zl, zr]
          revert hk
          cases bw_ty x.2.2.1 j <;> intro hk <;> first | rfl | cases hk
        · refine bw_Wsz fun hsz => ?_
          have hqe := bw_next (h := h) hP1 hD1 (by have e0 : s.heap.size + cells ≤ g.1 + bw_n h := hi.2.2; show H1.size ≤ g.1 + bw_n h + 1; omega)
          subst hqe
          rw [hws] at hP1
          exact K H1 locs la ⟨hP1, hS1, by have e0 : s.heap.size + cells ≤ g.1 + bw_n h := hi.2.2; show s.heap.size + (cells + 1) ≤ g.1 + (bw_n h + 1); omega⟩ hl
    · cases hq
  · cases hq
theorem bw_clA {ty : FieldType} {cA' : ClassId} {t0 : Nat} (h1 : va_K D vwCl (bw_tys cA ++ [(cA', ty)]) s) (ht : (bw_tys cA)[t0]? = some (cA ty, ty)) : cA' = cA ty := by
  have ht' : (bw_tys cA ++ [(cA', ty)])[t0]? = some (cA ty, ty) := by
    rw [List.getElem?_append_left (List.getElem?_eq_some_iff.mp ht).1]; exact ht
  have a1 := (h1.2 t0 _ ht').2
  have a2 := (h1.2 3 (cA', ty) rfl).2
  unfold va_RA at a1 a2
  cases ty <;> first
    | (obtain ⟨_, _, -, -, -, b1⟩ := a1; obtain ⟨_, _, -, -, -, b2⟩ := a2; exact Option.some.inj (b2.symm.trans b1))
    | exact Option.some.inj (a2.symm.trans a1)
theorem bo_na {t : ArrayType} (hx : p.tables.exec = Jvm.exec) (hb : c.code = cc) (hts : ∀ w ∈ bw_Ts, w.before args s = true) (hK : va_K D vwCl (bw_tys cA) s) (hA : s.heap.size ≤ s.heap.size ∧ ∀ q, s.heap.size ≤ q → bw_A g q) (hdg : decode cc pc = .ok (.newarray t, 2))
    (hq : bq_na t pc ls st h = some k) (hcells : cells + (bw_n k.2.2.2 - bw_n h) ≤ R.cells) (hslots : slots + (bw_s k.2.2.2 - bw_s h) ≤ R.slots) (K : bw_at p l e R s m args below meth c Q D cA g nL (cells + (bw_n k.2.2.2 - bw_n h)) (slots + (bw_s k.2.2.2 - bw_s h)) k) : bw_at p l e R s m args below meth c Q D cA g nL cells slots (pc, ls, st, h) := by
  unfold bq_na at hq
  split at hq
  · rename_i n r
    split at hq
    · rename_i hh
      cases hq
      have en : bw_n (bw_nw h (.inr (.int, n.toNatClampNeg)) n.toNatClampNeg) - bw_n h = 1 := Nat.add_sub_cancel_left _ _
      have es : bw_s (bw_nw h (.inr (.int, n.toNatClampNeg)) n.toNatClampNeg) - bw_s h = n.toNatClampNeg := Nat.add_sub_cancel_left _ _
      simp only [en, es] at hcells hslots K
      intro H locs la hi hl
      have e2 : bw_en cA g (bw_nw h (.inr (.int, n.toNatClampNeg)) n.toNatClampNeg) (bw_n h) = .inl (cA .int, n.toNatClampNeg, .inl (fun _ => 0)) := by
        have hkn : bw_k (bw_nw h (.inr (.int, n.toNatClampNeg)) n.toNatClampNeg) (bw_n h) = .inr (.int, n.toNatClampNeg) := bw_up_s _ _ _
        rw [bw_en_i hkn]
        exact congrArg (fun f => Sum.inl (cA .int, n.toNatClampNeg, Sum.inl f)) (bw_up_s _ _ _)
      have hws := bw_ws_push (cA := cA) (g := g) (h := h) (h' := bw_nw h (.inr (.int, n.toNatClampNeg)) n.toNatClampNeg) rfl bw_en_nw
      rw [e2] at hws
      have hcl : n.toNatClampNeg < 100000 := by have : n.toNatClampNeg = n.toInt.toNat := rfl; omega
      refine va_newa (atype := .int) (ty := .int) (a0 := (n.toNatClampNeg, .inl (fun _ => 0))) hx hb (hts _ (List.mem_append_right _ List.mem_cons_self)) rfl hK hi.1 (bw_ws_D cA g h) hi.2.1 hA.2 (fun _ => rfl) (fun hn => ?_) rfl ?_ hcells hslots hdg (fun q cA' H1 hK1 hP1 hD1 hS1 => ?_)
      · have := Int32.lt_iff_toInt_lt.mp hn
        have h0 : (0 : Int32).toInt = 0 := rfl
        omega
      · show n.toNatClampNeg * 4 ≤ 536870912
        omega
      · have hce := bw_clA (t0 := 0) hK1 rfl
        subst hce
        refine bw_Wsz fun hsz => ?_
        have hqe := bw_next (h := h) hP1 hD1 (by have e0 : s.heap.size + cells ≤ g.1 + bw_n h := hi.2.2; show H1.size ≤ g.1 + bw_n h + 1; omega)
        subst hqe
        rw [hws] at hP1
        exact K H1 locs la ⟨hP1, hS1, by have e0 : s.heap.size + cells ≤ g.1 + bw_n h := hi.2.2; show s.heap.size + (cells + 1) ≤ g.1 + (bw_n h + 1); omega⟩ hl
    · cases hq
  · rename_i n r
    split at hq
    · rename_i hh
      cases hq
      have en : bw_n (bw_nw h (.inr (.boolean, n.toNatClampNeg)) n.toNatClampNeg) - bw_n h = 1 := Nat.add_sub_cancel_left _ _
      have es : bw_s (bw_nw h (.inr (.boolean, n.toNatClampNeg)) n.toNatClampNeg) - bw_s h = n.toNatClampNeg := Nat.add_sub_cancel_left _ _
      simp only [en, es] at hcells hslots K
      intro H locs la hi hl
      have e2 : bw_en cA g (bw_nw h (.inr (.boolean, n.toNatClampNeg)) n.toNatClampNeg) (bw_n h) = .inl (cA .boolean, n.toNatClampNeg, .inl (fun _ => 0)) := by
        have hkn : bw_k (bw_nw h (.inr (.boolean, n.toNatClampNeg)) n.toNatClampNeg) (bw_n h) = .inr (.boolean, n.toNatClampNeg) := bw_up_s _ _ _
        rw [bw_en_z hkn]
        exact congrArg (fun f => Sum.inl (cA .boolean, n.toNatClampNeg, Sum.inl f)) (bw_up_s _ _ _)
      have hws := bw_ws_push (cA := cA) (g := g) (h := h) (h' := bw_nw h (.inr (.boolean, n.toNatClampNeg)) n.toNatClampNeg) rfl bw_en_nw
      rw [e2] at hws
      have hcl : n.toNatClampNeg < 100000 := by have : n.toNatClampNeg = n.toInt.toNat := rfl; omega
      refine va_newa (atype := .boolean) (ty := .boolean) (a0 := (n.toNatClampNeg, .inl (fun _ => 0))) hx hb (hts _ (List.mem_append_right _ (List.mem_cons_of_mem _ List.mem_cons_self))) rfl hK hi.1 (bw_ws_D cA g h) hi.2.1 hA.2 (fun _ => rfl) (fun hn => ?_) rfl ?_ hcells hslots hdg (fun q cA' H1 hK1 hP1 hD1 hS1 => ?_)
      · have := Int32.lt_iff_toInt_lt.mp hn
        have h0 : (0 : Int32).toInt = 0 := rfl
        omega
      · show n.toNatClampNeg * 1 ≤ 536870912
        omega
      · have hce := bw_clA (t0 := 1) hK1 rfl
        subst hce
        refine bw_Wsz fun hsz => ?_
        have hqe := bw_next (h := h) hP1 hD1 (by have e0 : s.heap.size + cells ≤ g.1 + bw_n h := hi.2.2; show H1.size ≤ g.1 + bw_n h + 1; omega)
        subst hqe
        rw [hws] at hP1
        exact K H1 locs la ⟨hP1, hS1, by have e0 : s.heap.size + cells ≤ g.1 + bw_n h := hi.2.2; show s.heap.size + (cells + 1) ≤ g.1 + (bw_n h + 1); omega⟩ hl
    · cases hq
  · cases hq
theorem bo_an {ix : Nat} (hx : p.tables.exec = Jvm.exec) (hb : c.code = cc) (hown : s.vm.findClass (bw_R o) = some m.cls) (hts : ∀ w ∈ bw_Ts, w.before args s = true) (hao : va_AO RX1 s) (hK : va_K D vwCl (bw_tys cA) s) (hA : s.heap.size ≤ s.heap.size ∧ ∀ q, s.heap.size ≤ q → bw_A g q) (hdg : decode cc pc = .ok (.anewarray ix, 3))
    (hq : bq_an (bw_an o ix) pc ls st h = some k) (hcells : cells + (bw_n k.2.2.2 - bw_n h) ≤ R.cells) (hslots : slots + (bw_s k.2.2.2 - bw_s h) ≤ R.slots) (K : bw_at p l e R s m args below meth c Q D cA g nL (cells + (bw_n k.2.2.2 - bw_n h)) (slots + (bw_s k.2.2.2 - bw_s h)) k) : bw_at p l e R s m args below meth c Q D cA g nL cells slots (pc, ls, st, h) := by
  unfold bq_an at hq
  split at hq
  · rename_i n r
    split at hq
    · rename_i hh
      cases hq
      have hst := hh.1
      unfold bw_an at hst
      obtain ⟨x, hf⟩ := Option.isSome_iff_exists.mp hst
      obtain ⟨h1, rfl, rfl⟩ := bw_find_in hf
      have h2 := List.all_eq_true.mp bw_anT_ok x h1
      have h3 := List.mem_of_getElem? (of_decide_eq_true h2)
      have en : bw_n (bw_nw h (.inr (.object RX1, n.toNatClampNeg)) n.toNatClampNeg) - bw_n h = 1 := Nat.add_sub_cancel_left _ _
      have es : bw_s (bw_nw h (.inr (.object RX1, n.toNatClampNeg)) n.toNatClampNeg) - bw_s h = n.toNatClampNeg := Nat.add_sub_cancel_left _ _
      simp only [en, es] at hcells hslots K
      intro H locs la hi hl
      have e2 : bw_en cA g (bw_nw h (.inr (.object RX1, n.toNatClampNeg)) n.toNatClampNeg) (bw_n h) = .inl (cA (.object RX1), n.toNatClampNeg, .inr (.inr (.inr (.inr (fun _ => none))))) := by
        have hkn : bw_k (bw_nw h (.inr (.object RX1, n.toNatClampNeg)) n.toNatClampNeg) (bw_n h) = .inr (.object RX1, n.toNatClampNeg) := bw_up_s _ _ _
        rw [bw_en_r hkn]
        refine congrArg (fun f => Sum.inl (cA (.object RX1), n.toNatClampNeg, Sum.inr (Sum.inr (Sum.inr (Sum.inr f))))) (funext fun j => ?_)
        show ((bw_up h.2.2.2.2 (bw_n h) (fun _ => none)) (bw_n h) j).map _ = none
        rw [bw_up_s]; rfl
      have hws := bw_ws_push (cA := cA) (g := g) (h := h) (h' := bw_nw h (.inr (.object RX1, n.toNatClampNeg)) n.toNatClampNeg) rfl bw_en_nw
      rw [e2] at hws
      have hcl : n.toNatClampNeg < 100000 := by have : n.toNatClampNeg = n.toInt.toNat := rfl; omega
      refine va_newq hx hb hown (hts _ (bw_in h3 rfl)) hao hK hi.1 (bw_ws_D cA g h) hi.2.1 hA.2 (fun hn => ?_) rfl (by omega) hcells hslots hdg (fun q cA' H1 hK1 hP1 hD1 hS1 => ?_)
      · have := Int32.lt_iff_toInt_lt.mp hn
        have h0 : (0 : Int32).toInt = 0 := rfl
        omega
      · have hce := bw_clA (t0 := 2) hK1 rfl
        subst hce
        refine bw_Wsz fun hsz => ?_
        have hqe := bw_next (h := h) hP1 hD1 (by have e0 : s.heap.size + cells ≤ g.1 + bw_n h := hi.2.2; show H1.size ≤ g.1 + bw_n h + 1; omega)
        subst hqe
        rw [hws] at hP1
        exact K H1 locs la ⟨hP1, hS1, by have e0 : s.heap.size + cells ≤ g.1 + bw_n h := hi.2.2; show s.heap.size + (cells + 1) ≤ g.1 + (bw_n h + 1); omega⟩ hl
    · cases hq
  · cases hq
theorem bo_oi {ix : Nat} (hx : p.tables.exec = Jvm.exec) (hb : c.code = cc) (hml : c.maxLocals = nL) (hown : s.vm.findClass (bw_R o) = some m.cls) (hts : ∀ w ∈ bw_Ts, w.before args s = true) (hf1 : 1 ≤ R.frames) (hf2 : 60 ≤ R.locals) (hdg : decode cc pc = .ok (.invokespecial ix, 3))
    (hq : bq_oi (bw_oi o ix) pc ls st h = some k) (K : bw_at p l e R s m args below meth c Q D cA g nL cells slots k) : bw_at p l e R s m args below meth c Q D cA g nL cells slots (pc, ls, st, h) := by
  unfold bq_oi at hq
  split at hq
  · rename_i a r
    split at hq
    · rename_i hh
      cases hq
      have hst := hh.1
      unfold bw_oi at hst
      obtain ⟨x, hf⟩ := Option.isSome_iff_exists.mp hst
      obtain ⟨h1, rfl, rfl⟩ := bw_find_in hf
      have h2 := List.all_eq_true.mp bw_oiT_ok x h1
      have h3 := List.mem_of_getElem? (of_decide_eq_true h2)
      intro H locs la hi hl
      have hsum : ((r.map (bw_tr g)).map fun v => v.category).sum ≤ 8 := by rw [bw_sum_tr]; exact hh.2
      refine W.objInit hx hb hown (hts _ (bw_in h3 rfl)) (hts _ (bw_in bw_w_oi1 rfl)) (hts _ (bw_in bw_w_oi2 rfl)) rfl (by rw [hml]; exact hl.1) rfl hdg hf1 (by show 2 * 0 + _ + 12 ≤ _; omega) ?_
      exact K H locs la hi hl
    · cases hq
  · cases hq
theorem bo_mx {b : Bool} {ix : Nat} (hx : p.tables.exec = Jvm.exec) (hb : c.code = cc) (hml : c.maxLocals = nL) (hown : s.vm.findClass (bw_R o) = some m.cls) (hts : ∀ w ∈ bw_Ts, w.before args s = true) (hf1 : 1 ≤ R.frames) (hf2 : 60 ≤ R.locals) (hc : cells ≤ R.cells) (hs : slots ≤ R.slots) (hmx : bw_mx o ix = some b) (hdg : decode cc pc = .ok (.invokestatic ix, 3))
    (hq : bq_mx b pc ls st h = some k) (K : bw_at p l e R s m args below meth c Q D cA g nL cells slots k) : bw_at p l e R s m args below meth c Q D cA g nL cells slots (pc, ls, st, h) := by
  unfold bq_mx at hq
  split at hq
  · rename_i y x r
    split at hq
    · rename_i hh
      cases hq
      unfold bw_mx at hmx
      cases hf : bw_mxT.find? (fun e => e.1 == o && e.2.1 == ix) with
      | none => rw [hf] at hmx; cases hmx
      | some z =>
        rw [hf] at hmx
        obtain ⟨h1, rfl, rfl⟩ := bw_find_in hf
        have h2 := List.all_eq_true.mp bw_mxT_ok z h1
        have h3 := List.mem_of_getElem? (of_decide_eq_true h2)
        have hzb : z.2.2.1 = b := Option.some.inj hmx
        rw [hzb] at h3
        intro H locs la hi hl
        have hsum : ((r.map (bw_tr g)).map fun v => v.category).sum ≤ 8 := by rw [bw_sum_tr]; exact hh
        have K' := K H locs la hi hl
        cases b
        · exact va_mmin hx hb (by rw [hml]; exact hl.1.symm) hown (hts _ (bw_in (by simpa using h3) rfl)) (hts _ (bw_in bw_w_min1 rfl)) (hts _ (bw_in bw_w_mm rfl)) (hts _ (bw_in bw_w_min2 rfl)) hf1 (by omega) hc hs hdg K'
        · exact va_mmax hx hb (by rw [hml]; exact hl.1.symm) hown (hts _ (bw_in (by simpa using h3) rfl)) (hts _ (bw_in bw_w_max1 rfl)) (hts _ (bw_in bw_w_mm rfl)) (hts _ (bw_in bw_w_max2 rfl)) hf1 (by omega) hc hs hdg K'
    · cases hq
  · cases hq
theorem bo_ac {ix : Nat} (hx : p.tables.exec = Jvm.exec) (hb : c.code = cc) (hml : c.maxLocals = nL) (hown : s.vm.findClass (bw_R o) = some m.cls) (hts : ∀ w ∈ bw_Ts, w.before args s = true) (hK : va_K D vwCl (bw_tys cA) s) (hf1 : 1 ≤ R.frames) (hf2 : 60 ≤ R.locals) (hdg : decode cc pc = .ok (.invokestatic ix, 3))
    (hq : bq_ac (bw_ac o ix) pc ls st h = some k) (K : bw_at p l e R s m args below meth c Q D cA g nL cells slots k) : bw_at p l e R s m args below meth c Q D cA g nL cells slots (pc, ls, st, h) := by
  unfold bq_ac at hq
  split at hq
  · rename_i n dp a sp a0 r
    split at hq
    · rename_i t0 n0 t1 n1 hk0 hk1
      split at hq
      · rename_i hh
        obtain ⟨hst, hsum0, ha0, ha, rfl, rfl, z1, z2, z3, z4, z5⟩ := hh
        cases hq
        unfold bw_ac at hst
        obtain ⟨x, hf⟩ := Option.isSome_iff_exists.mp hst
        obtain ⟨h1, rfl, rfl⟩ := bw_find_in hf
        have h2 := List.all_eq_true.mp bw_acT_ok x h1
        have h3 := List.mem_of_getElem? (of_decide_eq_true h2)
        intro H locs la hi hl
        have hsum : ((r.map (bw_tr g)).map fun v => v.category).sum ≤ 8 := by rw [bw_sum_tr]; exact hsum0
        have hnf : 8 + (nativeFrameWords "java/lang/System" "arraycopy" 5 + 11) ≤ 60 := by decide +kernel
        have he0 := bw_ws_get (cA := cA) (g := g) ha0
        rw [bw_en_i hk0] at he0
        have he := bw_ws_get (cA := cA) (g := g) ha
        rw [bw_en_i hk1] at he
        have hws := bw_ws_set (cA := cA) (g := g) (h := h) (h' := bw_sa h a (va_cpy (bw_i h a0) (bw_i h a) sp.toNatClampNeg dp.toNatClampNeg n.toNatClampNeg)) (p := a) rfl (fun q hq => bw_en_eq rfl (bw_up_o hq) rfl rfl)
        have e2 : bw_en cA g (bw_sa h a (va_cpy (bw_i h a0) (bw_i h a) sp.toNatClampNeg dp.toNatClampNeg n.toNatClampNeg)) a = .inl (cA .int, n1, .inl (va_cpy (bw_i h a0) (bw_i h a) sp.toNatClampNeg dp.toNatClampNeg n.toNatClampNeg)) := by
          rw [bw_en_i (h := bw_sa h a (va_cpy (bw_i h a0) (bw_i h a) sp.toNatClampNeg dp.toNatClampNeg n.toNatClampNeg)) hk1]
          exact congrArg (fun f => Sum.inl (cA .int, n1, Sum.inl f)) (bw_up_s _ _ _)
        rw [e2] at hws
        have ng : ∀ z : Int32, 0 ≤ z.toInt → ¬ z < 0 := fun z h0 hn => by
          have := Int32.lt_iff_toInt_lt.mp hn
          have h00 : (0 : Int32).toInt = 0 := rfl
          omega
        have c1 : sp.toNatClampNeg = sp.toInt.toNat := rfl
        have c2 : dp.toNatClampNeg = dp.toInt.toNat := rfl
        have c3 : n.toNatClampNeg = n.toInt.toNat := rfl
        exact va_copyi hx hb (by rw [hml]; exact hl.1.symm) hown (hts _ (bw_in h3 rfl)) (hts _ (bw_in bw_w_ac1 rfl)) (hts _ (bw_in bw_w_ac2 rfl)) (hts _ (bw_in bw_w_ac3 rfl)) hK hi.1 (bw_ws_D cA g h) hi.2.1 _ _ 0 0 he0 he rfl rfl rfl (ng _ z1) (ng _ z2) (ng _ z3) (by omega) (by omega) (fun _ _ => rfl) hf1 (by omega) hdg (fun H1 locs1 hP1 _ hS1 => K H1 locs1 la ⟨hws ▸ hP1, hS1, hi.2.2⟩ hl)
      · cases hq
    · cases hq
  · cases hq
end BA
end
section
/-! one instruction; a method's end; a call; and all of it together -/
theorem bz_il {w i : Nat} {pc : Nat} {ls : bw_L} {st : List Value} {h : bw_H} {k : bw_C} (hq : bq_il w i pc ls st h = some k) : k.2.2.2.1 = h.1 := by
  unfold bq_il at hq
  repeat' split at hq
  all_goals (first | (cases hq; rfl) | cases hq)
theorem bz_ll {w i : Nat} {pc : Nat} {ls : bw_L} {st : List Value} {h : bw_H} {k : bw_C} (hq : bq_ll w i pc ls st h = some k) : k.2.2.2.1 = h.1 := by
  unfold bq_ll at hq
  repeat' split at hq
  all_goals (first | (cases hq; rfl) | cases hq)
theorem bz_al {w i : Nat} {pc : Nat} {ls : bw_L} {st : List Value} {h : bw_H} {k : bw_C} (hq : bq_al w i pc ls st h = some k) : k.2.2.2.1 = h.1 := by
  unfold bq_al at hq
  repeat' split at hq
  all_goals (first | (cases hq; rfl) | cases hq)
theorem bz_is {nL w i : Nat} {pc : Nat} {ls : bw_L} {st : List Value} {h : bw_H} {k : bw_C} (hq : bq_is nL w i pc ls st h = some k) : k.2.2.2.1 = h.1 := by
  unfold bq_is at hq
  repeat' split at hq
  all_goals (first | (cases hq; rfl) | cases hq)
theorem bz_ls {nL w i : Nat} {pc : Nat} {ls : bw_L} {st : List Value} {h : bw_H} {k : bw_C} (hq : bq_ls nL w i pc ls st h = some k) : k.2.2.2.1 = h.1 := by
  unfold bq_ls at hq
  repeat' split at hq
  all_goals (first | (cases hq; rfl) | cases hq)
theorem bz_as {nL w i : Nat} {pc : Nat} {ls : bw_L} {st : List Value} {h : bw_H} {k : bw_C} (hq : bq_as nL w i pc ls st h = some k) : k.2.2.2.1 = h.1 := by
  unfold bq_as at hq
  repeat' split at hq
  all_goals (first | (cases hq; rfl) | cases hq)
theorem bz_ic {nL i : Nat} {n : Int} {pc : Nat} {ls : bw_L} {st : List Value} {h : bw_H} {k : bw_C} (hq : bq_ic nL i n pc ls st h = some k) : k.2.2.2.1 = h.1 := by
  unfold bq_ic at hq
  repeat' split at hq
  all_goals (first | (cases hq; rfl) | cases hq)
theorem bz_ii {f : Int32 → Int32 → Int32} {pc : Nat} {ls : bw_L} {st : List Value} {h : bw_H} {k : bw_C} (hq : bq_ii f pc ls st h = some k) : k.2.2.2.1 = h.1 := by
  unfold bq_ii at hq
  repeat' split at hq
  all_goals (first | (cases hq; rfl) | cases hq)
theorem bz_id {f : Int32 → Int32 → Int32} {pc : Nat} {ls : bw_L} {st : List Value} {h : bw_H} {k : bw_C} (hq : bq_id f pc ls st h = some k) : k.2.2.2.1 = h.1 := by
  unfold bq_id at hq
  repeat' split at hq
  all_goals (first | (cases hq; rfl) | cases hq)
theorem bz_jj {f : Int64 → Int64 → Int64} {pc : Nat} {ls : bw_L} {st : List Value} {h : bw_H} {k : bw_C} (hq : bq_jj f pc ls st h = some k) : k.2.2.2.1 = h.1 := by
  unfold bq_jj at hq
  repeat' split at hq
  all_goals (first | (cases hq; rfl) | cases hq)
theorem bz_jd {f : Int64 → Int64 → Int64} {pc : Nat} {ls : bw_L} {st : List Value} {h : bw_H} {k : bw_C} (hq : bq_jd f pc ls st h = some k) : k.2.2.2.1 = h.1 := by
  unfold bq_jd at hq
  repeat' split at hq
  all_goals (first | (cases hq; rfl) | cases hq)
theorem bz_i1 {f : Int32 → Value} {pc : Nat} {ls : bw_L} {st : List Value} {h : bw_H} {k : bw_C} (hq : bq_i1 f pc ls st h = some k) : k.2.2.2.1 = h.1 := by
  unfold bq_i1 at hq
  repeat' split at hq
  all_goals (first | (cases hq; rfl) | cases hq)
theorem bz_j1 {f : Int64 → Value} {pc : Nat} {ls : bw_L} {st : List Value} {h : bw_H} {k : bw_C} (hq : bq_j1 f pc ls st h = some k) : k.2.2.2.1 = h.1 := by
  unfold bq_j1 at hq
  repeat' split at hq
  all_goals (first | (cases hq; rfl) | cases hq)
theorem bz_ju  {pc : Nat} {ls : bw_L} {st : List Value} {h : bw_H} {k : bw_C} (hq : bq_ju  pc ls st h = some k) : k.2.2.2.1 = h.1 := by
  unfold bq_ju at hq
  repeat' split at hq
  all_goals (first | (cases hq; rfl) | cases hq)
theorem bz_cm  {pc : Nat} {ls : bw_L} {st : List Value} {h : bw_H} {k : bw_C} (hq : bq_cm  pc ls st h = some k) : k.2.2.2.1 = h.1 := by
  unfold bq_cm at hq
  repeat' split at hq
  all_goals (first | (cases hq; rfl) | cases hq)
theorem bz_du  {pc : Nat} {ls : bw_L} {st : List Value} {h : bw_H} {k : bw_C} (hq : bq_du  pc ls st h = some k) : k.2.2.2.1 = h.1 := by
  unfold bq_du at hq
  repeat' split at hq
  all_goals (first | (cases hq; rfl) | cases hq)
theorem bz_d2  {pc : Nat} {ls : bw_L} {st : List Value} {h : bw_H} {k : bw_C} (hq : bq_d2  pc ls st h = some k) : k.2.2.2.1 = h.1 := by
  unfold bq_d2 at hq
  repeat' split at hq
  all_goals (first | (cases hq; rfl) | cases hq)
theorem bz_cn {w : Nat} {v : Value} {pc : Nat} {ls : bw_L} {st : List Value} {h : bw_H} {k : bw_C} (hq : bq_cn w v pc ls st h = some k) : k.2.2.2.1 = h.1 := by
  unfold bq_cn at hq
  repeat' split at hq
  all_goals (first | (cases hq; rfl) | cases hq)
theorem bz_go {off : Int} {pc : Nat} {ls : bw_L} {st : List Value} {h : bw_H} {k : bw_C} (hq : bq_go off pc ls st h = some k) : k.2.2.2.1 = h.1 := by
  unfold bq_go at hq
  repeat' split at hq
  all_goals (first | (cases hq; rfl) | cases hq)
theorem bz_if {d : Int32 → Bool} {off : Int} {pc : Nat} {ls : bw_L} {st : List Value} {h : bw_H} {k : bw_C} (hq : bq_if d off pc ls st h = some k) : k.2.2.2.1 = h.1 := by
  unfold bq_if at hq
  repeat' split at hq
  all_goals (first | (cases hq; rfl) | cases hq)
theorem bz_cp {d : Int32 → Int32 → Bool} {off : Int} {pc : Nat} {ls : bw_L} {st : List Value} {h : bw_H} {k : bw_C} (hq : bq_cp d off pc ls st h = some k) : k.2.2.2.1 = h.1 := by
  unfold bq_cp at hq
  repeat' split at hq
  all_goals (first | (cases hq; rfl) | cases hq)
theorem bz_nu {off : Int} {pc : Nat} {ls : bw_L} {st : List Value} {h : bw_H} {k : bw_C} (hq : bq_nu off pc ls st h = some k) : k.2.2.2.1 = h.1 := by
  unfold bq_nu at hq
  repeat' split at hq
  all_goals (first | (cases hq; rfl) | cases hq)
theorem bz_nn {off : Int} {pc : Nat} {ls : bw_L} {st : List Value} {h : bw_H} {k : bw_C} (hq : bq_nn off pc ls st h = some k) : k.2.2.2.1 = h.1 := by
  unfold bq_nn at hq
  repeat' split at hq
  all_goals (first | (cases hq; rfl) | cases hq)
theorem bz_ts {df lo hi : Int} {offs : Array Int} {pc : Nat} {ls : bw_L} {st : List Value} {h : bw_H} {k : bw_C} (hq : bq_ts df lo hi offs pc ls st h = some k) : k.2.2.2.1 = h.1 := by
  unfold bq_ts at hq
  repeat' split at hq
  all_goals (first | (cases hq; rfl) | cases hq)
theorem bz_gf {f : Option (Nat × Nat)} {pc : Nat} {ls : bw_L} {st : List Value} {h : bw_H} {k : bw_C} (hq : bq_gf f pc ls st h = some k) : k.2.2.2.1 = h.1 := by
  unfold bq_gf at hq
  repeat' split at hq
  all_goals (first | (cases hq; rfl) | cases hq)
theorem bz_pf {o : Nat} {ini : Bool} {f : Option (Nat × Nat)} {pc : Nat} {ls : bw_L} {st : List Value} {h : bw_H} {k : bw_C} (hq : bq_pf o ini f pc ls st h = some k) : k.2.2.2.1 = h.1 := by
  unfold bq_pf at hq
  repeat' split at hq
  all_goals (first | (cases hq; rfl) | cases hq)
theorem bz_gs {b : Bool} {pc : Nat} {ls : bw_L} {st : List Value} {h : bw_H} {k : bw_C} (hq : bq_gs b pc ls st h = some k) : k.2.2.2.1 = h.1 := by
  unfold bq_gs at hq
  repeat' split at hq
  all_goals (first | (cases hq; rfl) | cases hq)
theorem bz_la  {pc : Nat} {ls : bw_L} {st : List Value} {h : bw_H} {k : bw_C} (hq : bq_la  pc ls st h = some k) : k.2.2.2.1 = h.1 := by
  unfold bq_la at hq
  repeat' split at hq
  all_goals (first | (cases hq; rfl) | cases hq)
theorem bz_ia {X : Nat × (Nat → Int32)} {pc : Nat} {ls : bw_L} {st : List Value} {h : bw_H} {k : bw_C} (hq : bq_ia X pc ls st h = some k) : k.2.2.2.1 = h.1 := by
  unfold bq_ia at hq
  repeat' split at hq
  all_goals (first | (cases hq; rfl) | cases hq)
theorem bz_ba  {pc : Nat} {ls : bw_L} {st : List Value} {h : bw_H} {k : bw_C} (hq : bq_ba  pc ls st h = some k) : k.2.2.2.1 = h.1 := by
  unfold bq_ba at hq
  repeat' split at hq
  all_goals (first | (cases hq; rfl) | cases hq)
theorem bz_aa  {pc : Nat} {ls : bw_L} {st : List Value} {h : bw_H} {k : bw_C} (hq : bq_aa  pc ls st h = some k) : k.2.2.2.1 = h.1 := by
  unfold bq_aa at hq
  repeat' split at hq
  all_goals (first | (cases hq; rfl) | cases hq)
theorem bz_ist  {pc : Nat} {ls : bw_L} {st : List Value} {h : bw_H} {k : bw_C} (hq : bq_ist  pc ls st h = some k) : k.2.2.2.1 = h.1 := by
  unfold bq_ist at hq
  repeat' split at hq
  all_goals (first | (cases hq; rfl) | cases hq)
theorem bz_bst  {pc : Nat} {ls : bw_L} {st : List Value} {h : bw_H} {k : bw_C} (hq : bq_bst  pc ls st h = some k) : k.2.2.2.1 = h.1 := by
  unfold bq_bst at hq
  repeat' split at hq
  all_goals (first | (cases hq; rfl) | cases hq)
theorem bz_ast  {pc : Nat} {ls : bw_L} {st : List Value} {h : bw_H} {k : bw_C} (hq : bq_ast  pc ls st h = some k) : k.2.2.2.1 = h.1 := by
  unfold bq_ast at hq
  repeat' split at hq
  all_goals (first | (cases hq; rfl) | cases hq)
theorem bz_len {X : Nat × (Nat → Int32)} {pc : Nat} {ls : bw_L} {st : List Value} {h : bw_H} {k : bw_C} (hq : bq_len X pc ls st h = some k) : k.2.2.2.1 = h.1 := by
  unfold bq_len at hq
  repeat' split at hq
  all_goals (first | (cases hq; rfl) | cases hq)
theorem bz_oi {b : Bool} {pc : Nat} {ls : bw_L} {st : List Value} {h : bw_H} {k : bw_C} (hq : bq_oi b pc ls st h = some k) : k.2.2.2.1 = h.1 := by
  unfold bq_oi at hq
  repeat' split at hq
  all_goals (first | (cases hq; rfl) | cases hq)
theorem bz_ac {b : Bool} {pc : Nat} {ls : bw_L} {st : List Value} {h : bw_H} {k : bw_C} (hq : bq_ac b pc ls st h = some k) : k.2.2.2.1 = h.1 := by
  unfold bq_ac at hq
  repeat' split at hq
  all_goals (first | (cases hq; rfl) | cases hq)
theorem bz_mx {b : Bool} {pc : Nat} {ls : bw_L} {st : List Value} {h : bw_H} {k : bw_C} (hq : bq_mx b pc ls st h = some k) : k.2.2.2.1 = h.1 := by
  unfold bq_mx at hq
  repeat' split at hq
  all_goals (first | (cases hq; rfl) | cases hq)
theorem bz_new {c : Option Nat} {pc : Nat} {ls : bw_L} {st : List Value} {h : bw_H} {k : bw_C} (hq : bq_new c pc ls st h = some k) : bw_n h ≤ bw_n k.2.2.2 ∧ bw_s h ≤ bw_s k.2.2.2 := by
  unfold bq_new at hq
  repeat' split at hq
  all_goals (first | (cases hq; exact ⟨Nat.le_add_right _ _, Nat.le_add_right _ _⟩) | cases hq)
theorem bz_na {t : ArrayType} {pc : Nat} {ls : bw_L} {st : List Value} {h : bw_H} {k : bw_C} (hq : bq_na t pc ls st h = some k) : bw_n h ≤ bw_n k.2.2.2 ∧ bw_s h ≤ bw_s k.2.2.2 := by
  unfold bq_na at hq
  repeat' split at hq
  all_goals (first | (cases hq; exact ⟨Nat.le_add_right _ _, Nat.le_add_right _ _⟩) | cases hq)
theorem bz_an {b : Bool} {pc : Nat} {ls : bw_L} {st : List Value} {h : bw_H} {k : bw_C} (hq : bq_an b pc ls st h = some k) : bw_n h ≤ bw_n k.2.2.2 ∧ bw_s h ≤ bw_s k.2.2.2 := by
  unfold bq_an at hq
  repeat' split at hq
  all_goals (first | (cases hq; exact ⟨Nat.le_add_right _ _, Nat.le_add_right _ _⟩) | cases hq)
theorem bz_eq {h : bw_H} {k : bw_C} (e : k.2.2.2.1 = h.1) : bw_n h ≤ bw_n k.2.2.2 ∧ bw_s h ≤ bw_s k.2.2.2 := by
  unfold bw_n bw_s
  rw [e]
  exact ⟨Nat.le_refl _, Nat.le_refl _⟩
theorem bw_wl {len n : Nat} (h : len = n ∨ n = 0) (hn : n ≠ 0) : len = n := h.elim id (fun z => absurd z hn)
def bw_kw (C : String) (ix : Nat) (v : Value) : Cond := match v with
  | .int x => Cond.constant C ix x
  | .long x => Cond.constantLong C ix x
  | _ => Cond.tt
theorem bw_kc_ok {o ix : Nat} {v : Value} (h : bw_kc o ix = some v) : bw_kw (bw_R o) ix v ∈ lw_tbl := by
  unfold bw_kc at h
  cases hf : bw_KT.find? (fun e => e.1 == o && e.2.1 == ix) with
  | none => rw [hf] at h; cases h
  | some x =>
    rw [hf] at h
    have hv : x.2.2.1 = v := Option.some.inj h
    obtain ⟨h1, rfl, rfl⟩ := bw_find_in hf
    have h2 := of_decide_eq_true (List.all_eq_true.mp bw_KT_ok x h1)
    subst hv
    exact List.mem_of_getElem? h2
section BX
variable {p : Program} {l : Launch} {e : Env} {R : Room} {s : State} {m : MethodId} {args : Array Value} {below : List Frame} {meth : Method} {c : Code} {Q : State → Prop} {D : va_G} {cA : FieldType → ClassId} {g : Nat × Nat × Nat} {nL cells slots : Nat} {pc : Nat} {ls : bw_L} {st : List Value} {h : bw_H} {k : bw_C} {cc : ByteArray} {o : Nat} {X : Nat × (Nat → Int32)} {ini : Bool}
theorem bw_keep (e1 : k.2.2.2.1 = h.1) (K : bw_at p l e R s m args below meth c Q D cA g nL (cells + (bw_n k.2.2.2 - bw_n h)) (slots + (bw_s k.2.2.2 - bw_s h)) k) : bw_at p l e R s m args below meth c Q D cA g nL cells slots k := by
  have h1 : bw_n k.2.2.2 - bw_n h = 0 := by unfold bw_n; rw [e1]; exact Nat.sub_self _
  have h2 : bw_s k.2.2.2 - bw_s h = 0 := by unfold bw_s; rw [e1]; exact Nat.sub_self _
  rw [h1, h2] at K
  exact K
def bw_Cx (p : Program) (s : State) (m : MethodId) (args : Array Value) (meth : Method) (c : Code) (D : va_G) (cA : FieldType → ClassId) (g : Nat × Nat × Nat) (X : Nat × (Nat → Int32)) (o nL : Nat) (ini : Bool) (cc : ByteArray) : Prop :=
  p.tables.exec = Jvm.exec ∧ c.code = cc ∧ c.maxLocals = nL ∧ s.vm.findClass (bw_R o) = some m.cls ∧ (∀ w ∈ bw_Ts, w.before args s = true) ∧ va_K D vwCl (bw_tys cA) s ∧ va_Z "BearWitness$Looks" "SETS_WITH" "[J" (.ref g.2.1) (bw_A g) s s.heap ∧ va_T .long g.2.1 6 (fun j => .long (bw_set6 j)) (bw_A g) s s.heap ∧ va_T .int g.2.2 X.1 (fun j => .int (X.2 j)) (bw_A g) s s.heap ∧ (ini = true → meth.name = "<init>") ∧ va_AO RX1 s ∧ (∀ q, s.heap.size ≤ q → bw_A g q)
theorem bw_x_ok {i : Instr} {len : Nat} (C0 : bw_Cx p s m args meth c D cA g X o nL ini cc) (hdg : decode cc pc = .ok (i, len)) (hw : len = bw_w i ∨ bw_w i = 0) (hf1 : 1 ≤ R.frames) (hf2 : 60 ≤ R.locals)
    (hq : bw_x X o nL ini i pc ls st h = some k) (hcells : cells + (bw_n k.2.2.2 - bw_n h) ≤ R.cells) (hslots : slots + (bw_s k.2.2.2 - bw_s h) ≤ R.slots) (K : bw_at p l e R s m args below meth c Q D cA g nL (cells + (bw_n k.2.2.2 - bw_n h)) (slots + (bw_s k.2.2.2 - bw_s h)) k) :
    (bw_n h ≤ bw_n k.2.2.2 ∧ bw_s h ≤ bw_s k.2.2.2) ∧ bw_at p l e R s m args below meth c Q D cA g nL cells slots (pc, ls, st, h) := by
  obtain ⟨hx, hb, hml, hown, hts, hK, hZ, hT6, hT, hini, hao, hA⟩ := C0
  have hA2 : s.heap.size ≤ s.heap.size ∧ ∀ q, s.heap.size ≤ q → bw_A g q := ⟨Nat.le_refl _, hA⟩
  cases i with
  | iload a => obtain rfl := bw_wl (n := 2) hw (by decide); exact ⟨bz_eq (bz_il hq), bo_il (fun H locs la x r ha kk => lv_iload hx hb hdg ha kk) hq (bw_keep (bz_il hq) K)⟩
  | iload_n a => obtain rfl := bw_wl (n := 1) hw (by decide); exact ⟨bz_eq (bz_il hq), bo_il (fun H locs la x r ha kk => lv_iload_n hx hb hdg rfl ha kk) hq (bw_keep (bz_il hq) K)⟩
  | lload a => obtain rfl := bw_wl (n := 2) hw (by decide); exact ⟨bz_eq (bz_ll hq), bo_ll (fun H locs la x r ha kk => lv_lload hx hb hdg ha kk) hq (bw_keep (bz_ll hq) K)⟩
  | lload_n a => obtain rfl := bw_wl (n := 1) hw (by decide); exact ⟨bz_eq (bz_ll hq), bo_ll (fun H locs la x r ha kk => lv_lload_n hx hb hdg rfl ha kk) hq (bw_keep (bz_ll hq) K)⟩
  | aload a => obtain rfl := bw_wl (n := 2) hw (by decide); exact ⟨bz_eq (bz_al hq), bo_al (fun H locs la x r ha kk => lv_aload hx hb hdg ha kk) (fun H locs la r ha kk => lv_aloadN hx hb hdg ha kk) hq (bw_keep (bz_al hq) K)⟩
  | aload_n a => obtain rfl := bw_wl (n := 1) hw (by decide); exact ⟨bz_eq (bz_al hq), bo_al (fun H locs la x r ha kk => lv_aload_n hx hb hdg rfl ha kk) (fun H locs la r ha kk => lv_aload_nN hx hb hdg rfl ha kk) hq (bw_keep (bz_al hq) K)⟩
  | istore a => obtain rfl := bw_wl (n := 2) hw (by decide); exact ⟨bz_eq (bz_is hq), bo_is (fun H locs la x lv lv' r h1 h2 h3 kk => lv_istore hx hb hdg h1 h2 h3 kk) hq (bw_keep (bz_is hq) K)⟩
  | istore_n a => obtain rfl := bw_wl (n := 1) hw (by decide); exact ⟨bz_eq (bz_is hq), bo_is (fun H locs la x lv lv' r h1 h2 h3 kk => lv_istore_n hx hb hdg rfl h1 h2 h3 kk) hq (bw_keep (bz_is hq) K)⟩
  | lstore a => obtain rfl := bw_wl (n := 2) hw (by decide); exact ⟨bz_eq (bz_ls hq), bo_ls (fun H locs la x lv lv' r h1 h2 h3 kk => lv_lstore hx hb hdg h1 h2 h3 kk) hq (bw_keep (bz_ls hq) K)⟩
  | lstore_n a => obtain rfl := bw_wl (n := 1) hw (by decide); exact ⟨bz_eq (bz_ls hq), bo_ls (fun H locs la x lv lv' r h1 h2 h3 kk => lv_lstore_n hx hb hdg rfl h1 h2 h3 kk) hq (bw_keep (bz_ls hq) K)⟩
  | astore a => obtain rfl := bw_wl (n := 2) hw (by decide); exact ⟨bz_eq (bz_as hq), bo_as (fun H locs la x lv lv' r h1 h2 h3 kk => lv_astore hx hb hdg h1 h2 h3 kk) (fun H locs la lv lv' r h1 h2 h3 kk => lv_astoreN hx hb hdg h1 h2 h3 kk) hq (bw_keep (bz_as hq) K)⟩
  | astore_n a => obtain rfl := bw_wl (n := 1) hw (by decide); exact ⟨bz_eq (bz_as hq), bo_as (fun H locs la x lv lv' r h1 h2 h3 kk => lv_astore_n hx hb hdg rfl h1 h2 h3 kk) (fun H locs la lv lv' r h1 h2 h3 kk => lv_astore_nN hx hb hdg rfl h1 h2 h3 kk) hq (bw_keep (bz_as hq) K)⟩
  | iinc a n => obtain rfl := bw_wl (n := 3) hw (by decide); exact ⟨bz_eq (bz_ic hq), bo_ic (fun H locs la x v lv lv' j r h1 h2 h3 h4 h5 kk => lv_iinc hx hb hdg h1 h2 h3 h4 h5 kk) hq (bw_keep (bz_ic hq) K)⟩
  | iconst a => obtain rfl := bw_wl (n := 1) hw (by decide); exact ⟨bz_eq (bz_cn hq), bo_cn (fun H locs la r kk => lv_iconst hx hb hdg rfl kk) hq (bw_keep (bz_cn hq) K)⟩
  | bipush a => obtain rfl := bw_wl (n := 2) hw (by decide); exact ⟨bz_eq (bz_cn hq), bo_cn (fun H locs la r kk => lv_bipush hx hb hdg rfl kk) hq (bw_keep (bz_cn hq) K)⟩
  | sipush a => obtain rfl := bw_wl (n := 3) hw (by decide); exact ⟨bz_eq (bz_cn hq), bo_cn (fun H locs la r kk => lv_sipush hx hb hdg rfl kk) hq (bw_keep (bz_cn hq) K)⟩
  | lconst a => obtain rfl := bw_wl (n := 1) hw (by decide); exact ⟨bz_eq (bz_cn hq), bo_cn (fun H locs la r kk => lv_lconst hx hb hdg rfl kk) hq (bw_keep (bz_cn hq) K)⟩
  | aconst_null => obtain rfl := bw_wl (n := 1) hw (by decide); exact ⟨bz_eq (bz_cn hq), bo_cn (fun H locs la r kk => lv_null hx hb hdg kk) hq (bw_keep (bz_cn hq) K)⟩
  | ldc a =>
    obtain rfl := bw_wl (n := 2) hw (by decide)
    have hq' : (match bw_kc o a with | some (.int v) => bq_cn 2 (.int v) | _ => fun _ _ _ _ => none) pc ls st h = some k := hq
    cases hkc : bw_kc o a with
    | none => rw [hkc] at hq'; cases hq'
    | some v =>
      rw [hkc] at hq'
      cases v with
      | int v =>
        have hm := bw_kc_ok hkc
        exact ⟨bz_eq (bz_cn hq'), bo_cn (fun H locs la r kk => lv_ldc hx hb hown (hts _ (bw_in hm rfl)) hdg kk) hq' (bw_keep (bz_cn hq') K)⟩
      | _ => cases hq'
  | ldc_w a =>
    obtain rfl := bw_wl (n := 3) hw (by decide)
    have hq' : (match bw_kc o a with | some (.int v) => bq_cn 3 (.int v) | _ => fun _ _ _ _ => none) pc ls st h = some k := hq
    cases hkc : bw_kc o a with
    | none => rw [hkc] at hq'; cases hq'
    | some v =>
      rw [hkc] at hq'
      cases v with
      | int v =>
        have hm := bw_kc_ok hkc
        exact ⟨bz_eq (bz_cn hq'), bo_cn (fun H locs la r kk => lv_ldcw hx hb hown (hts _ (bw_in hm rfl)) hdg kk) hq' (bw_keep (bz_cn hq') K)⟩
      | _ => cases hq'
  | ldc2_w a =>
    obtain rfl := bw_wl (n := 3) hw (by decide)
    have hq' : (match bw_kc o a with | some (.long v) => bq_cn 3 (.long v) | _ => fun _ _ _ _ => none) pc ls st h = some k := hq
    cases hkc : bw_kc o a with
    | none => rw [hkc] at hq'; cases hq'
    | some v =>
      rw [hkc] at hq'
      cases v with
      | long v =>
        have hm := bw_kc_ok hkc
        exact ⟨bz_eq (bz_cn hq'), bo_cn (fun H locs la r kk => lv_ldc2 hx hb hown (hts _ (bw_in hm rfl)) hdg kk) hq' (bw_keep (bz_cn hq') K)⟩
      | _ => cases hq'
  | iadd => obtain rfl := bw_wl (n := 1) hw (by decide); exact ⟨bz_eq (bz_ii hq), bo_ii (fun H locs la x y r kk => lv_iadd hx hb hdg kk) hq (bw_keep (bz_ii hq) K)⟩
  | isub => obtain rfl := bw_wl (n := 1) hw (by decide); exact ⟨bz_eq (bz_ii hq), bo_ii (fun H locs la x y r kk => lv_isub hx hb hdg kk) hq (bw_keep (bz_ii hq) K)⟩
  | imul => obtain rfl := bw_wl (n := 1) hw (by decide); exact ⟨bz_eq (bz_ii hq), bo_ii (fun H locs la x y r kk => lv_imul hx hb hdg kk) hq (bw_keep (bz_ii hq) K)⟩
  | iand => obtain rfl := bw_wl (n := 1) hw (by decide); exact ⟨bz_eq (bz_ii hq), bo_ii (fun H locs la x y r kk => lv_iand hx hb hdg kk) hq (bw_keep (bz_ii hq) K)⟩
  | ior => obtain rfl := bw_wl (n := 1) hw (by decide); exact ⟨bz_eq (bz_ii hq), bo_ii (fun H locs la x y r kk => lv_ior hx hb hdg kk) hq (bw_keep (bz_ii hq) K)⟩
  | ixor => obtain rfl := bw_wl (n := 1) hw (by decide); exact ⟨bz_eq (bz_ii hq), bo_ii (fun H locs la x y r kk => lv_ixor hx hb hdg kk) hq (bw_keep (bz_ii hq) K)⟩
  | ishl => obtain rfl := bw_wl (n := 1) hw (by decide); exact ⟨bz_eq (bz_ii hq), bo_ii (fun H locs la x y r kk => lv_ishl hx hb hdg kk) hq (bw_keep (bz_ii hq) K)⟩
  | ishr => obtain rfl := bw_wl (n := 1) hw (by decide); exact ⟨bz_eq (bz_ii hq), bo_ii (fun H locs la x y r kk => lv_ishr hx hb hdg kk) hq (bw_keep (bz_ii hq) K)⟩
  | iushr => obtain rfl := bw_wl (n := 1) hw (by decide); exact ⟨bz_eq (bz_ii hq), bo_ii (fun H locs la x y r kk => lv_iushr hx hb hdg rfl kk) hq (bw_keep (bz_ii hq) K)⟩
  | idiv => obtain rfl := bw_wl (n := 1) hw (by decide); exact ⟨bz_eq (bz_id hq), bo_id (fun H locs la x y r hn kk => lv_idiv hx hb hdg hn kk) hq (bw_keep (bz_id hq) K)⟩
  | irem => obtain rfl := bw_wl (n := 1) hw (by decide); exact ⟨bz_eq (bz_id hq), bo_id (fun H locs la x y r hn kk => lv_irem hx hb hdg hn kk) hq (bw_keep (bz_id hq) K)⟩
  | ladd => obtain rfl := bw_wl (n := 1) hw (by decide); exact ⟨bz_eq (bz_jj hq), bo_jj (fun H locs la x y r kk => lv_ladd hx hb hdg kk) hq (bw_keep (bz_jj hq) K)⟩
  | lsub => obtain rfl := bw_wl (n := 1) hw (by decide); exact ⟨bz_eq (bz_jj hq), bo_jj (fun H locs la x y r kk => lv_lsub hx hb hdg kk) hq (bw_keep (bz_jj hq) K)⟩
  | lmul => obtain rfl := bw_wl (n := 1) hw (by decide); exact ⟨bz_eq (bz_jj hq), bo_jj (fun H locs la x y r kk => lv_lmul hx hb hdg kk) hq (bw_keep (bz_jj hq) K)⟩
  | land => obtain rfl := bw_wl (n := 1) hw (by decide); exact ⟨bz_eq (bz_jj hq), bo_jj (fun H locs la x y r kk => lv_land hx hb hdg kk) hq (bw_keep (bz_jj hq) K)⟩
  | lor => obtain rfl := bw_wl (n := 1) hw (by decide); exact ⟨bz_eq (bz_jj hq), bo_jj (fun H locs la x y r kk => lv_lor hx hb hdg kk) hq (bw_keep (bz_jj hq) K)⟩
  | lxor => obtain rfl := bw_wl (n := 1) hw (by decide); exact ⟨bz_eq (bz_jj hq), bo_jj (fun H locs la x y r kk => lv_lxor hx hb hdg kk) hq (bw_keep (bz_jj hq) K)⟩
  | ldiv => obtain rfl := bw_wl (n := 1) hw (by decide); exact ⟨bz_eq (bz_jd hq), bo_jd (fun H locs la x y r hn kk => lv_ldiv hx hb hdg hn kk) hq (bw_keep (bz_jd hq) K)⟩
  | lrem => obtain rfl := bw_wl (n := 1) hw (by decide); exact ⟨bz_eq (bz_jd hq), bo_jd (fun H locs la x y r hn kk => lv_lrem hx hb hdg hn kk) hq (bw_keep (bz_jd hq) K)⟩
  | lushr => obtain rfl := bw_wl (n := 1) hw (by decide); exact ⟨bz_eq (bz_ju hq), bo_ju hx hb hdg hq (bw_keep (bz_ju hq) K)⟩
  | ineg => obtain rfl := bw_wl (n := 1) hw (by decide); exact ⟨bz_eq (bz_i1 hq), bo_i1 (f := fun x => .int (-x)) (fun H locs la x r kk => lv_ineg hx hb hdg kk) hq (bw_keep (bz_i1 hq) K)⟩
  | lneg => obtain rfl := bw_wl (n := 1) hw (by decide); exact ⟨bz_eq (bz_j1 hq), bo_j1 (f := fun x => .long (-x)) (fun H locs la x r kk => lv_lneg hx hb hdg kk) hq (bw_keep (bz_j1 hq) K)⟩
  | i2l => obtain rfl := bw_wl (n := 1) hw (by decide); exact ⟨bz_eq (bz_i1 hq), bo_i1 (f := fun x => .long x.toInt64) (fun H locs la x r kk => lv_i2l hx hb hdg rfl kk) hq (bw_keep (bz_i1 hq) K)⟩
  | i2b => obtain rfl := bw_wl (n := 1) hw (by decide); exact ⟨bz_eq (bz_i1 hq), bo_i1 (f := fun x => .int x.toInt8.toInt32) (fun H locs la x r kk => lv_i2b hx hb hdg rfl kk) hq (bw_keep (bz_i1 hq) K)⟩
  | l2i => obtain rfl := bw_wl (n := 1) hw (by decide); exact ⟨bz_eq (bz_j1 hq), bo_j1 (f := fun x => .int x.toInt32) (fun H locs la x r kk => lv_l2i hx hb hdg rfl kk) hq (bw_keep (bz_j1 hq) K)⟩
  | lcmp => obtain rfl := bw_wl (n := 1) hw (by decide); exact ⟨bz_eq (bz_cm hq), bo_cm hx hb hdg hq (bw_keep (bz_cm hq) K)⟩
  | dup => obtain rfl := bw_wl (n := 1) hw (by decide); exact ⟨bz_eq (bz_du hq), bo_du hx hb hdg hq (bw_keep (bz_du hq) K)⟩
  | dup2 => obtain rfl := bw_wl (n := 1) hw (by decide); exact ⟨bz_eq (bz_d2 hq), bo_d2 hx hb hdg hq (bw_keep (bz_d2 hq) K)⟩
  | goto a => obtain rfl := bw_wl (n := 3) hw (by decide); exact ⟨bz_eq (bz_go hq), bo_go hx hb hdg hq (bw_keep (bz_go hq) K)⟩
  | ifCond cd off =>
    obtain rfl := bw_wl (n := 3) hw (by decide)
    cases cd with
    | eq => exact ⟨bz_eq (bz_if hq), bo_if (fun H locs la x r q hj k1 k2 => lv_if_eq hx hb hdg hj (fun z => k1 (decide_eq_true z)) (fun z => k2 (fun y => z (of_decide_eq_true y)))) hq (bw_keep (bz_if hq) K)⟩
    | ne => exact ⟨bz_eq (bz_if hq), bo_if (fun H locs la x r q hj k1 k2 => lv_if_ne hx hb hdg hj (fun z => k1 (decide_eq_true z)) (fun z => k2 (fun y => of_decide_eq_true y z))) hq (bw_keep (bz_if hq) K)⟩
    | lt => exact ⟨bz_eq (bz_if hq), bo_if (fun H locs la x r q hj k1 k2 => lv_if_lt hx hb hdg hj (fun z => k1 (decide_eq_true z)) (fun z => k2 (fun y => z (of_decide_eq_true y)))) hq (bw_keep (bz_if hq) K)⟩
    | ge => exact ⟨bz_eq (bz_if hq), bo_if (fun H locs la x r q hj k1 k2 => lv_if_ge hx hb hdg hj (fun z => k1 (decide_eq_true z)) (fun z => k2 (fun y => z (of_decide_eq_true y)))) hq (bw_keep (bz_if hq) K)⟩
    | gt => exact ⟨bz_eq (bz_if hq), bo_if (fun H locs la x r q hj k1 k2 => lv_if_gt hx hb hdg hj (fun z => k1 (decide_eq_true z)) (fun z => k2 (fun y => z (of_decide_eq_true y)))) hq (bw_keep (bz_if hq) K)⟩
    | le => exact ⟨bz_eq (bz_if hq), bo_if (fun H locs la x r q hj k1 k2 => lv_if_le hx hb hdg hj (fun z => k1 (decide_eq_true z)) (fun z => k2 (fun y => z (of_decide_eq_true y)))) hq (bw_keep (bz_if hq) K)⟩
  | if_icmp cd off =>
    obtain rfl := bw_wl (n := 3) hw (by decide)
    cases cd with
    | eq => exact ⟨bz_eq (bz_cp hq), bo_cp (fun H locs la x y r q hj k1 k2 => lv_icmp_eq hx hb hdg hj (fun z => k1 (decide_eq_true z)) (fun z => k2 (fun y => z (of_decide_eq_true y)))) hq (bw_keep (bz_cp hq) K)⟩
    | ne => exact ⟨bz_eq (bz_cp hq), bo_cp (fun H locs la x y r q hj k1 k2 => lv_icmp_ne hx hb hdg hj (fun z => k1 (decide_eq_true z)) (fun z => k2 (fun y => of_decide_eq_true y z))) hq (bw_keep (bz_cp hq) K)⟩
    | lt => exact ⟨bz_eq (bz_cp hq), bo_cp (fun H locs la x y r q hj k1 k2 => lv_icmp_lt hx hb hdg hj (fun z => k1 (decide_eq_true z)) (fun z => k2 (fun y => z (of_decide_eq_true y)))) hq (bw_keep (bz_cp hq) K)⟩
    | ge => exact ⟨bz_eq (bz_cp hq), bo_cp (fun H locs la x y r q hj k1 k2 => lv_icmp_ge hx hb hdg hj (fun z => k1 (decide_eq_true z)) (fun z => k2 (fun y => z (of_decide_eq_true y)))) hq (bw_keep (bz_cp hq) K)⟩
    | gt => exact ⟨bz_eq (bz_cp hq), bo_cp (fun H locs la x y r q hj k1 k2 => lv_icmp_gt hx hb hdg hj (fun z => k1 (decide_eq_true z)) (fun z => k2 (fun y => z (of_decide_eq_true y)))) hq (bw_keep (bz_cp hq) K)⟩
    | le => exact ⟨bz_eq (bz_cp hq), bo_cp (fun H locs la x y r q hj k1 k2 => lv_icmp_le hx hb hdg hj (fun z => k1 (decide_eq_true z)) (fun z => k2 (fun y => z (of_decide_eq_true y)))) hq (bw_keep (bz_cp hq) K)⟩
  | ifnull a => obtain rfl := bw_wl (n := 3) hw (by decide); exact ⟨bz_eq (bz_nu hq), bo_nu hx hb hdg hq (bw_keep (bz_nu hq) K)⟩
  | ifnonnull a => obtain rfl := bw_wl (n := 3) hw (by decide); exact ⟨bz_eq (bz_nn hq), bo_nn hx hb hdg hq (bw_keep (bz_nn hq) K)⟩
  | tableswitch a b d f => exact ⟨bz_eq (bz_ts hq), bo_ts hx hb hdg hq (bw_keep (bz_ts hq) K)⟩
  | getfield a => obtain rfl := bw_wl (n := 3) hw (by decide); exact ⟨bz_eq (bz_gf hq), bo_gf hx hb hown hts hK hdg hq (bw_keep (bz_gf hq) K)⟩
  | putfield a => obtain rfl := bw_wl (n := 3) hw (by decide); exact ⟨bz_eq (bz_pf hq), bo_pf hx hb hown hts hK hini hdg hq (bw_keep (bz_pf hq) K)⟩
  | getstatic a => obtain rfl := bw_wl (n := 3) hw (by decide); exact ⟨bz_eq (bz_gs hq), bo_gs hx hb hown hts hZ hdg hq (bw_keep (bz_gs hq) K)⟩
  | laload => obtain rfl := bw_wl (n := 1) hw (by decide); exact ⟨bz_eq (bz_la hq), bo_la hx hb hT6 hdg hq (bw_keep (bz_la hq) K)⟩
  | iaload => obtain rfl := bw_wl (n := 1) hw (by decide); exact ⟨bz_eq (bz_ia hq), bo_ia hx hb hK hT hdg hq (bw_keep (bz_ia hq) K)⟩
  | baload => obtain rfl := bw_wl (n := 1) hw (by decide); exact ⟨bz_eq (bz_ba hq), bo_ba hx hb hK hdg hq (bw_keep (bz_ba hq) K)⟩
  | aaload => obtain rfl := bw_wl (n := 1) hw (by decide); exact ⟨bz_eq (bz_aa hq), bo_aa hx hb hK hdg hq (bw_keep (bz_aa hq) K)⟩
  | iastore => obtain rfl := bw_wl (n := 1) hw (by decide); exact ⟨bz_eq (bz_ist hq), bo_ist hx hb hK hdg hq (bw_keep (bz_ist hq) K)⟩
  | bastore => obtain rfl := bw_wl (n := 1) hw (by decide); exact ⟨bz_eq (bz_bst hq), bo_bst hx hb hK hdg hq (bw_keep (bz_bst hq) K)⟩
  | aastore => obtain rfl := bw_wl (n := 1) hw (by decide); exact ⟨bz_eq (bz_ast hq), bo_ast hx hb hK hdg hq (bw_keep (bz_ast hq) K)⟩
  | arraylength => obtain rfl := bw_wl (n := 1) hw (by decide); exact ⟨bz_eq (bz_len hq), bo_len hx hb hK hT6 hT hdg hq (bw_keep (bz_len hq) K)⟩
  | new a => obtain rfl := bw_wl (n := 3) hw (by decide); exact ⟨bz_new hq, bo_new hx hb hown hts hK hA2 hdg hq hcells hslots K⟩
  | newarray a => obtain rfl := bw_wl (n := 2) hw (by decide); exact ⟨bz_na hq, bo_na hx hb hts hK hA2 hdg hq hcells hslots K⟩
  | anewarray a => obtain rfl := bw_wl (n := 3) hw (by decide); exact ⟨bz_an hq, bo_an hx hb hown hts hao hK hA2 hdg hq hcells hslots K⟩
  | invokespecial a => obtain rfl := bw_wl (n := 3) hw (by decide); exact ⟨bz_eq (bz_oi hq), bo_oi hx hb hml hown hts hf1 hf2 hdg hq (bw_keep (bz_oi hq) K)⟩
  | invokestatic a =>
    obtain rfl := bw_wl (n := 3) hw (by decide)
    have hq' : (match bw_mx o a with | some b => bq_mx b | none => bq_ac (bw_ac o a)) pc ls st h = some k := hq
    cases hmx : bw_mx o a with
    | some b =>
      rw [hmx] at hq'
      have hz := bz_mx hq'
      exact ⟨bz_eq hz, bo_mx hx hb hml hown hts hf1 hf2 (by omega) (by omega) hmx hdg hq' (bw_keep hz K)⟩
    | none =>
      rw [hmx] at hq'
      exact ⟨bz_eq (bz_ac hq'), bo_ac hx hb hml hown hts hK hf1 hf2 hdg hq' (bw_keep (bz_ac hq') K)⟩
  | _ => exact absurd (show (none : Option bw_C) = some k from hq) (fun z => by cases z)
end BX
end
section
/-! ends, calls, and the small machine whole: what it answers, the JVM answers -/
def bw_Qc (D : va_G) (cA : FieldType → ClassId) (g : Nat × Nat × Nat) (v : Option Value) (h' : bw_H) : Array Value → State → Outcome → State → Prop := fun _ st oc t => oc = .returned (v.map (bw_tr g)) ∧ va_P D vwCl (bw_ws cA g h') t.heap ∧ va_F (bw_A g) st t
def bw_Pc (D : va_G) (cA : FieldType → ClassId) (g : Nat × Nat × Nat) (X : Nat × (Nat → Int32)) (as : List Value) (h : bw_H) : Array Value → State → Prop := va_Pc (as.map (bw_tr g)) (fun U => U.heap.size ≤ g.1 + bw_n h ∧ va_P D vwCl (bw_ws cA g h) U.heap ∧ va_K D vwCl (bw_tys cA) U ∧ va_AO RX1 U ∧ (∀ w ∈ bw_gd, w.before #[] U = true) ∧ va_Z "BearWitness$Looks" "SETS_WITH" "[J" (.ref g.2.1) (bw_A g) U U.heap ∧ va_T .long g.2.1 6 (fun j => .long (bw_set6 j)) (bw_A g) U U.heap ∧ va_T .int g.2.2 X.1 (fun j => .int (X.2 j)) (bw_A g) U U.heap ∧ (∀ q, U.heap.size ≤ q → bw_A g q))
abbrev bw_wz (M : bw_M) : List Cond := bw_cd M :: [Cond.arrayClass .int, Cond.arrayClass .boolean]
def bw_ok (M : bw_M) : Prop := bw_cd M ∈ lw_tbl ∧ (M.2.1.cls ≠ "java/lang/invoke/MethodHandle" ∧ M.2.1.cls ≠ "java/lang/invoke/VarHandle") ∧ bw_R M.1 = M.2.1.cls ∧ (parseMethodDescriptor M.2.1.desc).map (fun d => d.parameters.length) = some M.2.2.2.2.2 ∧ Jvm.plainName M.2.1.cls = true
theorem bw_mt_ok {o ix kd : Nat} {M : bw_M} (h : bw_mt o ix = some (kd, M)) : bw_ok M ∧ (if kd % 2 = 1 then Cond.methodLinkNest (bw_R o) ix M.2.1 "BearWitness" else Cond.methodLink (bw_R o) ix M.2.1) ∈ lw_tbl ∧ (if kd ≤ 1 then Cond.static M.2.1 else Cond.instanceMethod M.2.1) ∈ lw_tbl ∧ (kd = 2 ∨ kd = 3 → Cond.selects M.2.1.cls M.2.1 M.2.1 ∈ lw_tbl) ∧ Cond.initialized M.2.1.cls ∈ lw_tbl := by
  unfold bw_mt at h
  cases hf : bw_MT.find? (fun e => e.1 == o && e.2.1 == ix) with
  | none => rw [hf] at h; cases h
  | some x =>
    rw [hf] at h
    have hv : (x.2.2.1, x.2.2.2.1) = (kd, M) := Option.some.inj h
    obtain ⟨h1, rfl, rfl⟩ := bw_find_in hf
    have a1 : x.2.2.1 = kd := congrArg Prod.fst hv
    have a2 : x.2.2.2.1 = M := congrArg Prod.snd hv
    have b1 := List.all_eq_true.mp bw_MT_ok x h1
    have b2 := List.all_eq_true.mp bw_MT_ok2 x h1
    have b3 := List.all_eq_true.mp bw_MT_ok3 x h1
    have b4 := List.all_eq_true.mp bw_MT_ok4 x h1
    have b5 := List.all_eq_true.mp bw_MT_ok5 x h1
    have b6 := bw_all_mem bw_MT_code x h1
    simp only [Bool.and_eq_true, Bool.or_eq_true, decide_eq_true_eq] at b1 b2 b3 b4
    rw [a1, a2] at b1
    rw [a2] at b2 b3 b4 b5 b6
    obtain ⟨⟨⟨c1, c2⟩, c3⟩, c4⟩ := b1
    refine ⟨⟨b6, b2.2, b3, b4, b5⟩, List.mem_of_getElem? c1, List.mem_of_getElem? c2, fun hk => ?_, List.mem_of_getElem? c4⟩
    rcases c3 with c3 | c3
    · omega
    · exact List.mem_of_getElem? c3
theorem bw_lgsl (g : Nat × Nat × Nat) : ∀ as : List Value, (lg_sl (as.map (bw_tr g))).length = (lg_sl as).length
  | [] => rfl
  | v :: as => by
    have ih := bw_lgsl g as
    unfold lg_sl at ih ⊢
    rw [List.map_cons, List.flatMap_cons, List.flatMap_cons, List.length_append, List.length_append, ih, bw_tr_cat]
    congr 1
    split <;> rfl
theorem bw_lvargs (g : Nat × Nat × Nat) : ∀ (as : List Value) (i : Nat), lv_args i (as.map (bw_tr g)) = bw_tl g (lv_args i as)
  | [], _ => rfl
  | v :: as, i => by
    show (i, bw_tr g v) :: lv_args (if (bw_tr g v).category = 2 then i + 2 else i + 1) (as.map (bw_tr g)) = (i, bw_tr g v) :: bw_tl g (lv_args (if v.category = 2 then i + 2 else i + 1) as)
    rw [bw_tr_cat, bw_lvargs g as]
section BC
variable {p : Program} {l : Launch} {e : Env} {R : Room} {s : State} {m : MethodId} {args : Array Value} {below : List Frame} {meth : Method} {c : Code} {Q : State → Prop} {D : va_G} {cA : FieldType → ClassId} {g : Nat × Nat × Nat} {nL cells slots : Nat} {pc : Nat} {ls : bw_L} {st : List Value} {h : bw_H} {k : bw_C} {cc : ByteArray} {o : Nat} {X : Nat × (Nat → Int32)} {ini : Bool}
theorem bw_e_ok {rt : Option FieldType} {i : Instr} {len : Nat} {v : Option Value} (C0 : bw_Cx p s m args meth c D cA g X o nL ini cc) (hdg : decode cc pc = .ok (i, len)) (hw : len = bw_w i ∨ bw_w i = 0) (hr : meth.sig.returnType = rt) (hlocks : meth.locks = false) (hq : bw_e rt i st = some v) :
    bw_at p l e R s m args below meth c (MQ below (bw_Qc D cA g v h) args s cells slots (bw_A g)) D cA g nL cells slots (pc, ls, st, h) := by
  obtain ⟨hx, hb, -, -, -, -, -, -, -, -, -, -⟩ := C0
  unfold bw_e at hq
  split at hq
  · obtain rfl := bw_wl (n := 1) hw (by decide)
    split at hq
    · rename_i ty
      split at hq
      · rename_i hn
        cases hq
        intro H locs la hi hl
        exact W.zret hx hb hr hn (fun t ht _ => ⟨rfl, by rw [ht]; exact hi.1, hi.2.1.F ht⟩) hi.2.1.2.2 hdg hlocks
      · cases hq
    · cases hq
  · obtain rfl := bw_wl (n := 1) hw (by decide)
    split at hq
    · rename_i hrt
      cases hq
      intro H locs la hi hl
      exact W.lret hx hb (hr.trans hrt) (fun t ht _ => ⟨rfl, by rw [ht]; exact hi.1, hi.2.1.F ht⟩) hi.2.1.2.2 hdg hlocks
    · cases hq
  · obtain rfl := bw_wl (n := 1) hw (by decide)
    split at hq
    · rename_i n
      cases hq
      intro H locs la hi hl
      exact W.aret hx hb hr (Or.inl ⟨n, rfl⟩) (Or.inr ⟨_, rfl⟩) (fun t ht _ => ⟨rfl, by rw [ht]; exact hi.1, hi.2.1.F ht⟩) hi.2.1.2.2 hdg hlocks
    · cases hq
  · obtain rfl := bw_wl (n := 1) hw (by decide)
    split at hq
    · rename_i n
      cases hq
      intro H locs la hi hl
      exact W.aret hx hb hr (Or.inl ⟨n, rfl⟩) (Or.inl rfl) (fun t ht _ => ⟨rfl, by rw [ht]; exact hi.1, hi.2.1.F ht⟩) hi.2.1.2.2 hdg hlocks
    · cases hq
  · obtain rfl := bw_wl (n := 1) hw (by decide)
    split at hq
    · rename_i hrt
      cases hq
      intro H locs la hi hl
      exact W.vret hx hb (hr.trans hrt) (fun t ht _ => ⟨rfl, by rw [ht]; exact hi.1, hi.2.1.F ht⟩) hi.2.1.2.2 hdg hlocks
    · cases hq
  · cases hq
theorem bw_cont {H : Heap} {locs : List Loc} {la : Array Slot} {st0 rest : List Value} {mc ms : Nat} {Qa : State → Outcome → State → Prop} {free : Addr → Prop} (hr : va_Run p l e R s m args below meth c H locs cells slots mc ms (F0 m pc la st0) rest Qa free)
    (kk : ∀ (v : Option Value) (st₀ t : State) (H1 : Heap) (L : List Loc), st₀.heap = H → t.heap = H1 → Qa st₀ (.returned v) t → (∀ q ∈ L, free q.base) → W p l e R s m args below meth c H1 (locs ++ L) (cells + mc) (slots + ms) Q (F0 m (pc + 3) la (v.toList ++ rest))) : W p l e R s m args below meth c H locs cells slots Q (F0 m pc la st0) := by
  intro T hT Y
  obtain ⟨v, st₀, t, T', L, a1, a2, a3, a4, -, a6, a7⟩ := hr T hT Y
  obtain ⟨t', b1, b2⟩ := kk v st₀ t T'.heap L a1 a4.symm a6 a3 T' rfl a2
  exact ⟨t', a7 _ b1, b2⟩
theorem bw_blind {as : List Value} : FrameBlind (bw_Pc D cA g X as h) := by
  intro a U fr mk q
  obtain ⟨q1, q2, q3, q4, q5, q6, q7, q8, q9, q10⟩ := q
  exact ⟨q1, q2, q3, va_K.moved (u := U) (U := U.calling fr mk a) (Vm.Alike.refl U.vm) q4, va_AO.moved (u := U) (U := U.calling fr mk a) (Vm.Alike.refl U.vm) q5, fun w hw => va_tabs (u := U) (by
    have := (List.mem_filter.mp hw).2
    simp only [Bool.and_eq_true] at this
    exact this.1) rfl (q6 w hw), va_Z.moved (u := U) (U := U.calling fr mk a) (Vm.Alike.refl U.vm) q7, va_T.moved (u := U) (U := U.calling fr mk a) (Vm.Alike.refl U.vm) q8, va_T.moved (u := U) (U := U.calling fr mk a) (Vm.Alike.refl U.vm) q9, q10⟩
theorem bw_pre {H : Heap} {locs : List Loc} {as : List Value} (C0 : bw_Cx p s m args meth c D cA g X o nL ini cc) (hi : bw_inv D cA g s cells h H locs) (hsz : H.size ≤ s.heap.size + cells) : ∀ U : State, U.heap = H → s.WarmedH U.vm → bw_Pc D cA g X as h (as.map (bw_tr g)).toArray U := by
  obtain ⟨hx, hb, hml, hown, hts, hK, hZ, hT6, hT, hini, hao, hA⟩ := C0
  intro U hU hW
  have hkp : ∀ a : Nat, a < s.heap.size → ¬ bw_A g a → U.heap[a]? = s.heap[a]? := fun a h1 h2 => by rw [hU]; exact hi.2.1.2.1 a h1 h2
  refine ⟨rfl, ?_, ?_, va_K.moved hW.alike hK, va_AO.moved hW.alike hao, fun w hw => ?_, (va_Z.moved hW.alike hZ).kept hkp, (va_T.moved hW.alike hT6).kept hkp, (va_T.moved hW.alike hT).kept hkp, fun q hq => ?_⟩
  · rw [hU]
    have e0 := hi.2.2
    omega
  · rw [hU]; exact hi.1
  · have h0 := (List.mem_filter.mp hw).2
    simp only [Bool.and_eq_true] at h0
    exact va_tabs (u := s.setVm U.vm) (A := #[]) h0.1 rfl (Cond.onTables_warmH (args' := #[]) (T := s) hW h0.1 h0.2 (hts w (List.mem_append_left _ hw)))
  · exact hA q (Nat.le_trans hi.2.1.1 (by rw [← hU]; exact hq))
theorem bw_after {H H1 : Heap} {locs L : List Loc} {v0 : Option Value} {vv : Option Value} {h1 : bw_H} {st₀ t : State} {a : Array Value} (hi : bw_inv D cA g s cells h H locs) (hn : bw_n h ≤ bw_n h1) (e0 : st₀.heap = H) (e1 : t.heap = H1) (hQ : bw_Qc D cA g v0 h1 a st₀ (.returned vv) t) (hL : ∀ q ∈ L, bw_A g q.base) : vv = v0.map (bw_tr g) ∧ bw_inv D cA g s (cells + (bw_n h1 - bw_n h)) h1 H1 (locs ++ L) := by
  obtain ⟨q1, q2, q3⟩ := hQ
  subst e0 e1
  refine ⟨Outcome.returned.inj q1, q2, ⟨Nat.le_trans hi.2.1.1 q3.1, fun q h2 h3 => ?_, fun q hq => ?_⟩, ?_⟩
  · rw [q3.2 q (Nat.lt_of_lt_of_le h2 hi.2.1.1) h3]
    exact hi.2.1.2.1 q h2 h3
  · rcases List.mem_append.mp hq with hq | hq
    · exact hi.2.1.2.2 q hq
    · exact hL q hq
  · have e0 := hi.2.2
    omega
/-- a call: out of the callee's contract, and of what comes behind it -/
theorem bw_c_ok {i : Instr} {len d : Nat} {M : bw_M} {im : Bool} {as r : List Value} {v : Option Value} {h1 : bw_H} (C0 : bw_Cx p s m args meth c D cA g X o nL ini cc) (hdg : decode cc pc = .ok (i, len)) (hw : len = bw_w i ∨ bw_w i = 0) (hf1 : d + 2 ≤ R.frames) (hf2 : 60 * (d + 2) ≤ R.locals)
    (hq : bw_c o i st h = some (M, im, as, r)) (hn : bw_n h ≤ bw_n h1) (hc : cells + (bw_n h1 - bw_n h) ≤ R.cells) (hs : slots + (bw_s h1 - bw_s h) ≤ R.slots)
    (hM : bw_ok M → (im = true → M.2.1.name = "<init>") → (lg_sl as).length ≤ M.2.2.2.1 → Met l M.2.1 (bw_wz M) { frames := d + 1, cells := bw_n h1 - bw_n h, slots := bw_s h1 - bw_s h, locals := 60 * (d + 1) } (bw_Pc D cA g X as h) (bw_Qc D cA g v h1) (bw_n h1 - bw_n h) (bw_s h1 - bw_s h) (bw_A g))
    (K : bw_at p l e R s m args below meth c Q D cA g nL (cells + (bw_n h1 - bw_n h)) (slots + (bw_s h1 - bw_s h)) (pc + 3, ls, v.toList ++ r, h1)) : bw_at p l e R s m args below meth c Q D cA g nL cells slots (pc, ls, st, h) := by
  obtain ⟨hx, hb, hml, hown, hts, hK, hZ, hT6, hT, hini, hao, hA⟩ := id C0
  have hG : ∀ M : bw_M, bw_ok M → GoodIn bw_Ts (bw_wz M) := fun M hok w hw => by
    rcases List.mem_cons.mp hw with rfl | hw
    · exact ⟨bw_in hok.1 rfl, Or.inl rfl⟩
    · refine ⟨List.mem_append_right _ hw, Or.inr ?_⟩
      rcases List.mem_cons.mp hw with rfl | hw
      · exact ⟨_, rfl⟩
      · rcases List.mem_cons.mp hw with rfl | hw
        · exact ⟨_, rfl⟩
        · exact absurd hw List.not_mem_nil
  have hMt : ∀ n : Nat, (st.take n).reverse.map (bw_tr g) = ((st.map (bw_tr g)).take n).reverse := fun n => by rw [← List.map_take, ← List.map_reverse]
  have Kc : ∀ (H : Heap) (locs : List Loc) (la : Array Slot), bw_inv D cA g s cells h H locs → lv_has la nL (bw_tl g ls) → ∀ (vv : Option Value) (st₀ t : State) (H1 : Heap) (L : List Loc), st₀.heap = H → t.heap = H1 → bw_Qc D cA g v h1 (as.map (bw_tr g)).toArray st₀ (.returned vv) t → (∀ q ∈ L, bw_A g q.base) → W p l e R s m args below meth c H1 (locs ++ L) (cells + (bw_n h1 - bw_n h)) (slots + (bw_s h1 - bw_s h)) Q (F0 m (pc + 3) la (vv.toList ++ r.map (bw_tr g))) := by
    intro H locs la hi hl vv st₀ t H1 L a1 a2 a3 a4
    obtain ⟨rfl, hi1⟩ := bw_after hi hn a1 a2 a3 a4
    have := K H1 (locs ++ L) la hi1 hl
    rw [show ((v.toList ++ r).map (bw_tr g)) = (v.map (bw_tr g)).toList ++ r.map (bw_tr g) by cases v <;> rfl] at this
    exact this
  unfold bw_c at hq
  split at hq
  · rename_i ix
    obtain rfl := bw_wl (n := 3) hw (by decide)
    split at hq
    · rename_i kd M0 hmt
      split at hq
      · rename_i hh
        cases hq
        obtain ⟨hkd, hle, hsum, hlen, hL30⟩ := hh
        obtain ⟨hok, w1, w2, -, w4⟩ := bw_mt_ok hmt
        have hMM := hM hok (fun z => by cases z) hlen
        rw [if_pos hkd] at w2
        have hstk : st.map (bw_tr g) = ((st.take M.2.2.2.2.2).reverse.map (bw_tr g)).reverse ++ (st.drop M.2.2.2.2.2).map (bw_tr g) := by
          rw [List.map_reverse, List.reverse_reverse, ← List.map_append, List.take_append_drop]
        have hnn : ((st.take M.2.2.2.2.2).reverse.map (bw_tr g)).length = M.2.2.2.2.2 := by
          rw [List.length_map, List.length_reverse, List.length_take]; omega
        intro H locs la hi hl
        refine bw_Wsz fun hsz => ?_
        have hWd : 2 * (F0 m pc la (st.map (bw_tr g))).monitorRoom + (((st.drop M.2.2.2.2.2).map (bw_tr g)).map fun v => v.category).sum ≤ 8 := by
          rw [bw_sum_tr]; show 2 * 0 + _ ≤ 8; omega
        rcases (show kd = 0 ∨ kd = 1 by omega) with rfl | rfl
        · exact bw_cont (va_runS ⟨hx, hb, hml, hown, hts⟩ hMM (va_cwS M.2.2.2.2.2 hts (by
            intro w hw
            rcases List.mem_append.mp hw with hw | hw
            · rcases List.mem_cons.mp hw with rfl | hw
              · exact ⟨bw_in w1 rfl, Or.inl rfl⟩
              · rcases List.mem_cons.mp hw with rfl | hw
                · exact ⟨bw_in w2 rfl, Or.inl rfl⟩
                · rcases List.mem_cons.mp hw with rfl | hw
                  · exact ⟨bw_in w4 rfl, Or.inl rfl⟩
                  · exact absurd hw List.not_mem_nil
            · exact hG M hok w hw) rfl rfl rfl ⟨hok.2.1.1, hok.2.1.2, hok.2.2.2.1⟩ ⟨by show d + 1 + 1 ≤ _; omega, by show 8 + (M.2.2.2.1 + 11) + 60 * (d + 1) ≤ _; omega⟩) ⟨bw_blind, bw_pre C0 hi hsz⟩ rfl hnn hl.1 hstk hWd hdg ⟨hc, hs⟩) (Kc H locs la hi hl)
        · exact bw_cont (va_runSN ⟨hx, hb, hml, hown, hts⟩ hMM ⟨va_cnB M.2.2.2.2.2 hts (hG M hok) rfl rfl rfl (va_Nw.of rfl (hts _ (bw_in w1 rfl))) (hts _ (bw_in w4 rfl)) ⟨hok.2.1.1, hok.2.1.2, hok.2.2.2.1⟩ ⟨by show d + 1 + 1 ≤ _; omega, by show 8 + (M.2.2.2.1 + 11) + 60 * (d + 1) ≤ _; omega⟩, hts _ (bw_in w2 rfl), trivial⟩ ⟨bw_blind, bw_pre C0 hi hsz⟩ rfl hnn hl.1 hstk hWd hdg ⟨hc, hs⟩) (Kc H locs la hi hl)
      · cases hq
    · cases hq
  · rename_i ix
    obtain rfl := bw_wl (n := 3) hw (by decide)
    split at hq
    · rename_i kd M0 hmt
      split at hq
      · rename_i a r0 hdr
        split at hq
        · rename_i hh
          cases hq
          obtain ⟨hkd, hle, han, hka, hM9, hsum, hlen, hL30⟩ := hh
          obtain ⟨hok, w1, w2, w3, w4⟩ := bw_mt_ok hmt
          have hMM := hM hok (fun z => by cases z) hlen
          rw [if_neg (by omega)] at w2
          have hstk : st.map (bw_tr g) = ((st.take M.2.2.2.2.2).reverse.map (bw_tr g)).reverse ++ Value.ref (g.1 + a) :: r.map (bw_tr g) := by
            rw [List.map_reverse, List.reverse_reverse]
            have := congrArg (List.map (bw_tr g)) (List.take_append_drop M.2.2.2.2.2 st)
            rw [hdr, List.map_append] at this
            exact this.symm
          have hnn : ((st.take M.2.2.2.2.2).reverse.map (bw_tr g)).length = M.2.2.2.2.2 := by
            rw [List.length_map, List.length_reverse, List.length_take]; omega
          intro H locs la hi hl
          refine bw_Wsz fun hsz => ?_
          have hWd : 2 * (F0 m pc la (st.map (bw_tr g))).monitorRoom + ((r.map (bw_tr g)).map fun v => v.category).sum ≤ 8 := by
            rw [bw_sum_tr]; show 2 * 0 + _ ≤ 8; omega
          have he := bw_ws_get (cA := cA) (g := g) han
          rw [bw_en_o hka] at he
          have hrecv := va_recv hK hi.1 (bw_cl9 M.1 hM9) he
          rw [hok.2.2.1] at hrecv
          rcases hkd with rfl | rfl
          · exact bw_cont (va_runV ⟨hx, hb, hml, hown, hts⟩ hMM (cwV M.2.2.2.2.2 hts (by
              intro w hw
              rcases List.mem_append.mp hw with hw | hw
              · rcases List.mem_cons.mp hw with rfl | hw
                · exact ⟨bw_in w1 rfl, Or.inl rfl⟩
                · rcases List.mem_cons.mp hw with rfl | hw
                  · exact ⟨bw_in w2 rfl, Or.inl rfl⟩
                  · rcases List.mem_cons.mp hw with rfl | hw
                    · exact ⟨bw_in (w3 (Or.inl rfl)) rfl, Or.inl rfl⟩
                    · rcases List.mem_cons.mp hw with rfl | hw
                      · exact ⟨bw_in w4 rfl, Or.inl rfl⟩
                      · exact absurd hw List.not_mem_nil
              · exact hG M hok w hw) rfl rfl rfl ⟨rfl, hok.2.1.1, hok.2.1.2, hok.2.2.2.1⟩ ⟨by show d + 1 + 1 ≤ _; omega, by show 8 + (M.2.2.2.1 + 11) + 60 * (d + 1) ≤ _; omega⟩) ⟨bw_blind, hrecv, bw_pre C0 hi hsz⟩ rfl hnn hl.1 hstk hWd hdg ⟨hc, hs⟩) (Kc H locs la hi hl)
          · exact bw_cont (va_runVN ⟨hx, hb, hml, hown, hts⟩ hMM ⟨va_cnB M.2.2.2.2.2 hts (hG M hok) rfl rfl rfl (va_Nw.of rfl (hts _ (bw_in w1 rfl))) (hts _ (bw_in w4 rfl)) ⟨hok.2.1.1, hok.2.1.2, hok.2.2.2.1⟩ ⟨by show d + 1 + 1 ≤ _; omega, by show 8 + (M.2.2.2.1 + 11) + 60 * (d + 1) ≤ _; omega⟩, hts _ (bw_in w2 rfl), hts _ (bw_in (w3 (Or.inr rfl)) rfl)⟩ ⟨bw_blind, hrecv, bw_pre C0 hi hsz⟩ rfl hnn hl.1 hstk hWd hdg ⟨hc, hs⟩) (Kc H locs la hi hl)
        · cases hq
      · cases hq
    · cases hq
  · rename_i ix
    obtain rfl := bw_wl (n := 3) hw (by decide)
    split at hq
    · rename_i kd M0 hmt
      split at hq
      · rename_i a r0 hdr
        split at hq
        · rename_i hh
          cases hq
          obtain ⟨hkd, hle, hnm, hrn, hsum, hlen, hL30⟩ := hh
          obtain ⟨hok, w1, w2, -, w4⟩ := bw_mt_ok hmt
          have hMM := hM hok (fun _ => hnm) hlen
          rw [if_neg (by omega)] at w2
          have hstk : st.map (bw_tr g) = ((st.take M.2.2.2.2.2).reverse.map (bw_tr g)).reverse ++ Value.ref (g.1 + a) :: r.map (bw_tr g) := by
            rw [List.map_reverse, List.reverse_reverse]
            have := congrArg (List.map (bw_tr g)) (List.take_append_drop M.2.2.2.2.2 st)
            rw [hdr, List.map_append] at this
            exact this.symm
          have hnn : ((st.take M.2.2.2.2.2).reverse.map (bw_tr g)).length = M.2.2.2.2.2 := by
            rw [List.length_map, List.length_reverse, List.length_take]; omega
          intro H locs la hi hl
          refine bw_Wsz fun hsz => ?_
          have hWd : 2 * (F0 m pc la (st.map (bw_tr g))).monitorRoom + ((r.map (bw_tr g)).map fun v => v.category).sum ≤ 8 := by
            rw [bw_sum_tr]; show 2 * 0 + _ ≤ 8; omega
          have hcode : bw_wz M = Cond.code M.2.1 M.2.2.1 M.2.2.2.1 none :: [Cond.arrayClass .int, Cond.arrayClass .boolean] := by
            show Cond.code M.2.1 M.2.2.1 M.2.2.2.1 M.2.2.2.2.1 :: _ = _
            rw [hrn]
          rcases hkd with rfl | rfl
          · exact bw_cont (va_runI ⟨hx, hb, hml, hown, hts⟩ hMM (cwI M.2.2.2.2.2 hts (hG M hok) hcode rfl rfl (hts _ (bw_in w4 rfl)) (hts _ (bw_in w1 rfl)) (hts _ (bw_in w2 rfl)) hnm ⟨hok.2.1.1, hok.2.1.2, hok.2.2.2.1⟩ ⟨by show d + 1 + 1 ≤ _; omega, by show 8 + (M.2.2.2.1 + 11) + 60 * (d + 1) ≤ _; omega⟩) ⟨bw_blind, bw_pre C0 hi hsz⟩ rfl hnn hl.1 hstk hWd hdg ⟨hc, hs⟩) (Kc H locs la hi hl)
          · exact bw_cont (va_runIN ⟨hx, hb, hml, hown, hts⟩ hMM ⟨va_cnB M.2.2.2.2.2 hts (hG M hok) hcode rfl rfl (va_Nw.of rfl (hts _ (bw_in w1 rfl))) (hts _ (bw_in w4 rfl)) ⟨hok.2.1.1, hok.2.1.2, hok.2.2.2.1⟩ ⟨by show d + 1 + 1 ≤ _; omega, by show 8 + (M.2.2.2.1 + 11) + 60 * (d + 1) ≤ _; omega⟩, hnm, hts _ (bw_in w2 rfl)⟩ ⟨bw_blind, bw_pre C0 hi hsz⟩ rfl hnn hl.1 hstk hWd hdg ⟨hc, hs⟩) (Kc H locs la hi hl)
        · cases hq
      · cases hq
    · cases hq
  · cases hq
end BC
end
section
/-! the small machine whole -/
theorem bw_x_mono {X : Nat × (Nat → Int32)} {o nL : Nat} {ini : Bool} {i : Instr} {pc : Nat} {ls : bw_L} {st : List Value} {h : bw_H} {k : bw_C} (hq : bw_x X o nL ini i pc ls st h = some k) : bw_n h ≤ bw_n k.2.2.2 ∧ bw_s h ≤ bw_s k.2.2.2 := by
  cases i with
  | iload a => exact bz_eq (bz_il hq)
  | iload_n a => exact bz_eq (bz_il hq)
  | lload a => exact bz_eq (bz_ll hq)
  | lload_n a => exact bz_eq (bz_ll hq)
  | aload a => exact bz_eq (bz_al hq)
  | aload_n a => exact bz_eq (bz_al hq)
  | istore a => exact bz_eq (bz_is hq)
  | istore_n a => exact bz_eq (bz_is hq)
  | lstore a => exact bz_eq (bz_ls hq)
  | lstore_n a => exact bz_eq (bz_ls hq)
  | astore a => exact bz_eq (bz_as hq)
  | astore_n a => exact bz_eq (bz_as hq)
  | iinc a n => exact bz_eq (bz_ic hq)
  | iconst a => exact bz_eq (bz_cn hq)
  | bipush a => exact bz_eq (bz_cn hq)
  | sipush a => exact bz_eq (bz_cn hq)
  | lconst a => exact bz_eq (bz_cn hq)
  | aconst_null => exact bz_eq (bz_cn hq)
  | iadd => exact bz_eq (bz_ii hq)
  | isub => exact bz_eq (bz_ii hq)
  | imul => exact bz_eq (bz_ii hq)
  | iand => exact bz_eq (bz_ii hq)
  | ior => exact bz_eq (bz_ii hq)
  | ixor => exact bz_eq (bz_ii hq)
  | ishl => exact bz_eq (bz_ii hq)
  | ishr => exact bz_eq (bz_ii hq)
  | iushr => exact bz_eq (bz_ii hq)
  | idiv => exact bz_eq (bz_id hq)
  | irem => exact bz_eq (bz_id hq)
  | ladd => exact bz_eq (bz_jj hq)
  | lsub => exact bz_eq (bz_jj hq)
  | lmul => exact bz_eq (bz_jj hq)
  | land => exact bz_eq (bz_jj hq)
  | lor => exact bz_eq (bz_jj hq)
  | lxor => exact bz_eq (bz_jj hq)
  | ldiv => exact bz_eq (bz_jd hq)
  | lrem => exact bz_eq (bz_jd hq)
  | lushr => exact bz_eq (bz_ju hq)
  | ineg => exact bz_eq (bz_i1 hq)
  | lneg => exact bz_eq (bz_j1 hq)
  | i2l => exact bz_eq (bz_i1 hq)
  | i2b => exact bz_eq (bz_i1 hq)
  | l2i => exact bz_eq (bz_j1 hq)
  | lcmp => exact bz_eq (bz_cm hq)
  | dup => exact bz_eq (bz_du hq)
  | dup2 => exact bz_eq (bz_d2 hq)
  | goto a => exact bz_eq (bz_go hq)
  | ifnull a => exact bz_eq (bz_nu hq)
  | ifnonnull a => exact bz_eq (bz_nn hq)
  | tableswitch a b d f => exact bz_eq (bz_ts hq)
  | getfield a => exact bz_eq (bz_gf hq)
  | putfield a => exact bz_eq (bz_pf hq)
  | getstatic a => exact bz_eq (bz_gs hq)
  | laload => exact bz_eq (bz_la hq)
  | iaload => exact bz_eq (bz_ia hq)
  | baload => exact bz_eq (bz_ba hq)
  | aaload => exact bz_eq (bz_aa hq)
  | iastore => exact bz_eq (bz_ist hq)
  | bastore => exact bz_eq (bz_bst hq)
  | aastore => exact bz_eq (bz_ast hq)
  | arraylength => exact bz_eq (bz_len hq)
  | new a => exact bz_new hq
  | newarray a => exact bz_na hq
  | anewarray a => exact bz_an hq
  | invokespecial a => exact bz_eq (bz_oi hq)
  | ldc a =>
    have hq' : (match bw_kc o a with | some (.int v) => bq_cn 2 (.int v) | _ => fun _ _ _ _ => none) pc ls st h = some k := hq
    cases hkc : bw_kc o a with
    | none => rw [hkc] at hq'; cases hq'
    | some v =>
      rw [hkc] at hq'
      cases v with
      | int v => exact bz_eq (bz_cn hq')
      | _ => cases hq'
  | ldc_w a =>
    have hq' : (match bw_kc o a with | some (.int v) => bq_cn 3 (.int v) | _ => fun _ _ _ _ => none) pc ls st h = some k := hq
    cases hkc : bw_kc o a with
    | none => rw [hkc] at hq'; cases hq'
    | some v =>
      rw [hkc] at hq'
      cases v with
      | int v => exact bz_eq (bz_cn hq')
      | _ => cases hq'
  | ldc2_w a =>
    have hq' : (match bw_kc o a with | some (.long v) => bq_cn 3 (.long v) | _ => fun _ _ _ _ => none) pc ls st h = some k := hq
    cases hkc : bw_kc o a with
    | none => rw [hkc] at hq'; cases hq'
    | some v =>
      rw [hkc] at hq'
      cases v with
      | long v => exact bz_eq (bz_cn hq')
      | _ => cases hq'
  | ifCond cd off => cases cd <;> exact bz_eq (bz_if hq)
  | if_icmp cd off => cases cd <;> exact bz_eq (bz_cp hq)
  | invokestatic a =>
    have hq' : (match bw_mx o a with | some b => bq_mx b | none => bq_ac (bw_ac o a)) pc ls st h = some k := hq
    cases hmx : bw_mx o a with
    | some b => rw [hmx] at hq'; exact bz_eq (bz_mx hq')
    | none => rw [hmx] at hq'; exact bz_eq (bz_ac hq')
  | _ => exact absurd (show (none : Option bw_C) = some k from hq) (fun z => by cases z)
theorem bw_snd (X : Nat × (Nat → Int32)) : ∀ (n d o nL : Nat) (ini : Bool) (rt : Option FieldType) (cc : ByteArray) (pc : Nat) (ls : bw_L) (st : List Value) (h : bw_H) (v : Option Value) (h' : bw_H), bw_run X n d o nL ini rt cc pc ls st h = some (v, h') →
    (bw_n h ≤ bw_n h' ∧ bw_s h ≤ bw_s h') ∧ ∀ {p : Program} {l : Launch} {e : Env} {R : Room} {s : State} {m : MethodId} {args : Array Value} {below : List Frame} {meth : Method} {c : Code} {D : va_G} {cA : FieldType → ClassId} {g : Nat × Nat × Nat} {cells slots mc ms : Nat}, bw_Cx p s m args meth c D cA g X o nL ini cc → meth.sig.returnType = rt → meth.locks = false → d + 1 ≤ R.frames → 60 * (d + 1) ≤ R.locals → mc ≤ R.cells → ms ≤ R.slots → cells + (bw_n h' - bw_n h) = mc → slots + (bw_s h' - bw_s h) = ms →
      bw_at p l e R s m args below meth c (MQ below (bw_Qc D cA g v h') args s mc ms (bw_A g)) D cA g nL cells slots (pc, ls, st, h) := by
  intro n
  induction n with
  | zero =>
    intro d o nL ini rt cc pc ls st h v h' hr
    unfold bw_run at hr
    cases hr
  | succ n ih =>
    intro d o nL ini rt cc pc ls st h v h' hr
    unfold bw_run at hr
    split at hr
    · cases hr
    · rename_i i len hdg
      split at hr
      · cases hr
      · rename_i hw0
        have hw : len = bw_w i ∨ bw_w i = 0 := Decidable.of_not_not hw0
        split at hr
        · rename_i pc' ls' st' h1 hx1
          obtain ⟨m1, ih1⟩ := ih d o nL ini rt cc pc' ls' st' h1 v h' hr
          have m0 : bw_n h ≤ bw_n h1 ∧ bw_s h ≤ bw_s h1 := bw_x_mono hx1
          refine ⟨⟨Nat.le_trans m0.1 m1.1, Nat.le_trans m0.2 m1.2⟩, ?_⟩
          intro p l e R s m args below meth c D cA g cells slots mc ms C0 hrt hlk hf1 hf2 hc hs ec es
          refine (bw_x_ok C0 hdg hw (by omega) (by omega) hx1 ?_ ?_ ?_).2
          · have z1 := m0.1; have z2 := m1.1; show cells + (bw_n h1 - bw_n h) ≤ _; omega
          · have z1 := m0.2; have z2 := m1.2; show slots + (bw_s h1 - bw_s h) ≤ _; omega
          · exact ih1 C0 hrt hlk hf1 hf2 hc hs (by have z1 := m0.1; have z2 := m1.1; show cells + (bw_n h1 - bw_n h) + (bw_n h' - bw_n h1) = mc; omega) (by have z1 := m0.2; have z2 := m1.2; show slots + (bw_s h1 - bw_s h) + (bw_s h' - bw_s h1) = ms; omega)
        · split at hr
          · rename_i v1 he
            cases hr
            refine ⟨⟨Nat.le_refl _, Nat.le_refl _⟩, ?_⟩
            intro p l e R s m args below meth c D cA g cells slots mc ms C0 hrt hlk hf1 hf2 hc hs ec es
            rw [Nat.sub_self, Nat.add_zero] at ec es
            subst ec es
            exact bw_e_ok C0 hdg hw hrt hlk he
          · split at hr
            · cases hr
            · rename_i d'
              split at hr
              · rename_i M im as r hcc
                split at hr
                · rename_i v1 h1 hrun
                  obtain ⟨m0, ih0⟩ := ih _ _ _ _ _ _ _ _ _ _ _ _ hrun
                  obtain ⟨m1, ih1⟩ := ih _ _ _ _ _ _ _ _ _ _ _ _ hr
                  refine ⟨⟨Nat.le_trans m0.1 m1.1, Nat.le_trans m0.2 m1.2⟩, ?_⟩
                  intro p l e R s m args below meth c D cA g cells slots mc ms C0 hrt hlk hf1 hf2 hc hs ec es
                  have a1 := m0.1
                  have a2 := m0.2
                  have b1 := m1.1
                  have b2 := m1.2
                  refine bw_c_ok (d := d') C0 hdg hw (by omega) (by omega) hcc a1 (by omega) (by omega) (fun hok hnm hlen => ?_) (ih1 C0 hrt hlk hf1 hf2 hc hs (by omega) (by omega))
                  refine Met.ofW (cc := M.2.2.1) (maxL := M.2.2.2.1) (ret := M.2.2.2.2.1) hok.2.2.2.2 rfl ?_
                  intro p e s m args below meth c s₁ B hml hv
                  obtain ⟨rfl, q2, q3, q4, q5, q6, q7, q8, q9, q10⟩ := hv
                  have hts0 := atoms_spec (ws := bw_wz M) B.pre
                  have hts : ∀ w ∈ bw_Ts, w.before ((as.map (bw_tr g)).toArray) s = true := by
                    intro w hw
                    rcases List.mem_append.mp hw with hw | hw
                    · have h0 := (List.mem_filter.mp hw).2
                      simp only [Bool.and_eq_true] at h0
                      exact va_tabs h0.1 rfl (q6 w hw)
                    · exact hts0 w (List.mem_cons_of_mem _ hw)
                  have C1 : bw_Cx p s m ((as.map (bw_tr g)).toArray) meth c D cA g X M.1 M.2.2.2.1 im M.2.2.1 :=
                    ⟨B.exec, B.bytes, hml, by rw [hok.2.2.1]; exact findClass_of_methodNamed B.named, hts, q4, q7, q8, q9, fun hz => ((name_of_methodNamed B.named B.method).1).trans (hnm hz), q5, q10⟩
                  rw [lg_entry_eq]
                  have hlen2 : (lg_sl (as.map (bw_tr g))).length ≤ M.2.2.2.1 := by rw [bw_lgsl]; exact hlen
                  have hl := lv_entry (as.map (bw_tr g)) hlen2
                  rw [bw_lvargs] at hl
                  exact ih0 C1 B.returns B.notSynchronized (Nat.le_refl _) (Nat.le_refl _) (Nat.le_refl _) (Nat.le_refl _) (Nat.zero_add _) (Nat.zero_add _) s.heap [] _ ⟨q3, va_S.rf, q2⟩ hl
                · cases hr
              · cases hr
end
section
/-! walking the small machine: a row an instruction -/
def bw_go (X : Nat × (Nat → Int32)) (d o nL : Nat) (ini : Bool) (rt : Option FieldType) (cc : ByteArray) (pc : Nat) (ls : bw_L) (st : List Value) (h : bw_H) (Q : Option Value → bw_H → Prop) : Prop := ∃ (n : Nat) (v : Option Value) (h' : bw_H), bw_run X n d o nL ini rt cc pc ls st h = some (v, h') ∧ Q v h'
def bw_me (X : Nat × (Nat → Int32)) (d : Nat) (M : bw_M) (im : Bool) (as : List Value) (h : bw_H) (Q : Option Value → bw_H → Prop) : Prop := bw_go X d M.1 M.2.2.2.1 im M.2.2.2.2.1 M.2.2.1 0 (lv_args 0 as) [] h Q
theorem bw_run_mono (X : Nat × (Nat → Int32)) : ∀ (n n' d d' o nL : Nat) (ini : Bool) (rt : Option FieldType) (cc : ByteArray) (pc : Nat) (ls : bw_L) (st : List Value) (h : bw_H) (r : Option Value × bw_H), n ≤ n' → d ≤ d' → bw_run X n d o nL ini rt cc pc ls st h = some r → bw_run X n' d' o nL ini rt cc pc ls st h = some r := by
  intro n
  induction n with
  | zero => intro n' d d' o nL ini rt cc pc ls st h r _ _ hr; unfold bw_run at hr; cases hr
  | succ n ih =>
    intro n' d d' o nL ini rt cc pc ls st h r hn hd hr
    obtain ⟨n1, rfl⟩ : ∃ n1, n' = n1 + 1 := ⟨n' - 1, by omega⟩
    have hn1 : n ≤ n1 := by omega
    unfold bw_run at hr ⊢
    split at hr
    · cases hr
    · rename_i i len hdg
      try simp only
      split at hr
      · cases hr
      · rename_i hw
        rw [if_neg hw]
        split at hr
        · rename_i hx
          exact ih _ _ _ _ _ _ _ _ _ _ _ _ _ hn1 hd hr
        · rename_i hx
          try simp only
          split at hr
          · exact hr
          · try simp only
            split at hr
            · cases hr
            · rename_i d1
              obtain ⟨d2, rfl⟩ : ∃ d2, d' = d2 + 1 := ⟨d' - 1, by omega⟩
              have hd1 : d1 ≤ d2 := by omega
              try simp only
              split at hr
              · rename_i hc
                split at hr
                · rename_i hrun
                  rw [ih _ _ _ _ _ _ _ _ _ _ _ _ _ hn1 hd1 hrun]
                  exact ih _ _ _ _ _ _ _ _ _ _ _ _ _ hn1 hd hr
                · cases hr
              · cases hr
theorem bw_me_mono {X : Nat × (Nat → Int32)} {d d' : Nat} {M : bw_M} {im : Bool} {as : List Value} {h : bw_H} {Q : Option Value → bw_H → Prop} (hd : d ≤ d') (hm : bw_me X d M im as h Q) : bw_me X d' M im as h Q := by
  obtain ⟨n, v, h', h1, h2⟩ := hm
  exact ⟨n, v, h', bw_run_mono X _ _ _ _ _ _ _ _ _ _ _ _ _ _ (Nat.le_refl _) hd h1, h2⟩
theorem go_for {P : Nat → Prop} {N : Nat} (step : ∀ k, k < N → P (k + 1) → P k) (last : P N) : ∀ k, k ≤ N → P k := by
  intro k hk
  obtain ⟨j, rfl⟩ : ∃ j, k = N - j := ⟨N - k, by omega⟩
  clear hk
  induction j with
  | zero => exact last
  | succ j ih =>
    by_cases hj : j < N
    · refine step _ (by omega) ?_
      rw [show N - (j + 1) + 1 = N - j by omega]
      exact ih
    · rw [show N - (j + 1) = N - j by omega]; exact ih
def bi (b : Bool) : Int32 := if b = true then 1 else 0
section GO
variable {X : Nat × (Nat → Int32)} {d o nL : Nat} {ini : Bool} {rt : Option FieldType} {cc : ByteArray} {pc pc' : Nat} {ls : bw_L} {st r : List Value} {h : bw_H} {Q : Option Value → bw_H → Prop}
theorem go_x {i : Instr} {len : Nat} {ls' : bw_L} {st' : List Value} {h' : bw_H} (hd : decode cc pc = .ok (i, len)) (hw : len = bw_w i ∨ bw_w i = 0) (hx : bw_x X o nL ini i pc ls st h = some (pc', ls', st', h')) (K : bw_go X d o nL ini rt cc pc' ls' st' h' Q) : bw_go X d o nL ini rt cc pc ls st h Q := by
  obtain ⟨n, v, h1, h2, h3⟩ := K
  refine ⟨n + 1, v, h1, ?_, h3⟩
  unfold bw_run
  rw [hd]
  try simp only
  rw [if_neg (fun z => z hw), hx]
  exact h2
theorem go_e {i : Instr} {len : Nat} {v : Option Value} (hd : decode cc pc = .ok (i, len)) (hw : len = bw_w i ∨ bw_w i = 0) (hx : bw_x X o nL ini i pc ls st h = none) (he : bw_e rt i st = some v) (hQ : Q v h) : bw_go X d o nL ini rt cc pc ls st h Q := by
  refine ⟨1, v, h, ?_, hQ⟩
  unfold bw_run
  rw [hd]
  try simp only
  rw [if_neg (fun z => z hw), hx]
  try simp only
  rw [he]
theorem go_c {i : Instr} {len : Nat} {M : bw_M} {im : Bool} {as : List Value} (hd : decode cc pc = .ok (i, len)) (hw : len = bw_w i ∨ bw_w i = 0) (hx : bw_x X o nL ini i pc ls st h = none) (he : bw_e rt i st = none) (hc : bw_c o i st h = some (M, im, as, r)) (hm : bw_me X d M im as h (fun v h1 => bw_go X (d + 1) o nL ini rt cc (pc + 3) ls (v.toList ++ r) h1 Q)) : bw_go X (d + 1) o nL ini rt cc pc ls st h Q := by
  obtain ⟨n, v, h1, h2, n2, v2, h3, h4, h5⟩ := hm
  refine ⟨n + n2 + 1, v2, h3, ?_, h5⟩
  unfold bw_run
  rw [hd]
  try simp only
  rw [if_neg (fun z => z hw), hx]
  try simp only
  rw [he]
  try simp only
  rw [hc]
  try simp only
  rw [bw_run_mono X _ _ _ _ _ _ _ _ _ _ _ _ _ _ (Nat.le_add_right n n2) (Nat.le_refl d) h2]
  exact bw_run_mono X _ _ _ _ _ _ _ _ _ _ _ _ _ _ (Nat.le_add_left n2 n) (Nat.le_refl _) h4
theorem go_iload_n {k : Fin 4} {x : Int32} (hd : decode cc pc = .ok (.iload_n k, 1)) (hl : bw_lg ls (k : Nat) = some (.int x)) (K : bw_go X d o nL ini rt cc (pc + 1) ls (.int x :: st) h Q) : bw_go X d o nL ini rt cc pc ls (st) h Q := by
  refine go_x hd (by first | exact Or.inl rfl | exact Or.inr rfl) ?_ K
  show bq_il 1 (k : Nat) pc ls st h = _
  unfold bq_il; rw [hl]
theorem go_iload {k : Nat} {x : Int32} (hd : decode cc pc = .ok (.iload k, 2)) (hl : bw_lg ls k = some (.int x)) (K : bw_go X d o nL ini rt cc (pc + 2) ls (.int x :: st) h Q) : bw_go X d o nL ini rt cc pc ls (st) h Q := by
  refine go_x hd (by first | exact Or.inl rfl | exact Or.inr rfl) ?_ K
  show bq_il 2 k pc ls st h = _
  unfold bq_il; rw [hl]
theorem go_lload_n {k : Fin 4} {x : Int64} (hd : decode cc pc = .ok (.lload_n k, 1)) (hl : bw_lg ls (k : Nat) = some (.long x)) (K : bw_go X d o nL ini rt cc (pc + 1) ls (.long x :: st) h Q) : bw_go X d o nL ini rt cc pc ls (st) h Q := by
  refine go_x hd (by first | exact Or.inl rfl | exact Or.inr rfl) ?_ K
  show bq_ll 1 (k : Nat) pc ls st h = _
  unfold bq_ll; rw [hl]
theorem go_lload {k : Nat} {x : Int64} (hd : decode cc pc = .ok (.lload k, 2)) (hl : bw_lg ls k = some (.long x)) (K : bw_go X d o nL ini rt cc (pc + 2) ls (.long x :: st) h Q) : bw_go X d o nL ini rt cc pc ls (st) h Q := by
  refine go_x hd (by first | exact Or.inl rfl | exact Or.inr rfl) ?_ K
  show bq_ll 2 k pc ls st h = _
  unfold bq_ll; rw [hl]
theorem go_aload_n {k : Fin 4} {x : Nat} (hd : decode cc pc = .ok (.aload_n k, 1)) (hl : bw_lg ls (k : Nat) = some (.ref x)) (K : bw_go X d o nL ini rt cc (pc + 1) ls (.ref x :: st) h Q) : bw_go X d o nL ini rt cc pc ls (st) h Q := by
  refine go_x hd (by first | exact Or.inl rfl | exact Or.inr rfl) ?_ K
  show bq_al 1 (k : Nat) pc ls st h = _
  unfold bq_al; rw [hl]
theorem go_aloadA_n {k : Fin 4} {x : Nat} (hd : decode cc pc = .ok (.aload_n k, 1)) (hl : bw_lg ls (k : Nat) = some (.retAddr x)) (K : bw_go X d o nL ini rt cc (pc + 1) ls (.retAddr x :: st) h Q) : bw_go X d o nL ini rt cc pc ls (st) h Q := by
  refine go_x hd (by first | exact Or.inl rfl | exact Or.inr rfl) ?_ K
  show bq_al 1 (k : Nat) pc ls st h = _
  unfold bq_al; rw [hl]
theorem go_aloadN_n {k : Fin 4} (hd : decode cc pc = .ok (.aload_n k, 1)) (hl : bw_lg ls (k : Nat) = some .null) (K : bw_go X d o nL ini rt cc (pc + 1) ls (.null :: st) h Q) : bw_go X d o nL ini rt cc pc ls (st) h Q := by
  refine go_x hd (by first | exact Or.inl rfl | exact Or.inr rfl) ?_ K
  show bq_al 1 (k : Nat) pc ls st h = _
  unfold bq_al; rw [hl]
theorem go_istore_n {k : Fin 4} {x : Int32} (hd : decode cc pc = .ok (.istore_n k, 1)) (hk : (k : Nat) < nL) (K : bw_go X d o nL ini rt cc (pc + 1) (bw_s1 ls (k : Nat) (.int x)) (r) h Q) : bw_go X d o nL ini rt cc pc ls (.int x :: r) h Q := by
  refine go_x hd (by first | exact Or.inl rfl | exact Or.inr rfl) ?_ K
  show bq_is nL 1 (k : Nat) pc ls (.int x :: r) h = _
  unfold bq_is; (try simp only); rw [if_pos hk]
theorem go_lstore_n {k : Fin 4} {x : Int64} (hd : decode cc pc = .ok (.lstore_n k, 1)) (hk : (k : Nat) + 1 < nL) (K : bw_go X d o nL ini rt cc (pc + 1) (bw_s2 ls (k : Nat) (.long x)) (r) h Q) : bw_go X d o nL ini rt cc pc ls (.long x :: r) h Q := by
  refine go_x hd (by first | exact Or.inl rfl | exact Or.inr rfl) ?_ K
  show bq_ls nL 1 (k : Nat) pc ls (.long x :: r) h = _
  unfold bq_ls; (try simp only); rw [if_pos hk]
theorem go_astore_n {k : Fin 4} {x : Nat} (hd : decode cc pc = .ok (.astore_n k, 1)) (hk : (k : Nat) < nL) (K : bw_go X d o nL ini rt cc (pc + 1) (bw_s1 ls (k : Nat) (.ref x)) (r) h Q) : bw_go X d o nL ini rt cc pc ls (.ref x :: r) h Q := by
  refine go_x hd (by first | exact Or.inl rfl | exact Or.inr rfl) ?_ K
  show bq_as nL 1 (k : Nat) pc ls (.ref x :: r) h = _
  unfold bq_as; (try simp only); rw [if_pos hk]
theorem go_astoreN_n {k : Fin 4} (hd : decode cc pc = .ok (.astore_n k, 1)) (hk : (k : Nat) < nL) (K : bw_go X d o nL ini rt cc (pc + 1) (bw_s1 ls (k : Nat) .null) (r) h Q) : bw_go X d o nL ini rt cc pc ls (.null :: r) h Q := by
  refine go_x hd (by first | exact Or.inl rfl | exact Or.inr rfl) ?_ K
  show bq_as nL 1 (k : Nat) pc ls (.null :: r) h = _
  unfold bq_as; (try simp only); rw [if_pos hk]
theorem go_aload {k : Nat} {x : Nat} (hd : decode cc pc = .ok (.aload k, 2)) (hl : bw_lg ls k = some (.ref x)) (K : bw_go X d o nL ini rt cc (pc + 2) ls (.ref x :: st) h Q) : bw_go X d o nL ini rt cc pc ls (st) h Q := by
  refine go_x hd (by first | exact Or.inl rfl | exact Or.inr rfl) ?_ K
  show bq_al 2 k pc ls st h = _
  unfold bq_al; rw [hl]
theorem go_aloadA {k : Nat} {x : Nat} (hd : decode cc pc = .ok (.aload k, 2)) (hl : bw_lg ls k = some (.retAddr x)) (K : bw_go X d o nL ini rt cc (pc + 2) ls (.retAddr x :: st) h Q) : bw_go X d o nL ini rt cc pc ls (st) h Q := by
  refine go_x hd (by first | exact Or.inl rfl | exact Or.inr rfl) ?_ K
  show bq_al 2 k pc ls st h = _
  unfold bq_al; rw [hl]
theorem go_aloadN {k : Nat} (hd : decode cc pc = .ok (.aload k, 2)) (hl : bw_lg ls k = some .null) (K : bw_go X d o nL ini rt cc (pc + 2) ls (.null :: st) h Q) : bw_go X d o nL ini rt cc pc ls (st) h Q := by
  refine go_x hd (by first | exact Or.inl rfl | exact Or.inr rfl) ?_ K
  show bq_al 2 k pc ls st h = _
  unfold bq_al; rw [hl]
theorem go_istore {k : Nat} {x : Int32} (hd : decode cc pc = .ok (.istore k, 2)) (hk : k < nL) (K : bw_go X d o nL ini rt cc (pc + 2) (bw_s1 ls k (.int x)) (r) h Q) : bw_go X d o nL ini rt cc pc ls (.int x :: r) h Q := by
  refine go_x hd (by first | exact Or.inl rfl | exact Or.inr rfl) ?_ K
  show bq_is nL 2 k pc ls (.int x :: r) h = _
  unfold bq_is; (try simp only); rw [if_pos hk]
theorem go_lstore {k : Nat} {x : Int64} (hd : decode cc pc = .ok (.lstore k, 2)) (hk : k + 1 < nL) (K : bw_go X d o nL ini rt cc (pc + 2) (bw_s2 ls k (.long x)) (r) h Q) : bw_go X d o nL ini rt cc pc ls (.long x :: r) h Q := by
  refine go_x hd (by first | exact Or.inl rfl | exact Or.inr rfl) ?_ K
  show bq_ls nL 2 k pc ls (.long x :: r) h = _
  unfold bq_ls; (try simp only); rw [if_pos hk]
theorem go_astore {k : Nat} {x : Nat} (hd : decode cc pc = .ok (.astore k, 2)) (hk : k < nL) (K : bw_go X d o nL ini rt cc (pc + 2) (bw_s1 ls k (.ref x)) (r) h Q) : bw_go X d o nL ini rt cc pc ls (.ref x :: r) h Q := by
  refine go_x hd (by first | exact Or.inl rfl | exact Or.inr rfl) ?_ K
  show bq_as nL 2 k pc ls (.ref x :: r) h = _
  unfold bq_as; (try simp only); rw [if_pos hk]
theorem go_astoreN {k : Nat} (hd : decode cc pc = .ok (.astore k, 2)) (hk : k < nL) (K : bw_go X d o nL ini rt cc (pc + 2) (bw_s1 ls k .null) (r) h Q) : bw_go X d o nL ini rt cc pc ls (.null :: r) h Q := by
  refine go_x hd (by first | exact Or.inl rfl | exact Or.inr rfl) ?_ K
  show bq_as nL 2 k pc ls (.null :: r) h = _
  unfold bq_as; (try simp only); rw [if_pos hk]
theorem go_iinc {k : Nat} {n : Int} {x v : Int32} (hd : decode cc pc = .ok (.iinc k n, 3)) (hl : bw_lg ls k = some (.int x)) (hv : x + Int32.ofInt n = v) (hk : k < nL) (K : bw_go X d o nL ini rt cc (pc + 3) (bw_s1 ls k (.int v)) (st) h Q) : bw_go X d o nL ini rt cc pc ls (st) h Q := by
  refine go_x hd (by first | exact Or.inl rfl | exact Or.inr rfl) ?_ K
  show bq_ic nL k n pc ls st h = _
  unfold bq_ic; rw [hl]; (try simp only); rw [if_pos hk, hv]
theorem go_iconst {n : Int} (v : Int32) (hd : decode cc pc = .ok (.iconst n, 1)) (hv : Int32.ofInt n = v) (K : bw_go X d o nL ini rt cc (pc + 1) ls (.int v :: st) h Q) : bw_go X d o nL ini rt cc pc ls (st) h Q := by
  refine go_x hd (by first | exact Or.inl rfl | exact Or.inr rfl) ?_ K
  subst hv; rfl
theorem go_bipush {n : Int} (v : Int32) (hd : decode cc pc = .ok (.bipush n, 2)) (hv : (Int8.ofInt n).toInt32 = v) (K : bw_go X d o nL ini rt cc (pc + 2) ls (.int v :: st) h Q) : bw_go X d o nL ini rt cc pc ls (st) h Q := by
  refine go_x hd (by first | exact Or.inl rfl | exact Or.inr rfl) ?_ K
  subst hv; rfl
theorem go_sipush {n : Int} (v : Int32) (hd : decode cc pc = .ok (.sipush n, 3)) (hv : (Int16.ofInt n).toInt32 = v) (K : bw_go X d o nL ini rt cc (pc + 3) ls (.int v :: st) h Q) : bw_go X d o nL ini rt cc pc ls (st) h Q := by
  refine go_x hd (by first | exact Or.inl rfl | exact Or.inr rfl) ?_ K
  subst hv; rfl
theorem go_lconst {n : Fin 2} (v : Int64) (hd : decode cc pc = .ok (.lconst n, 1)) (hv : Int64.ofNat (n : Nat) = v) (K : bw_go X d o nL ini rt cc (pc + 1) ls (.long v :: st) h Q) : bw_go X d o nL ini rt cc pc ls (st) h Q := by
  refine go_x hd (by first | exact Or.inl rfl | exact Or.inr rfl) ?_ K
  subst hv; rfl
theorem go_null (hd : decode cc pc = .ok (.aconst_null, 1)) (K : bw_go X d o nL ini rt cc (pc + 1) ls (.null :: st) h Q) : bw_go X d o nL ini rt cc pc ls (st) h Q := by
  refine go_x hd (by first | exact Or.inl rfl | exact Or.inr rfl) ?_ K
  rfl
theorem go_ldc {ix : Nat} {v : Int32} (hd : decode cc pc = .ok (.ldc ix, 2)) (hc : bw_kc o ix = some (.int v)) (K : bw_go X d o nL ini rt cc (pc + 2) ls (.int v :: st) h Q) : bw_go X d o nL ini rt cc pc ls (st) h Q := by
  refine go_x hd (by first | exact Or.inl rfl | exact Or.inr rfl) ?_ K
  show (match bw_kc o ix with | some (.int v) => bq_cn 2 (.int v) | _ => fun _ _ _ _ => none) pc ls st h = _
  rw [hc]; rfl
theorem go_ldc_w {ix : Nat} {v : Int32} (hd : decode cc pc = .ok (.ldc_w ix, 3)) (hc : bw_kc o ix = some (.int v)) (K : bw_go X d o nL ini rt cc (pc + 3) ls (.int v :: st) h Q) : bw_go X d o nL ini rt cc pc ls (st) h Q := by
  refine go_x hd (by first | exact Or.inl rfl | exact Or.inr rfl) ?_ K
  show (match bw_kc o ix with | some (.int v) => bq_cn 3 (.int v) | _ => fun _ _ _ _ => none) pc ls st h = _
  rw [hc]; rfl
theorem go_ldc2_w {ix : Nat} {v : Int64} (hd : decode cc pc = .ok (.ldc2_w ix, 3)) (hc : bw_kc o ix = some (.long v)) (K : bw_go X d o nL ini rt cc (pc + 3) ls (.long v :: st) h Q) : bw_go X d o nL ini rt cc pc ls (st) h Q := by
  refine go_x hd (by first | exact Or.inl rfl | exact Or.inr rfl) ?_ K
  show (match bw_kc o ix with | some (.long v) => bq_cn 3 (.long v) | _ => fun _ _ _ _ => none) pc ls st h = _
  rw [hc]; rfl
theorem go_iadd {x y : Int32} (hd : decode cc pc = .ok (.iadd, 1)) (K : bw_go X d o nL ini rt cc (pc + 1) ls (.int (x + y) :: r) h Q) : bw_go X d o nL ini rt cc pc ls (.int y :: .int x :: r) h Q := by
  refine go_x hd (by first | exact Or.inl rfl | exact Or.inr rfl) ?_ K
  rfl
theorem go_isub {x y : Int32} (hd : decode cc pc = .ok (.isub, 1)) (K : bw_go X d o nL ini rt cc (pc + 1) ls (.int (x - y) :: r) h Q) : bw_go X d o nL ini rt cc pc ls (.int y :: .int x :: r) h Q := by
  refine go_x hd (by first | exact Or.inl rfl | exact Or.inr rfl) ?_ K
  rfl
theorem go_imul {x y : Int32} (hd : decode cc pc = .ok (.imul, 1)) (K : bw_go X d o nL ini rt cc (pc + 1) ls (.int (x * y) :: r) h Q) : bw_go X d o nL ini rt cc pc ls (.int y :: .int x :: r) h Q := by
  refine go_x hd (by first | exact Or.inl rfl | exact Or.inr rfl) ?_ K
  rfl
theorem go_iand {x y : Int32} (hd : decode cc pc = .ok (.iand, 1)) (K : bw_go X d o nL ini rt cc (pc + 1) ls (.int (x &&& y) :: r) h Q) : bw_go X d o nL ini rt cc pc ls (.int y :: .int x :: r) h Q := by
  refine go_x hd (by first | exact Or.inl rfl | exact Or.inr rfl) ?_ K
  rfl
theorem go_ior {x y : Int32} (hd : decode cc pc = .ok (.ior, 1)) (K : bw_go X d o nL ini rt cc (pc + 1) ls (.int (x ||| y) :: r) h Q) : bw_go X d o nL ini rt cc pc ls (.int y :: .int x :: r) h Q := by
  refine go_x hd (by first | exact Or.inl rfl | exact Or.inr rfl) ?_ K
  rfl
theorem go_ixor {x y : Int32} (hd : decode cc pc = .ok (.ixor, 1)) (K : bw_go X d o nL ini rt cc (pc + 1) ls (.int (x ^^^ y) :: r) h Q) : bw_go X d o nL ini rt cc pc ls (.int y :: .int x :: r) h Q := by
  refine go_x hd (by first | exact Or.inl rfl | exact Or.inr rfl) ?_ K
  rfl
theorem go_ishl {x y : Int32} (hd : decode cc pc = .ok (.ishl, 1)) (K : bw_go X d o nL ini rt cc (pc + 1) ls (.int (x <<< (y &&& 31)) :: r) h Q) : bw_go X d o nL ini rt cc pc ls (.int y :: .int x :: r) h Q := by
  refine go_x hd (by first | exact Or.inl rfl | exact Or.inr rfl) ?_ K
  rfl
theorem go_ishr {x y : Int32} (hd : decode cc pc = .ok (.ishr, 1)) (K : bw_go X d o nL ini rt cc (pc + 1) ls (.int (x >>> (y &&& 31)) :: r) h Q) : bw_go X d o nL ini rt cc pc ls (.int y :: .int x :: r) h Q := by
  refine go_x hd (by first | exact Or.inl rfl | exact Or.inr rfl) ?_ K
  rfl
theorem go_iushr {x y : Int32} (hd : decode cc pc = .ok (.iushr, 1)) (K : bw_go X d o nL ini rt cc (pc + 1) ls (.int ((x.toUInt32 >>> (y.toUInt32 &&& Int32.toUInt32 31)).toInt32) :: r) h Q) : bw_go X d o nL ini rt cc pc ls (.int y :: .int x :: r) h Q := by
  refine go_x hd (by first | exact Or.inl rfl | exact Or.inr rfl) ?_ K
  rfl
theorem go_idiv {x y : Int32} (hd : decode cc pc = .ok (.idiv, 1)) (hn : ¬ y = 0) (K : bw_go X d o nL ini rt cc (pc + 1) ls (.int (x / y) :: r) h Q) : bw_go X d o nL ini rt cc pc ls (.int y :: .int x :: r) h Q := by
  refine go_x hd (by first | exact Or.inl rfl | exact Or.inr rfl) ?_ K
  show bq_id _ pc ls (.int y :: .int x :: r) h = _
  unfold bq_id; (try simp only); rw [if_neg hn]
theorem go_irem {x y : Int32} (hd : decode cc pc = .ok (.irem, 1)) (hn : ¬ y = 0) (K : bw_go X d o nL ini rt cc (pc + 1) ls (.int (x - x / y * y) :: r) h Q) : bw_go X d o nL ini rt cc pc ls (.int y :: .int x :: r) h Q := by
  refine go_x hd (by first | exact Or.inl rfl | exact Or.inr rfl) ?_ K
  show bq_id (fun x y => x - x / y * y) pc ls (.int y :: .int x :: r) h = _
  unfold bq_id; (try simp only); rw [if_neg hn]
theorem go_ladd {x y : Int64} (hd : decode cc pc = .ok (.ladd, 1)) (K : bw_go X d o nL ini rt cc (pc + 1) ls (.long (x + y) :: r) h Q) : bw_go X d o nL ini rt cc pc ls (.long y :: .long x :: r) h Q := by
  refine go_x hd (by first | exact Or.inl rfl | exact Or.inr rfl) ?_ K
  rfl
theorem go_lsub {x y : Int64} (hd : decode cc pc = .ok (.lsub, 1)) (K : bw_go X d o nL ini rt cc (pc + 1) ls (.long (x - y) :: r) h Q) : bw_go X d o nL ini rt cc pc ls (.long y :: .long x :: r) h Q := by
  refine go_x hd (by first | exact Or.inl rfl | exact Or.inr rfl) ?_ K
  rfl
theorem go_lmul {x y : Int64} (hd : decode cc pc = .ok (.lmul, 1)) (K : bw_go X d o nL ini rt cc (pc + 1) ls (.long (x * y) :: r) h Q) : bw_go X d o nL ini rt cc pc ls (.long y :: .long x :: r) h Q := by
  refine go_x hd (by first | exact Or.inl rfl | exact Or.inr rfl) ?_ K
  rfl
theorem go_land {x y : Int64} (hd : decode cc pc = .ok (.land, 1)) (K : bw_go X d o nL ini rt cc (pc + 1) ls (.long (x &&& y) :: r) h Q) : bw_go X d o nL ini rt cc pc ls (.long y :: .long x :: r) h Q := by
  refine go_x hd (by first | exact Or.inl rfl | exact Or.inr rfl) ?_ K
  rfl
theorem go_lor {x y : Int64} (hd : decode cc pc = .ok (.lor, 1)) (K : bw_go X d o nL ini rt cc (pc + 1) ls (.long (x ||| y) :: r) h Q) : bw_go X d o nL ini rt cc pc ls (.long y :: .long x :: r) h Q := by
  refine go_x hd (by first | exact Or.inl rfl | exact Or.inr rfl) ?_ K
  rfl
theorem go_lxor {x y : Int64} (hd : decode cc pc = .ok (.lxor, 1)) (K : bw_go X d o nL ini rt cc (pc + 1) ls (.long (x ^^^ y) :: r) h Q) : bw_go X d o nL ini rt cc pc ls (.long y :: .long x :: r) h Q := by
  refine go_x hd (by first | exact Or.inl rfl | exact Or.inr rfl) ?_ K
  rfl
theorem go_ldiv {x y : Int64} (hd : decode cc pc = .ok (.ldiv, 1)) (hn : ¬ y = 0) (K : bw_go X d o nL ini rt cc (pc + 1) ls (.long (x / y) :: r) h Q) : bw_go X d o nL ini rt cc pc ls (.long y :: .long x :: r) h Q := by
  refine go_x hd (by first | exact Or.inl rfl | exact Or.inr rfl) ?_ K
  show bq_jd _ pc ls (.long y :: .long x :: r) h = _
  unfold bq_jd; (try simp only); rw [if_neg hn]
theorem go_lrem {x y : Int64} (hd : decode cc pc = .ok (.lrem, 1)) (hn : ¬ y = 0) (K : bw_go X d o nL ini rt cc (pc + 1) ls (.long (x - x / y * y) :: r) h Q) : bw_go X d o nL ini rt cc pc ls (.long y :: .long x :: r) h Q := by
  refine go_x hd (by first | exact Or.inl rfl | exact Or.inr rfl) ?_ K
  show bq_jd (fun x y => x - x / y * y) pc ls (.long y :: .long x :: r) h = _
  unfold bq_jd; (try simp only); rw [if_neg hn]
theorem go_lushr {x : Int64} {y : Int32} (hd : decode cc pc = .ok (.lushr, 1)) (K : bw_go X d o nL ini rt cc (pc + 1) ls (.long ((x.toUInt64 >>> (y.toInt64.toUInt64 &&& Int64.toUInt64 63)).toInt64) :: r) h Q) : bw_go X d o nL ini rt cc pc ls (.int y :: .long x :: r) h Q := by
  refine go_x hd (by first | exact Or.inl rfl | exact Or.inr rfl) ?_ K
  rfl
theorem go_ineg {x : Int32} (hd : decode cc pc = .ok (.ineg, 1)) (K : bw_go X d o nL ini rt cc (pc + 1) ls (.int (-x) :: r) h Q) : bw_go X d o nL ini rt cc pc ls (.int x :: r) h Q := by
  refine go_x hd (by first | exact Or.inl rfl | exact Or.inr rfl) ?_ K
  rfl
theorem go_i2l {x : Int32} (hd : decode cc pc = .ok (.i2l, 1)) (K : bw_go X d o nL ini rt cc (pc + 1) ls (.long x.toInt64 :: r) h Q) : bw_go X d o nL ini rt cc pc ls (.int x :: r) h Q := by
  refine go_x hd (by first | exact Or.inl rfl | exact Or.inr rfl) ?_ K
  rfl
theorem go_i2b {x : Int32} (hd : decode cc pc = .ok (.i2b, 1)) (K : bw_go X d o nL ini rt cc (pc + 1) ls (.int x.toInt8.toInt32 :: r) h Q) : bw_go X d o nL ini rt cc pc ls (.int x :: r) h Q := by
  refine go_x hd (by first | exact Or.inl rfl | exact Or.inr rfl) ?_ K
  rfl
theorem go_lneg {x : Int64} (hd : decode cc pc = .ok (.lneg, 1)) (K : bw_go X d o nL ini rt cc (pc + 1) ls (.long (-x) :: r) h Q) : bw_go X d o nL ini rt cc pc ls (.long x :: r) h Q := by
  refine go_x hd (by first | exact Or.inl rfl | exact Or.inr rfl) ?_ K
  rfl
theorem go_l2i {x : Int64} (hd : decode cc pc = .ok (.l2i, 1)) (K : bw_go X d o nL ini rt cc (pc + 1) ls (.int x.toInt32 :: r) h Q) : bw_go X d o nL ini rt cc pc ls (.long x :: r) h Q := by
  refine go_x hd (by first | exact Or.inl rfl | exact Or.inr rfl) ?_ K
  rfl
theorem go_lcmp {x y : Int64} (hd : decode cc pc = .ok (.lcmp, 1)) (K : bw_go X d o nL ini rt cc (pc + 1) ls (.int (lg_cmp x y) :: r) h Q) : bw_go X d o nL ini rt cc pc ls (.long y :: .long x :: r) h Q := by
  refine go_x hd (by first | exact Or.inl rfl | exact Or.inr rfl) ?_ K
  rfl
theorem go_dupI {x : Int32} (hd : decode cc pc = .ok (.dup, 1)) (K : bw_go X d o nL ini rt cc (pc + 1) ls (.int x :: .int x :: r) h Q) : bw_go X d o nL ini rt cc pc ls (.int x :: r) h Q := by
  refine go_x hd (by first | exact Or.inl rfl | exact Or.inr rfl) ?_ K
  rfl
theorem go_dupA {x : Nat} (hd : decode cc pc = .ok (.dup, 1)) (K : bw_go X d o nL ini rt cc (pc + 1) ls (.ref x :: .ref x :: r) h Q) : bw_go X d o nL ini rt cc pc ls (.ref x :: r) h Q := by
  refine go_x hd (by first | exact Or.inl rfl | exact Or.inr rfl) ?_ K
  rfl
theorem go_dup2 {x : Nat} {y : Int32} (hd : decode cc pc = .ok (.dup2, 1)) (K : bw_go X d o nL ini rt cc (pc + 1) ls (.int y :: .ref x :: .int y :: .ref x :: r) h Q) : bw_go X d o nL ini rt cc pc ls (.int y :: .ref x :: r) h Q := by
  refine go_x hd (by first | exact Or.inl rfl | exact Or.inr rfl) ?_ K
  rfl
theorem go_goto {off : Int} (hd : decode cc pc = .ok (.goto off, 3)) (hj : bw_jp pc off = some pc') (K : bw_go X d o nL ini rt cc pc' ls st h Q) : bw_go X d o nL ini rt cc pc ls st h Q := by
  refine go_x hd (Or.inl rfl) ?_ K
  show bq_go off pc ls st h = _
  unfold bq_go; rw [hj]
theorem go_if_eq {x : Int32} {off : Int} (hd : decode cc pc = .ok (.ifCond .eq off, 3)) (hj : bw_jp pc off = some pc') (K1 : x = 0 → bw_go X d o nL ini rt cc pc' ls r h Q) (K2 : ¬ (x = 0) → bw_go X d o nL ini rt cc (pc + 3) ls r h Q) : bw_go X d o nL ini rt cc pc ls (.int x :: r) h Q := by
  by_cases hc : x = 0
  · refine go_x hd (Or.inl rfl) ?_ (K1 hc)
    show bq_if (fun x => decide (x = 0)) off pc ls (.int x :: r) h = _
    unfold bq_if; (try simp only); rw [hj]; (try simp only); rw [if_pos (decide_eq_true hc)]
  · refine go_x hd (Or.inl rfl) ?_ (K2 hc)
    show bq_if (fun x => decide (x = 0)) off pc ls (.int x :: r) h = _
    unfold bq_if; (try simp only); rw [hj]; (try simp only); rw [if_neg (fun z => hc (of_decide_eq_true z))]
theorem go_if_ne {x : Int32} {off : Int} (hd : decode cc pc = .ok (.ifCond .ne off, 3)) (hj : bw_jp pc off = some pc') (K1 : ¬ x = 0 → bw_go X d o nL ini rt cc pc' ls r h Q) (K2 : ¬ (¬ x = 0) → bw_go X d o nL ini rt cc (pc + 3) ls r h Q) : bw_go X d o nL ini rt cc pc ls (.int x :: r) h Q := by
  by_cases hc : ¬ x = 0
  · refine go_x hd (Or.inl rfl) ?_ (K1 hc)
    show bq_if (fun x => decide (¬ x = 0)) off pc ls (.int x :: r) h = _
    unfold bq_if; (try simp only); rw [hj]; (try simp only); rw [if_pos (decide_eq_true hc)]
  · refine go_x hd (Or.inl rfl) ?_ (K2 hc)
    show bq_if (fun x => decide (¬ x = 0)) off pc ls (.int x :: r) h = _
    unfold bq_if; (try simp only); rw [hj]; (try simp only); rw [if_neg (fun z => hc (of_decide_eq_true z))]
theorem go_if_lt {x : Int32} {off : Int} (hd : decode cc pc = .ok (.ifCond .lt off, 3)) (hj : bw_jp pc off = some pc') (K1 : x < 0 → bw_go X d o nL ini rt cc pc' ls r h Q) (K2 : ¬ (x < 0) → bw_go X d o nL ini rt cc (pc + 3) ls r h Q) : bw_go X d o nL ini rt cc pc ls (.int x :: r) h Q := by
  by_cases hc : x < 0
  · refine go_x hd (Or.inl rfl) ?_ (K1 hc)
    show bq_if (fun x => decide (x < 0)) off pc ls (.int x :: r) h = _
    unfold bq_if; (try simp only); rw [hj]; (try simp only); rw [if_pos (decide_eq_true hc)]
  · refine go_x hd (Or.inl rfl) ?_ (K2 hc)
    show bq_if (fun x => decide (x < 0)) off pc ls (.int x :: r) h = _
    unfold bq_if; (try simp only); rw [hj]; (try simp only); rw [if_neg (fun z => hc (of_decide_eq_true z))]
theorem go_if_ge {x : Int32} {off : Int} (hd : decode cc pc = .ok (.ifCond .ge off, 3)) (hj : bw_jp pc off = some pc') (K1 : 0 ≤ x → bw_go X d o nL ini rt cc pc' ls r h Q) (K2 : ¬ (0 ≤ x) → bw_go X d o nL ini rt cc (pc + 3) ls r h Q) : bw_go X d o nL ini rt cc pc ls (.int x :: r) h Q := by
  by_cases hc : 0 ≤ x
  · refine go_x hd (Or.inl rfl) ?_ (K1 hc)
    show bq_if (fun x => decide (0 ≤ x)) off pc ls (.int x :: r) h = _
    unfold bq_if; (try simp only); rw [hj]; (try simp only); rw [if_pos (decide_eq_true hc)]
  · refine go_x hd (Or.inl rfl) ?_ (K2 hc)
    show bq_if (fun x => decide (0 ≤ x)) off pc ls (.int x :: r) h = _
    unfold bq_if; (try simp only); rw [hj]; (try simp only); rw [if_neg (fun z => hc (of_decide_eq_true z))]
theorem go_if_gt {x : Int32} {off : Int} (hd : decode cc pc = .ok (.ifCond .gt off, 3)) (hj : bw_jp pc off = some pc') (K1 : 0 < x → bw_go X d o nL ini rt cc pc' ls r h Q) (K2 : ¬ (0 < x) → bw_go X d o nL ini rt cc (pc + 3) ls r h Q) : bw_go X d o nL ini rt cc pc ls (.int x :: r) h Q := by
  by_cases hc : 0 < x
  · refine go_x hd (Or.inl rfl) ?_ (K1 hc)
    show bq_if (fun x => decide (0 < x)) off pc ls (.int x :: r) h = _
    unfold bq_if; (try simp only); rw [hj]; (try simp only); rw [if_pos (decide_eq_true hc)]
  · refine go_x hd (Or.inl rfl) ?_ (K2 hc)
    show bq_if (fun x => decide (0 < x)) off pc ls (.int x :: r) h = _
    unfold bq_if; (try simp only); rw [hj]; (try simp only); rw [if_neg (fun z => hc (of_decide_eq_true z))]
theorem go_if_le {x : Int32} {off : Int} (hd : decode cc pc = .ok (.ifCond .le off, 3)) (hj : bw_jp pc off = some pc') (K1 : x ≤ 0 → bw_go X d o nL ini rt cc pc' ls r h Q) (K2 : ¬ (x ≤ 0) → bw_go X d o nL ini rt cc (pc + 3) ls r h Q) : bw_go X d o nL ini rt cc pc ls (.int x :: r) h Q := by
  by_cases hc : x ≤ 0
  · refine go_x hd (Or.inl rfl) ?_ (K1 hc)
    show bq_if (fun x => decide (x ≤ 0)) off pc ls (.int x :: r) h = _
    unfold bq_if; (try simp only); rw [hj]; (try simp only); rw [if_pos (decide_eq_true hc)]
  · refine go_x hd (Or.inl rfl) ?_ (K2 hc)
    show bq_if (fun x => decide (x ≤ 0)) off pc ls (.int x :: r) h = _
    unfold bq_if; (try simp only); rw [hj]; (try simp only); rw [if_neg (fun z => hc (of_decide_eq_true z))]
theorem go_icmp_eq {x y : Int32} {off : Int} (hd : decode cc pc = .ok (.if_icmp .eq off, 3)) (hj : bw_jp pc off = some pc') (K1 : x = y → bw_go X d o nL ini rt cc pc' ls r h Q) (K2 : ¬ (x = y) → bw_go X d o nL ini rt cc (pc + 3) ls r h Q) : bw_go X d o nL ini rt cc pc ls (.int y :: .int x :: r) h Q := by
  by_cases hc : x = y
  · refine go_x hd (Or.inl rfl) ?_ (K1 hc)
    show bq_cp (fun x y => decide (x = y)) off pc ls (.int y :: .int x :: r) h = _
    unfold bq_cp; (try simp only); rw [hj]; (try simp only); rw [if_pos (decide_eq_true hc)]
  · refine go_x hd (Or.inl rfl) ?_ (K2 hc)
    show bq_cp (fun x y => decide (x = y)) off pc ls (.int y :: .int x :: r) h = _
    unfold bq_cp; (try simp only); rw [hj]; (try simp only); rw [if_neg (fun z => hc (of_decide_eq_true z))]
theorem go_icmp_ne {x y : Int32} {off : Int} (hd : decode cc pc = .ok (.if_icmp .ne off, 3)) (hj : bw_jp pc off = some pc') (K1 : ¬ x = y → bw_go X d o nL ini rt cc pc' ls r h Q) (K2 : ¬ (¬ x = y) → bw_go X d o nL ini rt cc (pc + 3) ls r h Q) : bw_go X d o nL ini rt cc pc ls (.int y :: .int x :: r) h Q := by
  by_cases hc : ¬ x = y
  · refine go_x hd (Or.inl rfl) ?_ (K1 hc)
    show bq_cp (fun x y => decide (¬ x = y)) off pc ls (.int y :: .int x :: r) h = _
    unfold bq_cp; (try simp only); rw [hj]; (try simp only); rw [if_pos (decide_eq_true hc)]
  · refine go_x hd (Or.inl rfl) ?_ (K2 hc)
    show bq_cp (fun x y => decide (¬ x = y)) off pc ls (.int y :: .int x :: r) h = _
    unfold bq_cp; (try simp only); rw [hj]; (try simp only); rw [if_neg (fun z => hc (of_decide_eq_true z))]
theorem go_icmp_lt {x y : Int32} {off : Int} (hd : decode cc pc = .ok (.if_icmp .lt off, 3)) (hj : bw_jp pc off = some pc') (K1 : x < y → bw_go X d o nL ini rt cc pc' ls r h Q) (K2 : ¬ (x < y) → bw_go X d o nL ini rt cc (pc + 3) ls r h Q) : bw_go X d o nL ini rt cc pc ls (.int y :: .int x :: r) h Q := by
  by_cases hc : x < y
  · refine go_x hd (Or.inl rfl) ?_ (K1 hc)
    show bq_cp (fun x y => decide (x < y)) off pc ls (.int y :: .int x :: r) h = _
    unfold bq_cp; (try simp only); rw [hj]; (try simp only); rw [if_pos (decide_eq_true hc)]
  · refine go_x hd (Or.inl rfl) ?_ (K2 hc)
    show bq_cp (fun x y => decide (x < y)) off pc ls (.int y :: .int x :: r) h = _
    unfold bq_cp; (try simp only); rw [hj]; (try simp only); rw [if_neg (fun z => hc (of_decide_eq_true z))]
theorem go_icmp_ge {x y : Int32} {off : Int} (hd : decode cc pc = .ok (.if_icmp .ge off, 3)) (hj : bw_jp pc off = some pc') (K1 : y ≤ x → bw_go X d o nL ini rt cc pc' ls r h Q) (K2 : ¬ (y ≤ x) → bw_go X d o nL ini rt cc (pc + 3) ls r h Q) : bw_go X d o nL ini rt cc pc ls (.int y :: .int x :: r) h Q := by
  by_cases hc : y ≤ x
  · refine go_x hd (Or.inl rfl) ?_ (K1 hc)
    show bq_cp (fun x y => decide (y ≤ x)) off pc ls (.int y :: .int x :: r) h = _
    unfold bq_cp; (try simp only); rw [hj]; (try simp only); rw [if_pos (decide_eq_true hc)]
  · refine go_x hd (Or.inl rfl) ?_ (K2 hc)
    show bq_cp (fun x y => decide (y ≤ x)) off pc ls (.int y :: .int x :: r) h = _
    unfold bq_cp; (try simp only); rw [hj]; (try simp only); rw [if_neg (fun z => hc (of_decide_eq_true z))]
theorem go_icmp_gt {x y : Int32} {off : Int} (hd : decode cc pc = .ok (.if_icmp .gt off, 3)) (hj : bw_jp pc off = some pc') (K1 : y < x → bw_go X d o nL ini rt cc pc' ls r h Q) (K2 : ¬ (y < x) → bw_go X d o nL ini rt cc (pc + 3) ls r h Q) : bw_go X d o nL ini rt cc pc ls (.int y :: .int x :: r) h Q := by
  by_cases hc : y < x
  · refine go_x hd (Or.inl rfl) ?_ (K1 hc)
    show bq_cp (fun x y => decide (y < x)) off pc ls (.int y :: .int x :: r) h = _
    unfold bq_cp; (try simp only); rw [hj]; (try simp only); rw [if_pos (decide_eq_true hc)]
  · refine go_x hd (Or.inl rfl) ?_ (K2 hc)
    show bq_cp (fun x y => decide (y < x)) off pc ls (.int y :: .int x :: r) h = _
    unfold bq_cp; (try simp only); rw [hj]; (try simp only); rw [if_neg (fun z => hc (of_decide_eq_true z))]
theorem go_icmp_le {x y : Int32} {off : Int} (hd : decode cc pc = .ok (.if_icmp .le off, 3)) (hj : bw_jp pc off = some pc') (K1 : x ≤ y → bw_go X d o nL ini rt cc pc' ls r h Q) (K2 : ¬ (x ≤ y) → bw_go X d o nL ini rt cc (pc + 3) ls r h Q) : bw_go X d o nL ini rt cc pc ls (.int y :: .int x :: r) h Q := by
  by_cases hc : x ≤ y
  · refine go_x hd (Or.inl rfl) ?_ (K1 hc)
    show bq_cp (fun x y => decide (x ≤ y)) off pc ls (.int y :: .int x :: r) h = _
    unfold bq_cp; (try simp only); rw [hj]; (try simp only); rw [if_pos (decide_eq_true hc)]
  · refine go_x hd (Or.inl rfl) ?_ (K2 hc)
    show bq_cp (fun x y => decide (x ≤ y)) off pc ls (.int y :: .int x :: r) h = _
    unfold bq_cp; (try simp only); rw [hj]; (try simp only); rw [if_neg (fun z => hc (of_decide_eq_true z))]
theorem go_ifb_eq {b : Bool} {off : Int} (hd : decode cc pc = .ok (.ifCond .eq off, 3)) (hj : bw_jp pc off = some pc') (K1 : b = false → bw_go X d o nL ini rt cc pc' ls r h Q) (K2 : b = true → bw_go X d o nL ini rt cc (pc + 3) ls r h Q) : bw_go X d o nL ini rt cc pc ls (.int (bi b) :: r) h Q := by
  refine go_if_eq hd hj (fun z => K1 ?_) (fun z => K2 ?_) <;> (cases b <;> first | rfl | (exact absurd z (by decide)) | (exact absurd (by decide) z))
theorem go_ifb_ne {b : Bool} {off : Int} (hd : decode cc pc = .ok (.ifCond .ne off, 3)) (hj : bw_jp pc off = some pc') (K1 : b = true → bw_go X d o nL ini rt cc pc' ls r h Q) (K2 : b = false → bw_go X d o nL ini rt cc (pc + 3) ls r h Q) : bw_go X d o nL ini rt cc pc ls (.int (bi b) :: r) h Q := by
  refine go_if_ne hd hj (fun z => K1 ?_) (fun z => K2 ?_) <;> (cases b <;> first | rfl | (exact absurd z (by decide)) | (exact absurd (by decide) z))
theorem go_nuN {off : Int} (hd : decode cc pc = .ok (.ifnull off, 3)) (hj : bw_jp pc off = some pc') (K : bw_go X d o nL ini rt cc pc' ls r h Q) : bw_go X d o nL ini rt cc pc ls (.null :: r) h Q := by
  refine go_x hd (Or.inl rfl) ?_ K
  show bq_nu off pc ls (.null :: r) h = _
  unfold bq_nu; (try simp only); rw [hj]
theorem go_nuR {off : Int} {x : Nat} (hd : decode cc pc = .ok (.ifnull off, 3)) (K : bw_go X d o nL ini rt cc (pc + 3) ls r h Q) : bw_go X d o nL ini rt cc pc ls (.ref x :: r) h Q := go_x hd (Or.inl rfl) rfl K
theorem go_nnR {off : Int} {x : Nat} (hd : decode cc pc = .ok (.ifnonnull off, 3)) (hj : bw_jp pc off = some pc') (K : bw_go X d o nL ini rt cc pc' ls r h Q) : bw_go X d o nL ini rt cc pc ls (.ref x :: r) h Q := by
  refine go_x hd (Or.inl rfl) ?_ K
  show bq_nn off pc ls (.ref x :: r) h = _
  unfold bq_nn; (try simp only); rw [hj]
theorem go_nnN {off : Int} (hd : decode cc pc = .ok (.ifnonnull off, 3)) (K : bw_go X d o nL ini rt cc (pc + 3) ls r h Q) : bw_go X d o nL ini rt cc pc ls (.null :: r) h Q := go_x hd (Or.inl rfl) rfl K
theorem go_tsOut {df lo hi : Int} {offs : Array Int} {len : Nat} {x : Int32} (hd : decode cc pc = .ok (.tableswitch df lo hi offs, len)) (hx : x.toInt < lo ∨ hi < x.toInt) (hj : bw_jp pc df = some pc') (K : bw_go X d o nL ini rt cc pc' ls r h Q) : bw_go X d o nL ini rt cc pc ls (.int x :: r) h Q := by
  refine go_x hd (Or.inr rfl) ?_ K
  show bq_ts df lo hi offs pc ls (.int x :: r) h = _
  unfold bq_ts; (try simp only); rw [if_pos hx, hj]
theorem go_tsIn {df lo hi : Int} {offs : Array Int} {len : Nat} {x : Int32} {off : Int} (hd : decode cc pc = .ok (.tableswitch df lo hi offs, len)) (h1 : lo ≤ x.toInt) (h2 : x.toInt ≤ hi) (ho : offs[(x.toInt - lo).toNat]? = some off) (hj : bw_jp pc off = some pc') (K : bw_go X d o nL ini rt cc pc' ls r h Q) : bw_go X d o nL ini rt cc pc ls (.int x :: r) h Q := by
  refine go_x hd (Or.inr rfl) ?_ K
  show bq_ts df lo hi offs pc ls (.int x :: r) h = _
  unfold bq_ts; (try simp only); rw [if_neg (by omega), ho]; (try simp only); rw [hj]
theorem go_gfi {ix c k a : Nat} (hd : decode cc pc = .ok (.getfield ix, 3)) (hf : bw_fl o ix = some (c, k)) (hty : bw_ty c k = .int) (ha : a < bw_n h) (hk : bw_k h a = .inl c) (K : bw_go X d o nL ini rt cc (pc + 3) ls (.int (bw_i h a k) :: r) h Q) : bw_go X d o nL ini rt cc pc ls (.ref a :: r) h Q := by
  refine go_x hd (Or.inl rfl) ?_ K
  show bq_gf (bw_fl o ix) pc ls (.ref a :: r) h = _
  rw [hf]; unfold bq_gf; (try simp only); rw [if_pos ⟨ha, hk⟩]; unfold bw_fv; rw [hty]
theorem go_gfl {ix c k a : Nat} (hd : decode cc pc = .ok (.getfield ix, 3)) (hf : bw_fl o ix = some (c, k)) (hty : bw_ty c k = .long) (ha : a < bw_n h) (hk : bw_k h a = .inl c) (K : bw_go X d o nL ini rt cc (pc + 3) ls (.long (bw_l h a k) :: r) h Q) : bw_go X d o nL ini rt cc pc ls (.ref a :: r) h Q := by
  refine go_x hd (Or.inl rfl) ?_ K
  show bq_gf (bw_fl o ix) pc ls (.ref a :: r) h = _
  rw [hf]; unfold bq_gf; (try simp only); rw [if_pos ⟨ha, hk⟩]; unfold bw_fv; rw [hty]
def bw_isR (t : FieldType) : Bool := match t with
  | .int => false
  | .long => false
  | _ => true
theorem go_gfr {ix c k a b : Nat} (hd : decode cc pc = .ok (.getfield ix, 3)) (hf : bw_fl o ix = some (c, k)) (hty : bw_isR (bw_ty c k) = true) (ha : a < bw_n h) (hk : bw_k h a = .inl c) (hb : bw_r h a k = some b) (K : bw_go X d o nL ini rt cc (pc + 3) ls (.ref b :: r) h Q) : bw_go X d o nL ini rt cc pc ls (.ref a :: r) h Q := by
  refine go_x hd (Or.inl rfl) ?_ K
  show bq_gf (bw_fl o ix) pc ls (.ref a :: r) h = _
  rw [hf]; unfold bq_gf; (try simp only); rw [if_pos ⟨ha, hk⟩]; unfold bw_fv bw_isR at *
  revert hty
  cases bw_ty c k <;> simp [hb, bw_rf]
theorem go_pfi {ix c k a : Nat} {x : Int32} (hd : decode cc pc = .ok (.putfield ix, 3)) (hf : bw_fl o ix = some (c, k)) (hty : bw_ty c k = .int) (ha : a < bw_n h) (hk : bw_k h a = .inl c) (hN : k < bw_N c) (hfin : (bw_T c k).2.2.2 = false ∨ ((bw_T c k).2.2.2 = true ∧ ini = true ∧ c = o)) (K : bw_go X d o nL ini rt cc (pc + 3) ls r (bw_si h a k x) Q) : bw_go X d o nL ini rt cc pc ls (.int x :: .ref a :: r) h Q := by
  refine go_x hd (Or.inl rfl) ?_ K
  show bq_pf o ini (bw_fl o ix) pc ls (.int x :: .ref a :: r) h = _
  rw [hf]; unfold bq_pf; simp only
  rcases hfin with hf1 | hf1
  · rw [if_pos ⟨ha, hk, hN, hf1⟩, hty]
  · rw [if_neg (fun z => by rw [hf1.1] at z; exact Bool.noConfusion z.2.2.2), if_pos ⟨ha, hk, hN, hf1⟩, hty]
theorem go_pfl {ix c k a : Nat} {x : Int64} (hd : decode cc pc = .ok (.putfield ix, 3)) (hf : bw_fl o ix = some (c, k)) (hty : bw_ty c k = .long) (ha : a < bw_n h) (hk : bw_k h a = .inl c) (hN : k < bw_N c) (hfin : (bw_T c k).2.2.2 = false) (K : bw_go X d o nL ini rt cc (pc + 3) ls r (bw_sl h a k x) Q) : bw_go X d o nL ini rt cc pc ls (.long x :: .ref a :: r) h Q := by
  refine go_x hd (Or.inl rfl) ?_ K
  show bq_pf o ini (bw_fl o ix) pc ls (.long x :: .ref a :: r) h = _
  rw [hf]; unfold bq_pf; simp only
  rw [if_pos ⟨ha, hk, hN, hfin⟩, hty]
theorem go_pfr {ix c k a x : Nat} (hd : decode cc pc = .ok (.putfield ix, 3)) (hf : bw_fl o ix = some (c, k)) (hty : (∃ n, bw_ty c k = .object n) ∨ ∃ n, bw_ty c k = .array n) (ha : a < bw_n h) (hk : bw_k h a = .inl c) (hN : k < bw_N c) (hfin : (bw_T c k).2.2.2 = true ∧ ini = true ∧ c = o) (K : bw_go X d o nL ini rt cc (pc + 3) ls r (bw_sr h a k (some x)) Q) : bw_go X d o nL ini rt cc pc ls (.ref x :: .ref a :: r) h Q := by
  refine go_x hd (Or.inl rfl) ?_ K
  show bq_pf o ini (bw_fl o ix) pc ls (.ref x :: .ref a :: r) h = _
  rw [hf]; unfold bq_pf; simp only
  rw [if_neg (fun z => by rw [hfin.1] at z; exact Bool.noConfusion z.2.2.2), if_pos ⟨ha, hk, hN, hfin⟩]
  rcases hty with ⟨n, hn⟩ | ⟨n, hn⟩ <;> rw [hn]
theorem go_gs {ix : Nat} (hd : decode cc pc = .ok (.getstatic ix, 3)) (hs : bw_st o ix = true) (K : bw_go X d o nL ini rt cc (pc + 3) ls (.retAddr 0 :: st) h Q) : bw_go X d o nL ini rt cc pc ls st h Q := by
  refine go_x hd (Or.inl rfl) ?_ K
  show bq_gs (bw_st o ix) pc ls st h = _
  unfold bq_gs; rw [if_pos hs]
theorem go_la {i : Int32} (hd : decode cc pc = .ok (.laload, 1)) (h1 : 0 ≤ i.toInt ∧ i.toInt < 6) (K : bw_go X d o nL ini rt cc (pc + 1) ls (.long (bw_set6 i.toNatClampNeg) :: r) h Q) : bw_go X d o nL ini rt cc pc ls (.int i :: .retAddr 0 :: r) h Q := by
  refine go_x hd (Or.inl rfl) ?_ K
  show bq_la pc ls (.int i :: .retAddr 0 :: r) h = _
  unfold bq_la; (try simp only); rw [if_pos h1]
theorem go_len0 (hd : decode cc pc = .ok (.arraylength, 1)) (K : bw_go X d o nL ini rt cc (pc + 1) ls (.int 6 :: r) h Q) : bw_go X d o nL ini rt cc pc ls (.retAddr 0 :: r) h Q := go_x hd (Or.inl rfl) rfl K
theorem go_len1 (hd : decode cc pc = .ok (.arraylength, 1)) (K : bw_go X d o nL ini rt cc (pc + 1) ls (.int (Int32.ofNat X.1) :: r) h Q) : bw_go X d o nL ini rt cc pc ls (.retAddr 1 :: r) h Q := go_x hd (Or.inl rfl) rfl K
theorem go_len {a N : Nat} {ty : FieldType} (hd : decode cc pc = .ok (.arraylength, 1)) (hk : bw_k h a = .inr (ty, N)) (ha : a < bw_n h) (hty : ty = .int ∨ ty = .boolean ∨ ty = .object RX1) (K : bw_go X d o nL ini rt cc (pc + 1) ls (.int (Int32.ofNat N) :: r) h Q) : bw_go X d o nL ini rt cc pc ls (.ref a :: r) h Q := by
  refine go_x hd (Or.inl rfl) ?_ K
  show bq_len X pc ls (.ref a :: r) h = _
  unfold bq_len; (try simp only); rw [hk]; (try simp only); rw [if_pos ⟨ha, hty⟩]
theorem go_ia1 {i : Int32} (hd : decode cc pc = .ok (.iaload, 1)) (h1 : 0 ≤ i.toInt ∧ i.toInt < X.1) (K : bw_go X d o nL ini rt cc (pc + 1) ls (.int (X.2 i.toNatClampNeg) :: r) h Q) : bw_go X d o nL ini rt cc pc ls (.int i :: .retAddr 1 :: r) h Q := by
  refine go_x hd (Or.inl rfl) ?_ K
  show bq_ia X pc ls (.int i :: .retAddr 1 :: r) h = _
  unfold bq_ia; (try simp only); rw [if_pos h1]
theorem go_ia {a N : Nat} {i : Int32} (hd : decode cc pc = .ok (.iaload, 1)) (hk : bw_k h a = .inr (.int, N)) (ha : a < bw_n h) (h1 : 0 ≤ i.toInt ∧ i.toInt < N) (K : bw_go X d o nL ini rt cc (pc + 1) ls (.int (bw_i h a i.toNatClampNeg) :: r) h Q) : bw_go X d o nL ini rt cc pc ls (.int i :: .ref a :: r) h Q := by
  refine go_x hd (Or.inl rfl) ?_ K
  show bq_ia X pc ls (.int i :: .ref a :: r) h = _
  unfold bq_ia; (try simp only); rw [hk]; (try simp only); rw [if_pos ⟨ha, trivial, h1.1, h1.2⟩]
theorem go_ba {a N : Nat} {i : Int32} (hd : decode cc pc = .ok (.baload, 1)) (hk : bw_k h a = .inr (.boolean, N)) (ha : a < bw_n h) (h1 : 0 ≤ i.toInt ∧ i.toInt < N) (K : bw_go X d o nL ini rt cc (pc + 1) ls (.int (bw_i h a i.toNatClampNeg) :: r) h Q) : bw_go X d o nL ini rt cc pc ls (.int i :: .ref a :: r) h Q := by
  refine go_x hd (Or.inl rfl) ?_ K
  show bq_ba pc ls (.int i :: .ref a :: r) h = _
  unfold bq_ba; (try simp only); rw [hk]; (try simp only); rw [if_pos ⟨ha, trivial, h1.1, h1.2⟩]
theorem go_aaR {a N b : Nat} {i : Int32} (hd : decode cc pc = .ok (.aaload, 1)) (hk : bw_k h a = .inr (.object RX1, N)) (ha : a < bw_n h) (h1 : 0 ≤ i.toInt ∧ i.toInt < N) (hb : bw_r h a i.toNatClampNeg = some b) (K : bw_go X d o nL ini rt cc (pc + 1) ls (.ref b :: r) h Q) : bw_go X d o nL ini rt cc pc ls (.int i :: .ref a :: r) h Q := by
  refine go_x hd (Or.inl rfl) ?_ K
  show bq_aa pc ls (.int i :: .ref a :: r) h = _
  unfold bq_aa; (try simp only); rw [hk]; (try simp only); rw [if_pos ⟨ha, trivial, h1.1, h1.2⟩, hb]; rfl
theorem go_aaN {a N : Nat} {i : Int32} (hd : decode cc pc = .ok (.aaload, 1)) (hk : bw_k h a = .inr (.object RX1, N)) (ha : a < bw_n h) (h1 : 0 ≤ i.toInt ∧ i.toInt < N) (hb : bw_r h a i.toNatClampNeg = none) (K : bw_go X d o nL ini rt cc (pc + 1) ls (.null :: r) h Q) : bw_go X d o nL ini rt cc pc ls (.int i :: .ref a :: r) h Q := by
  refine go_x hd (Or.inl rfl) ?_ K
  show bq_aa pc ls (.int i :: .ref a :: r) h = _
  unfold bq_aa; (try simp only); rw [hk]; (try simp only); rw [if_pos ⟨ha, trivial, h1.1, h1.2⟩, hb]; rfl
theorem go_ist {a N : Nat} {i x : Int32} (hd : decode cc pc = .ok (.iastore, 1)) (hk : bw_k h a = .inr (.int, N)) (ha : a < bw_n h) (h1 : 0 ≤ i.toInt ∧ i.toInt < N) (K : bw_go X d o nL ini rt cc (pc + 1) ls r (bw_si h a i.toNatClampNeg x) Q) : bw_go X d o nL ini rt cc pc ls (.int x :: .int i :: .ref a :: r) h Q := by
  refine go_x hd (Or.inl rfl) ?_ K
  show bq_ist pc ls (.int x :: .int i :: .ref a :: r) h = _
  unfold bq_ist; (try simp only); rw [hk]; (try simp only); rw [if_pos ⟨ha, trivial, h1.1, h1.2⟩]
theorem go_bst {a N : Nat} {i x : Int32} (hd : decode cc pc = .ok (.bastore, 1)) (hk : bw_k h a = .inr (.boolean, N)) (ha : a < bw_n h) (h1 : 0 ≤ i.toInt ∧ i.toInt < N) (K : bw_go X d o nL ini rt cc (pc + 1) ls r (bw_si h a i.toNatClampNeg (vp_nar .boolean x)) Q) : bw_go X d o nL ini rt cc pc ls (.int x :: .int i :: .ref a :: r) h Q := by
  refine go_x hd (Or.inl rfl) ?_ K
  show bq_bst pc ls (.int x :: .int i :: .ref a :: r) h = _
  unfold bq_bst; (try simp only); rw [hk]; (try simp only); rw [if_pos ⟨ha, trivial, h1.1, h1.2⟩]
theorem go_ast {a N x : Nat} {i : Int32} (hd : decode cc pc = .ok (.aastore, 1)) (hk : bw_k h a = .inr (.object RX1, N)) (ha : a < bw_n h) (hx : x < bw_n h) (hkx : bw_k h x = .inl 1) (h1 : 0 ≤ i.toInt ∧ i.toInt < N) (K : bw_go X d o nL ini rt cc (pc + 1) ls r (bw_sr h a i.toNatClampNeg (some x)) Q) : bw_go X d o nL ini rt cc pc ls (.ref x :: .int i :: .ref a :: r) h Q := by
  refine go_x hd (Or.inl rfl) ?_ K
  show bq_ast pc ls (.ref x :: .int i :: .ref a :: r) h = _
  unfold bq_ast; (try simp only); rw [hk]; (try simp only); rw [if_pos ⟨ha, trivial, hx, hkx, h1.1, h1.2⟩]
theorem go_new {ix c : Nat} (hd : decode cc pc = .ok (.new ix, 3)) (hc : bw_cl o ix = some c) (h9 : c < 9) (K : bw_go X d o nL ini rt cc (pc + 3) ls (.ref (bw_n h) :: st) (bw_nw h (.inl c) (bw_N c)) Q) : bw_go X d o nL ini rt cc pc ls st h Q := by
  refine go_x hd (Or.inl rfl) ?_ K
  show bq_new (bw_cl o ix) pc ls st h = _
  rw [hc]; unfold bq_new; (try simp only); rw [if_pos h9]
theorem go_naI {n : Int32} (hd : decode cc pc = .ok (.newarray .int, 2)) (h1 : 0 ≤ n.toInt ∧ n.toInt < 100000) (K : bw_go X d o nL ini rt cc (pc + 2) ls (.ref (bw_n h) :: r) (bw_nw h (.inr (.int, n.toNatClampNeg)) n.toNatClampNeg) Q) : bw_go X d o nL ini rt cc pc ls (.int n :: r) h Q := by
  refine go_x hd (Or.inl rfl) ?_ K
  show bq_na .int pc ls (.int n :: r) h = _
  unfold bq_na; (try simp only); rw [if_pos h1]
theorem go_naZ {n : Int32} (hd : decode cc pc = .ok (.newarray .boolean, 2)) (h1 : 0 ≤ n.toInt ∧ n.toInt < 100000) (K : bw_go X d o nL ini rt cc (pc + 2) ls (.ref (bw_n h) :: r) (bw_nw h (.inr (.boolean, n.toNatClampNeg)) n.toNatClampNeg) Q) : bw_go X d o nL ini rt cc pc ls (.int n :: r) h Q := by
  refine go_x hd (Or.inl rfl) ?_ K
  show bq_na .boolean pc ls (.int n :: r) h = _
  unfold bq_na; (try simp only); rw [if_pos h1]
theorem go_an {n : Int32} {ix : Nat} (hd : decode cc pc = .ok (.anewarray ix, 3)) (hb : bw_an o ix = true) (h1 : 0 ≤ n.toInt ∧ n.toInt < 100000) (K : bw_go X d o nL ini rt cc (pc + 3) ls (.ref (bw_n h) :: r) (bw_nw h (.inr (.object RX1, n.toNatClampNeg)) n.toNatClampNeg) Q) : bw_go X d o nL ini rt cc pc ls (.int n :: r) h Q := by
  refine go_x hd (Or.inl rfl) ?_ K
  show bq_an (bw_an o ix) pc ls (.int n :: r) h = _
  unfold bq_an; (try simp only); rw [if_pos ⟨hb, h1⟩]
theorem go_oi {a ix : Nat} (hd : decode cc pc = .ok (.invokespecial ix, 3)) (hb : bw_oi o ix = true) (hs : (r.map fun v => v.category).sum ≤ 8) (K : bw_go X d o nL ini rt cc (pc + 3) ls r h Q) : bw_go X d o nL ini rt cc pc ls (.ref a :: r) h Q := by
  refine go_x hd (Or.inl rfl) ?_ K
  show bq_oi (bw_oi o ix) pc ls (.ref a :: r) h = _
  unfold bq_oi; (try simp only); rw [if_pos ⟨hb, hs⟩]
theorem go_max {x y : Int32} {ix : Nat} (hd : decode cc pc = .ok (.invokestatic ix, 3)) (hb : bw_mx o ix = some true) (hs : (r.map fun v => v.category).sum ≤ 8) (K : bw_go X d o nL ini rt cc (pc + 3) ls (.int (if x < y then y else x) :: r) h Q) : bw_go X d o nL ini rt cc pc ls (.int y :: .int x :: r) h Q := by
  refine go_x hd (Or.inl rfl) ?_ K
  show (match bw_mx o ix with | some b => bq_mx b | none => bq_ac (bw_ac o ix)) pc ls (.int y :: .int x :: r) h = _
  rw [hb]; (try simp only); unfold bq_mx; (try simp only); rw [if_pos hs]; rfl
theorem go_min {x y : Int32} {ix : Nat} (hd : decode cc pc = .ok (.invokestatic ix, 3)) (hb : bw_mx o ix = some false) (hs : (r.map fun v => v.category).sum ≤ 8) (K : bw_go X d o nL ini rt cc (pc + 3) ls (.int (if y < x then y else x) :: r) h Q) : bw_go X d o nL ini rt cc pc ls (.int y :: .int x :: r) h Q := by
  refine go_x hd (Or.inl rfl) ?_ K
  show (match bw_mx o ix with | some b => bq_mx b | none => bq_ac (bw_ac o ix)) pc ls (.int y :: .int x :: r) h = _
  rw [hb]; (try simp only); unfold bq_mx; (try simp only); rw [if_pos hs]; rfl
theorem go_ac {a a0 ix n0 n1 : Nat} {n dp sp : Int32} (hd : decode cc pc = .ok (.invokestatic ix, 3)) (hmx : bw_mx o ix = none) (hb : bw_ac o ix = true) (hs : (r.map fun v => v.category).sum ≤ 8) (hk0 : bw_k h a0 = .inr (.int, n0)) (hk : bw_k h a = .inr (.int, n1)) (ha0 : a0 < bw_n h) (ha : a < bw_n h) (hh : 0 ≤ sp.toInt ∧ 0 ≤ dp.toInt ∧ 0 ≤ n.toInt ∧ sp.toInt + n.toInt ≤ n0 ∧ dp.toInt + n.toInt ≤ n1) (K : bw_go X d o nL ini rt cc (pc + 3) ls r (bw_sa h a (va_cpy (bw_i h a0) (bw_i h a) sp.toNatClampNeg dp.toNatClampNeg n.toNatClampNeg)) Q) : bw_go X d o nL ini rt cc pc ls (.int n :: .int dp :: .ref a :: .int sp :: .ref a0 :: r) h Q := by
  refine go_x hd (Or.inl rfl) ?_ K
  show (match bw_mx o ix with | some b => bq_mx b | none => bq_ac (bw_ac o ix)) pc ls (.int n :: .int dp :: .ref a :: .int sp :: .ref a0 :: r) h = _
  rw [hmx]; (try simp only); unfold bq_ac; (try simp only); rw [hk0, hk]; (try simp only); rw [if_pos ⟨hb, hs, ha0, ha, trivial, trivial, hh⟩]
theorem go_iret {v : Int32} {ty : FieldType} (hd : decode cc pc = .ok (.ireturn, 1)) (hrt : rt = some ty) (hn : narrow ty (.int v) = .int v) (hQ : Q (some (.int v)) h) : bw_go X d o nL ini rt cc pc ls [.int v] h Q := by
  refine go_e hd (Or.inl rfl) rfl ?_ hQ
  subst hrt
  unfold bw_e; (try simp only); rw [if_pos hn]
theorem go_lret {v : Int64} (hd : decode cc pc = .ok (.lreturn, 1)) (hrt : rt = some .long) (hQ : Q (some (.long v)) h) : bw_go X d o nL ini rt cc pc ls [.long v] h Q := by
  refine go_e hd (Or.inl rfl) rfl ?_ hQ
  subst hrt
  rfl
theorem go_aret {a : Nat} {C : String} (hd : decode cc pc = .ok (.areturn, 1)) (hrt : rt = some (.object C)) (hQ : Q (some (.ref a)) h) : bw_go X d o nL ini rt cc pc ls [.ref a] h Q := by
  refine go_e hd (Or.inl rfl) rfl ?_ hQ
  subst hrt
  rfl
theorem go_aretN {C : String} (hd : decode cc pc = .ok (.areturn, 1)) (hrt : rt = some (.object C)) (hQ : Q (some .null) h) : bw_go X d o nL ini rt cc pc ls [.null] h Q := by
  refine go_e hd (Or.inl rfl) rfl ?_ hQ
  subst hrt
  rfl
theorem go_vret (hd : decode cc pc = .ok (.return_, 1)) (hrt : rt = none) (hQ : Q none h) : bw_go X d o nL ini rt cc pc ls [] h Q := by
  refine go_e hd (Or.inl rfl) rfl ?_ hQ
  subst hrt
  rfl
theorem go_cs {ix kd : Nat} {M : bw_M} {as : List Value} (d' : Nat) (hd : decode cc pc = .ok (.invokestatic ix, 3)) (hmx : bw_mx o ix = none) (hac : bw_ac o ix = false) (hm : bw_mt o ix = some (kd, M)) (hkd : kd ≤ 1) (hst : st = as.reverse ++ r) (hn : M.2.2.2.2.2 = as.length) (hs : (r.map fun v => v.category).sum ≤ 8) (hl : (lg_sl as).length ≤ M.2.2.2.1) (h30 : M.2.2.2.1 ≤ 30) (hdd : d' ≤ d) (K : bw_me X d' M false as h (fun v h1 => bw_go X (d + 1) o nL ini rt cc (pc + 3) ls (v.toList ++ r) h1 Q)) : bw_go X (d + 1) o nL ini rt cc pc ls st h Q := by
  refine go_c (M := M) (im := false) (as := as) (r := r) hd (Or.inl rfl) ?_ ?_ ?_ (bw_me_mono hdd K)
  · show (match bw_mx o ix with | some b => bq_mx b | none => bq_ac (bw_ac o ix)) pc ls st h = _
    rw [hmx, hac]; (try simp only); unfold bq_ac
    repeat' split
    all_goals first | rfl | (rename_i z; exact absurd z.1 (by decide))
  · rfl
  · subst hst
    have e1 : ((as.reverse ++ r).take as.length).reverse = as := by rw [← List.length_reverse, List.take_left, List.reverse_reverse]
    have e2 : (as.reverse ++ r).drop as.length = r := by rw [← List.length_reverse, List.drop_left]
    unfold bw_c; (try simp only); rw [hm]; (try simp only); rw [hn, e1, e2, if_pos ⟨hkd, by rw [List.length_append, List.length_reverse]; omega, hs, hl, h30⟩]
theorem go_cv {ix kd a : Nat} {M : bw_M} {as : List Value} (d' : Nat) (hd : decode cc pc = .ok (.invokevirtual ix, 3)) (hm : bw_mt o ix = some (kd, M)) (hkd : kd = 2 ∨ kd = 3) (hst : st = as.reverse ++ .ref a :: r) (hn : M.2.2.2.2.2 = as.length) (ha : a < bw_n h) (hk : bw_k h a = .inl M.1) (h9 : M.1 < 9) (hs : (r.map fun v => v.category).sum ≤ 8) (hl : (lg_sl (.ref a :: as)).length ≤ M.2.2.2.1) (h30 : M.2.2.2.1 ≤ 30) (hdd : d' ≤ d) (K : bw_me X d' M false (.ref a :: as) h (fun v h1 => bw_go X (d + 1) o nL ini rt cc (pc + 3) ls (v.toList ++ r) h1 Q)) : bw_go X (d + 1) o nL ini rt cc pc ls st h Q := by
  refine go_c (M := M) (im := false) (as := .ref a :: as) (r := r) hd (Or.inl rfl) rfl rfl ?_ (bw_me_mono hdd K)
  subst hst
  have e1 : ((as.reverse ++ .ref a :: r).take as.length).reverse = as := by rw [← List.length_reverse, List.take_left, List.reverse_reverse]
  have e2 : (as.reverse ++ .ref a :: r).drop as.length = .ref a :: r := by rw [← List.length_reverse, List.drop_left]
  unfold bw_c; (try simp only); rw [hm]; (try simp only); rw [hn, e1, e2]; (try simp only); rw [if_pos ⟨hkd, by rw [List.length_append, List.length_reverse]; omega, ha, hk, h9, hs, hl, h30⟩]
theorem go_ci {ix kd a : Nat} {M : bw_M} {as : List Value} (d' : Nat) (hd : decode cc pc = .ok (.invokespecial ix, 3)) (hoi : bw_oi o ix = false) (hm : bw_mt o ix = some (kd, M)) (hkd : kd = 4 ∨ kd = 5) (hst : st = as.reverse ++ .ref a :: r) (hn : M.2.2.2.2.2 = as.length) (hnm : M.2.1.name = "<init>") (hrt : M.2.2.2.2.1 = none) (hs : (r.map fun v => v.category).sum ≤ 8) (hl : (lg_sl (.ref a :: as)).length ≤ M.2.2.2.1) (h30 : M.2.2.2.1 ≤ 30) (hdd : d' ≤ d) (K : bw_me X d' M true (.ref a :: as) h (fun v h1 => bw_go X (d + 1) o nL ini rt cc (pc + 3) ls (v.toList ++ r) h1 Q)) : bw_go X (d + 1) o nL ini rt cc pc ls st h Q := by
  refine go_c (M := M) (im := true) (as := .ref a :: as) (r := r) hd (Or.inl rfl) ?_ rfl ?_ (bw_me_mono hdd K)
  · show bq_oi (bw_oi o ix) pc ls st h = _
    rw [hoi]; unfold bq_oi
    repeat' split
    all_goals first | rfl | (rename_i z; exact absurd z.1 (by decide))
  subst hst
  have e1 : ((as.reverse ++ .ref a :: r).take as.length).reverse = as := by rw [← List.length_reverse, List.take_left, List.reverse_reverse]
  have e2 : (as.reverse ++ .ref a :: r).drop as.length = .ref a :: r := by rw [← List.length_reverse, List.drop_left]
  unfold bw_c; (try simp only); rw [hm]; (try simp only); rw [hn, e1, e2]; (try simp only); rw [if_pos ⟨hkd, by rw [List.length_append, List.length_reverse]; omega, hnm, hrt, hs, hl, h30⟩]
end GO
end
