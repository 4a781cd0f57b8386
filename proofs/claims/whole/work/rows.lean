section
-- ===== PART A: goes FIRST, ahead of the names: the tables' words, and 'selects' of the private methods out of them =====
/-- a private method of a class that the tables say can be made, by its rows of tables_1 -/
def lw_okq (q : MethodName × Nat) : Prop := (q.1.cls ≠ "java/lang/invoke/MethodHandle" ∧ q.1.cls ≠ "java/lang/invoke/VarHandle") ∧ Cond.instantiable q.1.cls q.2 ∈ tables_1 ∧ Cond.privateMethod q.1 ∈ tables_1 ∧ Cond.instanceMethod q.1 ∈ tables_1
theorem lw_p0 : lw_okq (⟨"NeedTables$Bodies", "setSign", "(II)V"⟩, 6) := ⟨⟨by decide +kernel, by decide +kernel⟩, List.mem_of_getElem? (i := 49) (by decide +kernel), List.mem_of_getElem? (i := 62) (by decide +kernel), List.mem_of_getElem? (i := 63) (by decide +kernel)⟩
theorem lw_p1 : lw_okq (⟨"NeedTables$Bodies", "measure", "(I)V"⟩, 6) := ⟨⟨by decide +kernel, by decide +kernel⟩, List.mem_of_getElem? (i := 49) (by decide +kernel), List.mem_of_getElem? (i := 76) (by decide +kernel), List.mem_of_getElem? (i := 77) (by decide +kernel)⟩
theorem lw_p2 : lw_okq (⟨"NeedTables$Bodies", "setSpan", "(II)V"⟩, 6) := ⟨⟨by decide +kernel, by decide +kernel⟩, List.mem_of_getElem? (i := 49) (by decide +kernel), List.mem_of_getElem? (i := 102) (by decide +kernel), List.mem_of_getElem? (i := 103) (by decide +kernel)⟩
theorem lw_p3 : lw_okq (⟨"NeedTables$Bodies", "setDepth", "(II)V"⟩, 6) := ⟨⟨by decide +kernel, by decide +kernel⟩, List.mem_of_getElem? (i := 49) (by decide +kernel), List.mem_of_getElem? (i := 106) (by decide +kernel), List.mem_of_getElem? (i := 107) (by decide +kernel)⟩
theorem lw_p4 : lw_okq (⟨"NeedTables$Tables", "fillRows", "()V"⟩, 4) := ⟨⟨by decide +kernel, by decide +kernel⟩, List.mem_of_getElem? (i := 133) (by decide +kernel), List.mem_of_getElem? (i := 253) (by decide +kernel), List.mem_of_getElem? (i := 254) (by decide +kernel)⟩
theorem lw_p5 : lw_okq (⟨"NeedTables$Tables", "rowOf", "(I)I"⟩, 4) := ⟨⟨by decide +kernel, by decide +kernel⟩, List.mem_of_getElem? (i := 133) (by decide +kernel), List.mem_of_getElem? (i := 259) (by decide +kernel), List.mem_of_getElem? (i := 260) (by decide +kernel)⟩
theorem lw_p6 : lw_okq (⟨"NeedTables$Tables", "textRow", "(II)I"⟩, 4) := ⟨⟨by decide +kernel, by decide +kernel⟩, List.mem_of_getElem? (i := 133) (by decide +kernel), List.mem_of_getElem? (i := 276) (by decide +kernel), List.mem_of_getElem? (i := 277) (by decide +kernel)⟩
theorem lw_p7 : lw_okq (⟨"NeedTables$Tables", "rowAt", "(I)I"⟩, 4) := ⟨⟨by decide +kernel, by decide +kernel⟩, List.mem_of_getElem? (i := 133) (by decide +kernel), List.mem_of_getElem? (i := 281) (by decide +kernel), List.mem_of_getElem? (i := 282) (by decide +kernel)⟩
theorem lw_p8 : lw_okq (⟨"NeedTables$Tables", "callRow", "(II)I"⟩, 4) := ⟨⟨by decide +kernel, by decide +kernel⟩, List.mem_of_getElem? (i := 133) (by decide +kernel), List.mem_of_getElem? (i := 286) (by decide +kernel), List.mem_of_getElem? (i := 287) (by decide +kernel)⟩
theorem lw_p9 : lw_okq (⟨"NeedTables$Tables", "setRow", "(II)V"⟩, 4) := ⟨⟨by decide +kernel, by decide +kernel⟩, List.mem_of_getElem? (i := 133) (by decide +kernel), List.mem_of_getElem? (i := 296) (by decide +kernel), List.mem_of_getElem? (i := 297) (by decide +kernel)⟩
theorem lw_p10 : lw_okq (⟨"NeedTables$Tables", "takeRoots", "()Z"⟩, 4) := ⟨⟨by decide +kernel, by decide +kernel⟩, List.mem_of_getElem? (i := 133) (by decide +kernel), List.mem_of_getElem? (i := 300) (by decide +kernel), List.mem_of_getElem? (i := 301) (by decide +kernel)⟩
theorem lw_p11 : lw_okq (⟨"NeedTables$Counts", "countIn", "(II)I"⟩, 4) := ⟨⟨by decide +kernel, by decide +kernel⟩, List.mem_of_getElem? (i := 152) (by decide +kernel), List.mem_of_getElem? (i := 321) (by decide +kernel), List.mem_of_getElem? (i := 322) (by decide +kernel)⟩
theorem lw_p12 : lw_okq (⟨"NeedTables$Counts", "countOf", "(II)I"⟩, 4) := ⟨⟨by decide +kernel, by decide +kernel⟩, List.mem_of_getElem? (i := 152) (by decide +kernel), List.mem_of_getElem? (i := 327) (by decide +kernel), List.mem_of_getElem? (i := 328) (by decide +kernel)⟩
theorem lw_p13 : lw_okq (⟨"NeedTables$Counts", "textCount", "(II)I"⟩, 4) := ⟨⟨by decide +kernel, by decide +kernel⟩, List.mem_of_getElem? (i := 152) (by decide +kernel), List.mem_of_getElem? (i := 333) (by decide +kernel), List.mem_of_getElem? (i := 334) (by decide +kernel)⟩
theorem lw_p14 : lw_okq (⟨"NeedTables$Counts", "countAt", "(I)I"⟩, 4) := ⟨⟨by decide +kernel, by decide +kernel⟩, List.mem_of_getElem? (i := 152) (by decide +kernel), List.mem_of_getElem? (i := 338) (by decide +kernel), List.mem_of_getElem? (i := 339) (by decide +kernel)⟩
theorem lw_p15 : lw_okq (⟨"NeedTables$Counts", "callCount", "(II)I"⟩, 4) := ⟨⟨by decide +kernel, by decide +kernel⟩, List.mem_of_getElem? (i := 152) (by decide +kernel), List.mem_of_getElem? (i := 349) (by decide +kernel), List.mem_of_getElem? (i := 350) (by decide +kernel)⟩
def lw_privs_1 : List (MethodName × Nat) := [(⟨"NeedTables$Bodies", "setSign", "(II)V"⟩, 6), (⟨"NeedTables$Bodies", "measure", "(I)V"⟩, 6), (⟨"NeedTables$Bodies", "setSpan", "(II)V"⟩, 6), (⟨"NeedTables$Bodies", "setDepth", "(II)V"⟩, 6), (⟨"NeedTables$Tables", "fillRows", "()V"⟩, 4), (⟨"NeedTables$Tables", "rowOf", "(I)I"⟩, 4), (⟨"NeedTables$Tables", "textRow", "(II)I"⟩, 4), (⟨"NeedTables$Tables", "rowAt", "(I)I"⟩, 4), (⟨"NeedTables$Tables", "callRow", "(II)I"⟩, 4), (⟨"NeedTables$Tables", "setRow", "(II)V"⟩, 4), (⟨"NeedTables$Tables", "takeRoots", "()Z"⟩, 4), (⟨"NeedTables$Counts", "countIn", "(II)I"⟩, 4), (⟨"NeedTables$Counts", "countOf", "(II)I"⟩, 4), (⟨"NeedTables$Counts", "textCount", "(II)I"⟩, 4), (⟨"NeedTables$Counts", "countAt", "(I)I"⟩, 4), (⟨"NeedTables$Counts", "callCount", "(II)I"⟩, 4)]
theorem lw_r1 : ∀ q ∈ lw_privs_1, lw_okq q := List.forall_mem_cons.mpr ⟨lw_p0, List.forall_mem_cons.mpr ⟨lw_p1, List.forall_mem_cons.mpr ⟨lw_p2, List.forall_mem_cons.mpr ⟨lw_p3, List.forall_mem_cons.mpr ⟨lw_p4, List.forall_mem_cons.mpr ⟨lw_p5, List.forall_mem_cons.mpr ⟨lw_p6, List.forall_mem_cons.mpr ⟨lw_p7, List.forall_mem_cons.mpr ⟨lw_p8, List.forall_mem_cons.mpr ⟨lw_p9, List.forall_mem_cons.mpr ⟨lw_p10, List.forall_mem_cons.mpr ⟨lw_p11, List.forall_mem_cons.mpr ⟨lw_p12, List.forall_mem_cons.mpr ⟨lw_p13, List.forall_mem_cons.mpr ⟨lw_p14, List.forall_mem_cons.mpr ⟨lw_p15, fun _ h => absurd h List.not_mem_nil⟩⟩⟩⟩⟩⟩⟩⟩⟩⟩⟩⟩⟩⟩⟩⟩
theorem lw_p16 : lw_okq (⟨"NeedTables$Counts", "setCount", "(II)V"⟩, 4) := ⟨⟨by decide +kernel, by decide +kernel⟩, List.mem_of_getElem? (i := 152) (by decide +kernel), List.mem_of_getElem? (i := 361) (by decide +kernel), List.mem_of_getElem? (i := 362) (by decide +kernel)⟩
theorem lw_p17 : lw_okq (⟨"NeedTables$Counts", "takeNext", "()Z"⟩, 4) := ⟨⟨by decide +kernel, by decide +kernel⟩, List.mem_of_getElem? (i := 152) (by decide +kernel), List.mem_of_getElem? (i := 365) (by decide +kernel), List.mem_of_getElem? (i := 366) (by decide +kernel)⟩
theorem lw_p18 : lw_okq (⟨"NeedTables$Reader", "canStand", "(II)Z"⟩, 2) := ⟨⟨by decide +kernel, by decide +kernel⟩, List.mem_of_getElem? (i := 36) (by decide +kernel), List.mem_of_getElem? (i := 421) (by decide +kernel), List.mem_of_getElem? (i := 422) (by decide +kernel)⟩
theorem lw_p19 : lw_okq (⟨"NeedTables$Reader", "pass", "(I)V"⟩, 2) := ⟨⟨by decide +kernel, by decide +kernel⟩, List.mem_of_getElem? (i := 36) (by decide +kernel), List.mem_of_getElem? (i := 429) (by decide +kernel), List.mem_of_getElem? (i := 430) (by decide +kernel)⟩
theorem lw_p20 : lw_okq (⟨"NeedTables", "hasNode", "(II)Z"⟩, 6) := ⟨⟨by decide +kernel, by decide +kernel⟩, List.mem_of_getElem? (i := 14) (by decide +kernel), List.mem_of_getElem? (i := 452) (by decide +kernel), List.mem_of_getElem? (i := 453) (by decide +kernel)⟩
theorem lw_p21 : lw_okq (⟨"NeedTables$Machine", "chooseAhead", "()V"⟩, 18) := ⟨⟨by decide +kernel, by decide +kernel⟩, List.mem_of_getElem? (i := 173) (by decide +kernel), List.mem_of_getElem? (i := 484) (by decide +kernel), List.mem_of_getElem? (i := 485) (by decide +kernel)⟩
theorem lw_p22 : lw_okq (⟨"NeedTables$Machine", "takeTold", "(II)V"⟩, 18) := ⟨⟨by decide +kernel, by decide +kernel⟩, List.mem_of_getElem? (i := 173) (by decide +kernel), List.mem_of_getElem? (i := 493) (by decide +kernel), List.mem_of_getElem? (i := 494) (by decide +kernel)⟩
theorem lw_p23 : lw_okq (⟨"NeedTables$Machine", "setSlot", "(II)V"⟩, 18) := ⟨⟨by decide +kernel, by decide +kernel⟩, List.mem_of_getElem? (i := 173) (by decide +kernel), List.mem_of_getElem? (i := 498) (by decide +kernel), List.mem_of_getElem? (i := 499) (by decide +kernel)⟩
theorem lw_p24 : lw_okq (⟨"NeedTables$Machine", "heldIn", "(I)I"⟩, 18) := ⟨⟨by decide +kernel, by decide +kernel⟩, List.mem_of_getElem? (i := 173) (by decide +kernel), List.mem_of_getElem? (i := 505) (by decide +kernel), List.mem_of_getElem? (i := 506) (by decide +kernel)⟩
theorem lw_p25 : lw_okq (⟨"NeedTables$Machine", "isAhead", "(II)Z"⟩, 18) := ⟨⟨by decide +kernel, by decide +kernel⟩, List.mem_of_getElem? (i := 173) (by decide +kernel), List.mem_of_getElem? (i := 509) (by decide +kernel), List.mem_of_getElem? (i := 510) (by decide +kernel)⟩
theorem lw_p26 : lw_okq (⟨"NeedTables$Machine", "goTo", "(II)V"⟩, 18) := ⟨⟨by decide +kernel, by decide +kernel⟩, List.mem_of_getElem? (i := 173) (by decide +kernel), List.mem_of_getElem? (i := 515) (by decide +kernel), List.mem_of_getElem? (i := 516) (by decide +kernel)⟩
theorem lw_p27 : lw_okq (⟨"NeedTables$Machine", "giveBack", "()V"⟩, 18) := ⟨⟨by decide +kernel, by decide +kernel⟩, List.mem_of_getElem? (i := 173) (by decide +kernel), List.mem_of_getElem? (i := 519) (by decide +kernel), List.mem_of_getElem? (i := 520) (by decide +kernel)⟩
theorem lw_p28 : lw_okq (⟨"NeedTables$Machine", "goOnActing", "(III)V"⟩, 18) := ⟨⟨by decide +kernel, by decide +kernel⟩, List.mem_of_getElem? (i := 173) (by decide +kernel), List.mem_of_getElem? (i := 524) (by decide +kernel), List.mem_of_getElem? (i := 525) (by decide +kernel)⟩
theorem lw_p29 : lw_okq (⟨"NeedTables$Machine", "await", "(III)V"⟩, 18) := ⟨⟨by decide +kernel, by decide +kernel⟩, List.mem_of_getElem? (i := 173) (by decide +kernel), List.mem_of_getElem? (i := 528) (by decide +kernel), List.mem_of_getElem? (i := 529) (by decide +kernel)⟩
theorem lw_p30 : lw_okq (⟨"NeedTables$Machine", "give", "(I)V"⟩, 18) := ⟨⟨by decide +kernel, by decide +kernel⟩, List.mem_of_getElem? (i := 173) (by decide +kernel), List.mem_of_getElem? (i := 538) (by decide +kernel), List.mem_of_getElem? (i := 539) (by decide +kernel)⟩
theorem lw_p31 : lw_okq (⟨"NeedTables$Machine", "goOnCalling", "(III)V"⟩, 18) := ⟨⟨by decide +kernel, by decide +kernel⟩, List.mem_of_getElem? (i := 173) (by decide +kernel), List.mem_of_getElem? (i := 545) (by decide +kernel), List.mem_of_getElem? (i := 546) (by decide +kernel)⟩
def lw_privs_2 : List (MethodName × Nat) := [(⟨"NeedTables$Counts", "setCount", "(II)V"⟩, 4), (⟨"NeedTables$Counts", "takeNext", "()Z"⟩, 4), (⟨"NeedTables$Reader", "canStand", "(II)Z"⟩, 2), (⟨"NeedTables$Reader", "pass", "(I)V"⟩, 2), (⟨"NeedTables", "hasNode", "(II)Z"⟩, 6), (⟨"NeedTables$Machine", "chooseAhead", "()V"⟩, 18), (⟨"NeedTables$Machine", "takeTold", "(II)V"⟩, 18), (⟨"NeedTables$Machine", "setSlot", "(II)V"⟩, 18), (⟨"NeedTables$Machine", "heldIn", "(I)I"⟩, 18), (⟨"NeedTables$Machine", "isAhead", "(II)Z"⟩, 18), (⟨"NeedTables$Machine", "goTo", "(II)V"⟩, 18), (⟨"NeedTables$Machine", "giveBack", "()V"⟩, 18), (⟨"NeedTables$Machine", "goOnActing", "(III)V"⟩, 18), (⟨"NeedTables$Machine", "await", "(III)V"⟩, 18), (⟨"NeedTables$Machine", "give", "(I)V"⟩, 18), (⟨"NeedTables$Machine", "goOnCalling", "(III)V"⟩, 18)]
theorem lw_r2 : ∀ q ∈ lw_privs_2, lw_okq q := List.forall_mem_cons.mpr ⟨lw_p16, List.forall_mem_cons.mpr ⟨lw_p17, List.forall_mem_cons.mpr ⟨lw_p18, List.forall_mem_cons.mpr ⟨lw_p19, List.forall_mem_cons.mpr ⟨lw_p20, List.forall_mem_cons.mpr ⟨lw_p21, List.forall_mem_cons.mpr ⟨lw_p22, List.forall_mem_cons.mpr ⟨lw_p23, List.forall_mem_cons.mpr ⟨lw_p24, List.forall_mem_cons.mpr ⟨lw_p25, List.forall_mem_cons.mpr ⟨lw_p26, List.forall_mem_cons.mpr ⟨lw_p27, List.forall_mem_cons.mpr ⟨lw_p28, List.forall_mem_cons.mpr ⟨lw_p29, List.forall_mem_cons.mpr ⟨lw_p30, List.forall_mem_cons.mpr ⟨lw_p31, fun _ h => absurd h List.not_mem_nil⟩⟩⟩⟩⟩⟩⟩⟩⟩⟩⟩⟩⟩⟩⟩⟩
theorem lw_p32 : lw_okq (⟨"NeedTables$Machine", "goToSlot", "(I)V"⟩, 18) := ⟨⟨by decide +kernel, by decide +kernel⟩, List.mem_of_getElem? (i := 173) (by decide +kernel), List.mem_of_getElem? (i := 549) (by decide +kernel), List.mem_of_getElem? (i := 550) (by decide +kernel)⟩
theorem lw_p33 : lw_okq (⟨"NeedTables$Machine", "begin", "()V"⟩, 18) := ⟨⟨by decide +kernel, by decide +kernel⟩, List.mem_of_getElem? (i := 173) (by decide +kernel), List.mem_of_getElem? (i := 553) (by decide +kernel), List.mem_of_getElem? (i := 554) (by decide +kernel)⟩
theorem lw_p34 : lw_okq (⟨"NeedTables$Machine", "beginArgument", "(I)V"⟩, 18) := ⟨⟨by decide +kernel, by decide +kernel⟩, List.mem_of_getElem? (i := 173) (by decide +kernel), List.mem_of_getElem? (i := 557) (by decide +kernel), List.mem_of_getElem? (i := 558) (by decide +kernel)⟩
theorem lw_p35 : lw_okq (⟨"NeedTables$Machine", "beginCall", "(I)V"⟩, 18) := ⟨⟨by decide +kernel, by decide +kernel⟩, List.mem_of_getElem? (i := 173) (by decide +kernel), List.mem_of_getElem? (i := 561) (by decide +kernel), List.mem_of_getElem? (i := 562) (by decide +kernel)⟩
theorem lw_p36 : lw_okq (⟨"NeedTables$Machine", "hang", "(III)V"⟩, 18) := ⟨⟨by decide +kernel, by decide +kernel⟩, List.mem_of_getElem? (i := 173) (by decide +kernel), List.mem_of_getElem? (i := 565) (by decide +kernel), List.mem_of_getElem? (i := 566) (by decide +kernel)⟩
theorem lw_p37 : lw_okq (⟨"NeedTables$Tables", "stops", "(II)Z"⟩, 4) := ⟨⟨by decide +kernel, by decide +kernel⟩, List.mem_of_getElem? (i := 133) (by decide +kernel), List.mem_of_getElem? (i := 605) (by decide +kernel), List.mem_of_getElem? (i := 606) (by decide +kernel)⟩
theorem lw_p38 : lw_okq (⟨"NeedTablesModel", "layTables", "()V"⟩, 25) := ⟨⟨by decide +kernel, by decide +kernel⟩, List.mem_of_getElem? (i := 652) (by decide +kernel), List.mem_of_getElem? (i := 658) (by decide +kernel), List.mem_of_getElem? (i := 659) (by decide +kernel)⟩
theorem lw_p39 : lw_okq (⟨"NeedTablesModel", "findMay", "(II)V"⟩, 25) := ⟨⟨by decide +kernel, by decide +kernel⟩, List.mem_of_getElem? (i := 652) (by decide +kernel), List.mem_of_getElem? (i := 665) (by decide +kernel), List.mem_of_getElem? (i := 666) (by decide +kernel)⟩
theorem lw_p40 : lw_okq (⟨"NeedTablesModel", "textOf", "(III)I"⟩, 25) := ⟨⟨by decide +kernel, by decide +kernel⟩, List.mem_of_getElem? (i := 652) (by decide +kernel), List.mem_of_getElem? (i := 672) (by decide +kernel), List.mem_of_getElem? (i := 673) (by decide +kernel)⟩
theorem lw_p41 : lw_okq (⟨"NeedTablesModel", "findUses", "(II)I"⟩, 25) := ⟨⟨by decide +kernel, by decide +kernel⟩, List.mem_of_getElem? (i := 652) (by decide +kernel), List.mem_of_getElem? (i := 687) (by decide +kernel), List.mem_of_getElem? (i := 688) (by decide +kernel)⟩
theorem lw_p42 : lw_okq (⟨"NeedTablesModel", "isNode", "(II)Z"⟩, 25) := ⟨⟨by decide +kernel, by decide +kernel⟩, List.mem_of_getElem? (i := 652) (by decide +kernel), List.mem_of_getElem? (i := 805) (by decide +kernel), List.mem_of_getElem? (i := 806) (by decide +kernel)⟩
theorem lw_p43 : lw_okq (⟨"NeedTablesModel", "isMust", "(II)Z"⟩, 25) := ⟨⟨by decide +kernel, by decide +kernel⟩, List.mem_of_getElem? (i := 652) (by decide +kernel), List.mem_of_getElem? (i := 820) (by decide +kernel), List.mem_of_getElem? (i := 821) (by decide +kernel)⟩
theorem lw_p44 : lw_okq (⟨"NeedTablesModel", "mayCome", "(II)Z"⟩, 25) := ⟨⟨by decide +kernel, by decide +kernel⟩, List.mem_of_getElem? (i := 652) (by decide +kernel), List.mem_of_getElem? (i := 824) (by decide +kernel), List.mem_of_getElem? (i := 825) (by decide +kernel)⟩
theorem lw_p45 : lw_okq (⟨"NeedTablesModel", "isJoint", "(II)Z"⟩, 25) := ⟨⟨by decide +kernel, by decide +kernel⟩, List.mem_of_getElem? (i := 652) (by decide +kernel), List.mem_of_getElem? (i := 832) (by decide +kernel), List.mem_of_getElem? (i := 833) (by decide +kernel)⟩
theorem lw_p46 : lw_okq (⟨"NeedTablesModel", "runIt", "(III)V"⟩, 25) := ⟨⟨by decide +kernel, by decide +kernel⟩, List.mem_of_getElem? (i := 652) (by decide +kernel), List.mem_of_getElem? (i := 857) (by decide +kernel), List.mem_of_getElem? (i := 858) (by decide +kernel)⟩
theorem lw_p47 : lw_okq (⟨"NeedTablesModel", "go", "(II)V"⟩, 25) := ⟨⟨by decide +kernel, by decide +kernel⟩, List.mem_of_getElem? (i := 652) (by decide +kernel), List.mem_of_getElem? (i := 864) (by decide +kernel), List.mem_of_getElem? (i := 865) (by decide +kernel)⟩
def lw_privs_3 : List (MethodName × Nat) := [(⟨"NeedTables$Machine", "goToSlot", "(I)V"⟩, 18), (⟨"NeedTables$Machine", "begin", "()V"⟩, 18), (⟨"NeedTables$Machine", "beginArgument", "(I)V"⟩, 18), (⟨"NeedTables$Machine", "beginCall", "(I)V"⟩, 18), (⟨"NeedTables$Machine", "hang", "(III)V"⟩, 18), (⟨"NeedTables$Tables", "stops", "(II)Z"⟩, 4), (⟨"NeedTablesModel", "layTables", "()V"⟩, 25), (⟨"NeedTablesModel", "findMay", "(II)V"⟩, 25), (⟨"NeedTablesModel", "textOf", "(III)I"⟩, 25), (⟨"NeedTablesModel", "findUses", "(II)I"⟩, 25), (⟨"NeedTablesModel", "isNode", "(II)Z"⟩, 25), (⟨"NeedTablesModel", "isMust", "(II)Z"⟩, 25), (⟨"NeedTablesModel", "mayCome", "(II)Z"⟩, 25), (⟨"NeedTablesModel", "isJoint", "(II)Z"⟩, 25), (⟨"NeedTablesModel", "runIt", "(III)V"⟩, 25), (⟨"NeedTablesModel", "go", "(II)V"⟩, 25)]
theorem lw_r3 : ∀ q ∈ lw_privs_3, lw_okq q := List.forall_mem_cons.mpr ⟨lw_p32, List.forall_mem_cons.mpr ⟨lw_p33, List.forall_mem_cons.mpr ⟨lw_p34, List.forall_mem_cons.mpr ⟨lw_p35, List.forall_mem_cons.mpr ⟨lw_p36, List.forall_mem_cons.mpr ⟨lw_p37, List.forall_mem_cons.mpr ⟨lw_p38, List.forall_mem_cons.mpr ⟨lw_p39, List.forall_mem_cons.mpr ⟨lw_p40, List.forall_mem_cons.mpr ⟨lw_p41, List.forall_mem_cons.mpr ⟨lw_p42, List.forall_mem_cons.mpr ⟨lw_p43, List.forall_mem_cons.mpr ⟨lw_p44, List.forall_mem_cons.mpr ⟨lw_p45, List.forall_mem_cons.mpr ⟨lw_p46, List.forall_mem_cons.mpr ⟨lw_p47, fun _ h => absurd h List.not_mem_nil⟩⟩⟩⟩⟩⟩⟩⟩⟩⟩⟩⟩⟩⟩⟩⟩
theorem lw_p48 : lw_okq (⟨"NeedTablesModel", "begin", "(I)V"⟩, 25) := ⟨⟨by decide +kernel, by decide +kernel⟩, List.mem_of_getElem? (i := 652) (by decide +kernel), List.mem_of_getElem? (i := 868) (by decide +kernel), List.mem_of_getElem? (i := 869) (by decide +kernel)⟩
theorem lw_p49 : lw_okq (⟨"NeedTablesModel", "beginCall", "(III)V"⟩, 25) := ⟨⟨by decide +kernel, by decide +kernel⟩, List.mem_of_getElem? (i := 652) (by decide +kernel), List.mem_of_getElem? (i := 872) (by decide +kernel), List.mem_of_getElem? (i := 873) (by decide +kernel)⟩
theorem lw_p50 : lw_okq (⟨"NeedTablesModel", "goAhead", "(III)V"⟩, 25) := ⟨⟨by decide +kernel, by decide +kernel⟩, List.mem_of_getElem? (i := 652) (by decide +kernel), List.mem_of_getElem? (i := 876) (by decide +kernel), List.mem_of_getElem? (i := 877) (by decide +kernel)⟩
theorem lw_p51 : lw_okq (⟨"NeedTablesModel", "waitFor", "(IIII)V"⟩, 25) := ⟨⟨by decide +kernel, by decide +kernel⟩, List.mem_of_getElem? (i := 652) (by decide +kernel), List.mem_of_getElem? (i := 880) (by decide +kernel), List.mem_of_getElem? (i := 881) (by decide +kernel)⟩
theorem lw_p52 : lw_okq (⟨"NeedTablesModel", "beginArgument", "(II)V"⟩, 25) := ⟨⟨by decide +kernel, by decide +kernel⟩, List.mem_of_getElem? (i := 652) (by decide +kernel), List.mem_of_getElem? (i := 884) (by decide +kernel), List.mem_of_getElem? (i := 885) (by decide +kernel)⟩
theorem lw_p53 : lw_okq (⟨"NeedTablesModel", "come", "(I)V"⟩, 25) := ⟨⟨by decide +kernel, by decide +kernel⟩, List.mem_of_getElem? (i := 652) (by decide +kernel), List.mem_of_getElem? (i := 888) (by decide +kernel), List.mem_of_getElem? (i := 889) (by decide +kernel)⟩
theorem lw_p54 : lw_okq (⟨"NeedTablesModel", "goOn", "()V"⟩, 25) := ⟨⟨by decide +kernel, by decide +kernel⟩, List.mem_of_getElem? (i := 652) (by decide +kernel), List.mem_of_getElem? (i := 892) (by decide +kernel), List.mem_of_getElem? (i := 893) (by decide +kernel)⟩
def lw_privs_4 : List (MethodName × Nat) := [(⟨"NeedTablesModel", "begin", "(I)V"⟩, 25), (⟨"NeedTablesModel", "beginCall", "(III)V"⟩, 25), (⟨"NeedTablesModel", "goAhead", "(III)V"⟩, 25), (⟨"NeedTablesModel", "waitFor", "(IIII)V"⟩, 25), (⟨"NeedTablesModel", "beginArgument", "(II)V"⟩, 25), (⟨"NeedTablesModel", "come", "(I)V"⟩, 25), (⟨"NeedTablesModel", "goOn", "()V"⟩, 25)]
theorem lw_r4 : ∀ q ∈ lw_privs_4, lw_okq q := List.forall_mem_cons.mpr ⟨lw_p48, List.forall_mem_cons.mpr ⟨lw_p49, List.forall_mem_cons.mpr ⟨lw_p50, List.forall_mem_cons.mpr ⟨lw_p51, List.forall_mem_cons.mpr ⟨lw_p52, List.forall_mem_cons.mpr ⟨lw_p53, List.forall_mem_cons.mpr ⟨lw_p54, fun _ h => absurd h List.not_mem_nil⟩⟩⟩⟩⟩⟩⟩
def lw_privs : List (MethodName × Nat) := lw_privs_1 ++ (lw_privs_2 ++ (lw_privs_3 ++ (lw_privs_4)))
def lw_tbl : List Cond := k2_sels lw_privs ++ tables_1
theorem lw_privs_ok : ∀ q ∈ lw_privs, lw_okq q := by
  show ∀ q ∈ lw_privs_1 ++ (lw_privs_2 ++ (lw_privs_3 ++ (lw_privs_4))), lw_okq q
  exact List.forall_mem_append.mpr ⟨lw_r1, List.forall_mem_append.mpr ⟨lw_r2, List.forall_mem_append.mpr ⟨lw_r3, lw_r4⟩⟩⟩
-- names
def RX0 : String := "NeedTables$Bodies"
def TX0 : u_T := fun k => match k with
  | 0 => ("NeedTables$Bodies", "counts", "[I", true)
  | 1 => ("NeedTables$Bodies", "signs", "[I", true)
  | 2 => ("NeedTables$Bodies", "kinds", "[I", true)
  | 3 => ("NeedTables$Bodies", "worths", "[I", true)
  | 4 => ("NeedTables$Bodies", "spans", "[I", true)
  | _ => ("NeedTables$Bodies", "depths", "[I", true)
def tyX0 : Nat → FieldType := fun k => match k with
  | 0 => .array .int
  | 1 => .array .int
  | 2 => .array .int
  | 3 => .array .int
  | 4 => .array .int
  | _ => .array .int
abbrev wsX00 : List Cond := u_ws RX0 TX0 6
theorem nmX0 : ∀ a, a < 6 → ∀ b, b < 6 → a ≠ b → (TX0 a).2.1 ≠ (TX0 b).2.1 := by decide +kernel
theorem tyX0_ok : ∀ k, k < 6 → parseFieldDescriptor (TX0 k).2.2.1 = some (tyX0 k) := by decide +kernel
abbrev cX0_init : ByteArray := prog_2_method_1_code
def yX0_init : MethodName := ⟨RX0, "<init>", "()V"⟩
abbrev cX0_put : ByteArray := prog_2_method_2_code
def yX0_put : MethodName := ⟨RX0, "put", "(ILNeedTables$Pad;)V"⟩
abbrev cX0_setSign : ByteArray := prog_2_method_3_code
def yX0_setSign : MethodName := ⟨RX0, "setSign", "(II)V"⟩
abbrev cX0_measure : ByteArray := prog_2_method_4_code
def yX0_measure : MethodName := ⟨RX0, "measure", "(I)V"⟩
abbrev cX0_setSpan : ByteArray := prog_2_method_5_code
def yX0_setSpan : MethodName := ⟨RX0, "setSpan", "(II)V"⟩
abbrev cX0_setDepth : ByteArray := prog_2_method_6_code
def yX0_setDepth : MethodName := ⟨RX0, "setDepth", "(II)V"⟩
abbrev cX0_count : ByteArray := prog_2_method_7_code
def yX0_count : MethodName := ⟨RX0, "count", "(I)I"⟩
abbrev cX0_root : ByteArray := prog_2_method_8_code
def yX0_root : MethodName := ⟨RX0, "root", "(I)I"⟩
abbrev cX0_textPlace : ByteArray := prog_2_method_9_code
def yX0_textPlace : MethodName := ⟨RX0, "textPlace", "(II)I"⟩
abbrev cX0_signAt : ByteArray := prog_2_method_10_code
def yX0_signAt : MethodName := ⟨RX0, "signAt", "(I)I"⟩
abbrev cX0_kindAt : ByteArray := prog_2_method_11_code
def yX0_kindAt : MethodName := ⟨RX0, "kindAt", "(I)I"⟩
abbrev cX0_worthAt : ByteArray := prog_2_method_12_code
def yX0_worthAt : MethodName := ⟨RX0, "worthAt", "(I)I"⟩
abbrev cX0_spanAt : ByteArray := prog_2_method_13_code
def yX0_spanAt : MethodName := ⟨RX0, "spanAt", "(I)I"⟩
abbrev cX0_depthAt : ByteArray := prog_2_method_14_code
def yX0_depthAt : MethodName := ⟨RX0, "depthAt", "(I)I"⟩
def RX1 : String := "NeedTables$Counts"
def TX1 : u_T := fun k => match k with
  | 0 => ("NeedTables$Counts", "bodies", "LNeedTables$Bodies;", true)
  | 1 => ("NeedTables$Counts", "counted", "[I", true)
  | 2 => ("NeedTables$Counts", "known", "[I", true)
  | _ => ("NeedTables$Counts", "next", "[I", true)
def tyX1 : Nat → FieldType := fun k => match k with
  | 0 => .object "NeedTables$Bodies"
  | 1 => .array .int
  | 2 => .array .int
  | _ => .array .int
abbrev wsX10 : List Cond := u_ws RX1 TX1 4
theorem nmX1 : ∀ a, a < 4 → ∀ b, b < 4 → a ≠ b → (TX1 a).2.1 ≠ (TX1 b).2.1 := by decide +kernel
theorem tyX1_ok : ∀ k, k < 4 → parseFieldDescriptor (TX1 k).2.2.1 = some (tyX1 k) := by decide +kernel
abbrev cX1_init : ByteArray := prog_3_method_1_code
def yX1_init : MethodName := ⟨RX1, "<init>", "(LNeedTables$Bodies;)V"⟩
abbrev cX1_renew : ByteArray := prog_3_method_2_code
def yX1_renew : MethodName := ⟨RX1, "renew", "()V"⟩
abbrev cX1_takeNext : ByteArray := prog_3_method_3_code
def yX1_takeNext : MethodName := ⟨RX1, "takeNext", "()Z"⟩
abbrev cX1_countIn : ByteArray := prog_3_method_4_code
def yX1_countIn : MethodName := ⟨RX1, "countIn", "(II)I"⟩
abbrev cX1_countOf : ByteArray := prog_3_method_5_code
def yX1_countOf : MethodName := ⟨RX1, "countOf", "(II)I"⟩
abbrev cX1_callCount : ByteArray := prog_3_method_6_code
def yX1_callCount : MethodName := ⟨RX1, "callCount", "(II)I"⟩
abbrev cX1_textCount : ByteArray := prog_3_method_7_code
def yX1_textCount : MethodName := ⟨RX1, "textCount", "(II)I"⟩
abbrev cX1_countAt : ByteArray := prog_3_method_8_code
def yX1_countAt : MethodName := ⟨RX1, "countAt", "(I)I"⟩
abbrev cX1_setCount : ByteArray := prog_3_method_9_code
def yX1_setCount : MethodName := ⟨RX1, "setCount", "(II)V"⟩
abbrev cX1_of : ByteArray := prog_3_method_10_code
def yX1_of : MethodName := ⟨RX1, "of", "(II)I"⟩
def RX2 : String := "NeedTables$Machine"
def TX2 : u_T := fun k => match k with
  | 0 => ("NeedTables$Machine", "bodies", "LNeedTables$Bodies;", true)
  | 1 => ("NeedTables$Machine", "tables", "LNeedTables$Tables;", true)
  | 2 => ("NeedTables$Machine", "slotHeld", "[I", true)
  | 3 => ("NeedTables$Machine", "slotPlace", "[I", true)
  | 4 => ("NeedTables$Machine", "slotScope", "[I", true)
  | 5 => ("NeedTables$Machine", "scopes", "I", false)
  | 6 => ("NeedTables$Machine", "waitPlace", "[I", true)
  | 7 => ("NeedTables$Machine", "waitScope", "[I", true)
  | 8 => ("NeedTables$Machine", "waitHeld", "[I", true)
  | 9 => ("NeedTables$Machine", "waiting", "I", false)
  | 10 => ("NeedTables$Machine", "way", "I", false)
  | 11 => ("NeedTables$Machine", "ahead", "[I", true)
  | 12 => ("NeedTables$Machine", "end", "I", false)
  | 13 => ("NeedTables$Machine", "taken", "I", false)
  | 14 => ("NeedTables$Machine", "place", "I", false)
  | 15 => ("NeedTables$Machine", "scope", "I", false)
  | 16 => ("NeedTables$Machine", "given", "Z", false)
  | _ => ("NeedTables$Machine", "value", "I", false)
def tyX2 : Nat → FieldType := fun k => match k with
  | 0 => .object "NeedTables$Bodies"
  | 1 => .object "NeedTables$Tables"
  | 2 => .array .int
  | 3 => .array .int
  | 4 => .array .int
  | 5 => .int
  | 6 => .array .int
  | 7 => .array .int
  | 8 => .array .int
  | 9 => .int
  | 10 => .int
  | 11 => .array .int
  | 12 => .int
  | 13 => .int
  | 14 => .int
  | 15 => .int
  | 16 => .boolean
  | _ => .int
abbrev wsX20 : List Cond := u_ws RX2 TX2 18
theorem nmX2 : ∀ a, a < 18 → ∀ b, b < 18 → a ≠ b → (TX2 a).2.1 ≠ (TX2 b).2.1 := by decide +kernel
theorem tyX2_ok : ∀ k, k < 18 → parseFieldDescriptor (TX2 k).2.2.1 = some (tyX2 k) := by decide +kernel
abbrev cX2_init : ByteArray := prog_4_method_1_code
def yX2_init : MethodName := ⟨RX2, "<init>", "(LNeedTables$Bodies;LNeedTables$Tables;)V"⟩
abbrev cX2_end : ByteArray := prog_4_method_2_code
def yX2_end : MethodName := ⟨RX2, "end", "()I"⟩
abbrev cX2_taken : ByteArray := prog_4_method_3_code
def yX2_taken : MethodName := ⟨RX2, "taken", "()I"⟩
abbrev cX2_play : ByteArray := prog_4_method_4_code
def yX2_play : MethodName := ⟨RX2, "play", "(III)V"⟩
abbrev cX2_chooseAhead : ByteArray := prog_4_method_5_code
def yX2_chooseAhead : MethodName := ⟨RX2, "chooseAhead", "()V"⟩
abbrev cX2_takeTold : ByteArray := prog_4_method_6_code
def yX2_takeTold : MethodName := ⟨RX2, "takeTold", "(II)V"⟩
abbrev cX2_isAhead : ByteArray := prog_4_method_7_code
def yX2_isAhead : MethodName := ⟨RX2, "isAhead", "(II)Z"⟩
abbrev cX2_begin : ByteArray := prog_4_method_8_code
def yX2_begin : MethodName := ⟨RX2, "begin", "()V"⟩
abbrev cX2_beginArgument : ByteArray := prog_4_method_9_code
def yX2_beginArgument : MethodName := ⟨RX2, "beginArgument", "(I)V"⟩
abbrev cX2_beginCall : ByteArray := prog_4_method_10_code
def yX2_beginCall : MethodName := ⟨RX2, "beginCall", "(I)V"⟩
abbrev cX2_goOnCalling : ByteArray := prog_4_method_11_code
def yX2_goOnCalling : MethodName := ⟨RX2, "goOnCalling", "(III)V"⟩
abbrev cX2_giveBack : ByteArray := prog_4_method_12_code
def yX2_giveBack : MethodName := ⟨RX2, "giveBack", "()V"⟩
abbrev cX2_goOnActing : ByteArray := prog_4_method_13_code
def yX2_goOnActing : MethodName := ⟨RX2, "goOnActing", "(III)V"⟩
abbrev cX2_acted : ByteArray := prog_4_method_14_code
def yX2_acted : MethodName := ⟨RX2, "acted", "(III)I"⟩
abbrev cX2_give : ByteArray := prog_4_method_15_code
def yX2_give : MethodName := ⟨RX2, "give", "(I)V"⟩
abbrev cX2_goTo : ByteArray := prog_4_method_16_code
def yX2_goTo : MethodName := ⟨RX2, "goTo", "(II)V"⟩
abbrev cX2_await : ByteArray := prog_4_method_17_code
def yX2_await : MethodName := ⟨RX2, "await", "(III)V"⟩
abbrev cX2_slotOf : ByteArray := prog_4_method_18_code
def yX2_slotOf : MethodName := ⟨RX2, "slotOf", "(II)I"⟩
abbrev cX2_isSlot : ByteArray := prog_4_method_19_code
def yX2_isSlot : MethodName := ⟨RX2, "isSlot", "(I)Z"⟩
abbrev cX2_heldIn : ByteArray := prog_4_method_20_code
def yX2_heldIn : MethodName := ⟨RX2, "heldIn", "(I)I"⟩
abbrev cX2_setSlot : ByteArray := prog_4_method_21_code
def yX2_setSlot : MethodName := ⟨RX2, "setSlot", "(II)V"⟩
abbrev cX2_hang : ByteArray := prog_4_method_22_code
def yX2_hang : MethodName := ⟨RX2, "hang", "(III)V"⟩
abbrev cX2_goToSlot : ByteArray := prog_4_method_23_code
def yX2_goToSlot : MethodName := ⟨RX2, "goToSlot", "(I)V"⟩
def RX3 : String := "NeedTables$Outcomes"
def TX3 : u_T := fun k => match k with
  | 0 => ("NeedTables$Outcomes", "machine", "LNeedTables$Machine;", true)
  | _ => ("NeedTables$Outcomes", "kept", "[I", true)
def tyX3 : Nat → FieldType := fun k => match k with
  | 0 => .object "NeedTables$Machine"
  | _ => .array .int
abbrev wsX30 : List Cond := u_ws RX3 TX3 2
theorem nmX3 : ∀ a, a < 2 → ∀ b, b < 2 → a ≠ b → (TX3 a).2.1 ≠ (TX3 b).2.1 := by decide +kernel
theorem tyX3_ok : ∀ k, k < 2 → parseFieldDescriptor (TX3 k).2.2.1 = some (tyX3 k) := by decide +kernel
abbrev cX3_init : ByteArray := prog_5_method_1_code
def yX3_init : MethodName := ⟨RX3, "<init>", "(LNeedTables$Machine;)V"⟩
abbrev cX3_forget : ByteArray := prog_5_method_2_code
def yX3_forget : MethodName := ⟨RX3, "forget", "()V"⟩
abbrev cX3_endIn : ByteArray := prog_5_method_3_code
def yX3_endIn : MethodName := ⟨RX3, "endIn", "(I)I"⟩
abbrev cX3_stepsIn : ByteArray := prog_5_method_4_code
def yX3_stepsIn : MethodName := ⟨RX3, "stepsIn", "(I)I"⟩
abbrev cX3_of : ByteArray := prog_5_method_5_code
def yX3_of : MethodName := ⟨RX3, "of", "(III)I"⟩
def RX4 : String := "NeedTables$Pad"
def TX4 : u_T := fun k => match k with
  | 0 => ("NeedTables$Pad", "signs", "[I", true)
  | _ => ("NeedTables$Pad", "count", "I", false)
def tyX4 : Nat → FieldType := fun k => match k with
  | 0 => .array .int
  | _ => .int
abbrev wsX40 : List Cond := u_ws RX4 TX4 2
theorem nmX4 : ∀ a, a < 2 → ∀ b, b < 2 → a ≠ b → (TX4 a).2.1 ≠ (TX4 b).2.1 := by decide +kernel
theorem tyX4_ok : ∀ k, k < 2 → parseFieldDescriptor (TX4 k).2.2.1 = some (tyX4 k) := by decide +kernel
abbrev cX4_init : ByteArray := prog_6_method_1_code
def yX4_init : MethodName := ⟨RX4, "<init>", "()V"⟩
abbrev cX4_count : ByteArray := prog_6_method_2_code
def yX4_count : MethodName := ⟨RX4, "count", "()I"⟩
abbrev cX4_add : ByteArray := prog_6_method_3_code
def yX4_add : MethodName := ⟨RX4, "add", "(I)Z"⟩
abbrev cX4_clear : ByteArray := prog_6_method_4_code
def yX4_clear : MethodName := ⟨RX4, "clear", "()V"⟩
abbrev cX4_signAt : ByteArray := prog_6_method_5_code
def yX4_signAt : MethodName := ⟨RX4, "signAt", "(I)I"⟩
def RX5 : String := "NeedTables$Reader"
def TX5 : u_T := fun k => match k with
  | 0 => ("NeedTables$Reader", "missing", "[I", true)
  | _ => ("NeedTables$Reader", "level", "I", false)
def tyX5 : Nat → FieldType := fun k => match k with
  | 0 => .array .int
  | _ => .int
abbrev wsX50 : List Cond := u_ws RX5 TX5 2
theorem nmX5 : ∀ a, a < 2 → ∀ b, b < 2 → a ≠ b → (TX5 a).2.1 ≠ (TX5 b).2.1 := by decide +kernel
theorem tyX5_ok : ∀ k, k < 2 → parseFieldDescriptor (TX5 k).2.2.1 = some (tyX5 k) := by decide +kernel
abbrev cX5_init : ByteArray := prog_7_method_1_code
def yX5_init : MethodName := ⟨RX5, "<init>", "()V"⟩
abbrev cX5_firstFault : ByteArray := prog_7_method_2_code
def yX5_firstFault : MethodName := ⟨RX5, "firstFault", "(LNeedTables$Pad;I)I"⟩
abbrev cX5_canStand : ByteArray := prog_7_method_3_code
def yX5_canStand : MethodName := ⟨RX5, "canStand", "(II)Z"⟩
abbrev cX5_pass : ByteArray := prog_7_method_4_code
def yX5_pass : MethodName := ⟨RX5, "pass", "(I)V"⟩
def RX6 : String := "NeedTables$Signs"
def TX6 : u_T := fun k => match k with
  | _ => ("", "", "", false)
def tyX6 : Nat → FieldType := fun k => match k with
  | _ => .int
abbrev wsX60 : List Cond := u_ws RX6 TX6 0
theorem nmX6 : ∀ a, a < 0 → ∀ b, b < 0 → a ≠ b → (TX6 a).2.1 ≠ (TX6 b).2.1 := by decide +kernel
theorem tyX6_ok : ∀ k, k < 0 → parseFieldDescriptor (TX6 k).2.2.1 = some (tyX6 k) := by decide +kernel
abbrev cX6_kindOf : ByteArray := prog_8_method_2_code
def yX6_kindOf : MethodName := ⟨RX6, "kindOf", "(I)I"⟩
abbrev cX6_worthOf : ByteArray := prog_8_method_3_code
def yX6_worthOf : MethodName := ⟨RX6, "worthOf", "(I)I"⟩
abbrev cX6_textsOf : ByteArray := prog_8_method_4_code
def yX6_textsOf : MethodName := ⟨RX6, "textsOf", "(I)I"⟩
def RX7 : String := "NeedTables$Tables"
def TX7 : u_T := fun k => match k with
  | 0 => ("NeedTables$Tables", "bodies", "LNeedTables$Bodies;", true)
  | 1 => ("NeedTables$Tables", "rows", "[I", true)
  | 2 => ("NeedTables$Tables", "table", "[I", true)
  | _ => ("NeedTables$Tables", "needed", "[I", true)
def tyX7 : Nat → FieldType := fun k => match k with
  | 0 => .object "NeedTables$Bodies"
  | 1 => .array .int
  | 2 => .array .int
  | _ => .array .int
abbrev wsX70 : List Cond := u_ws RX7 TX7 4
theorem nmX7 : ∀ a, a < 4 → ∀ b, b < 4 → a ≠ b → (TX7 a).2.1 ≠ (TX7 b).2.1 := by decide +kernel
theorem tyX7_ok : ∀ k, k < 4 → parseFieldDescriptor (TX7 k).2.2.1 = some (tyX7 k) := by decide +kernel
abbrev cX7_init : ByteArray := prog_9_method_1_code
def yX7_init : MethodName := ⟨RX7, "<init>", "(LNeedTables$Bodies;)V"⟩
abbrev cX7_renew : ByteArray := prog_9_method_2_code
def yX7_renew : MethodName := ⟨RX7, "renew", "()V"⟩
abbrev cX7_fillRows : ByteArray := prog_9_method_3_code
def yX7_fillRows : MethodName := ⟨RX7, "fillRows", "()V"⟩
abbrev cX7_takeRoots : ByteArray := prog_9_method_4_code
def yX7_takeRoots : MethodName := ⟨RX7, "takeRoots", "()Z"⟩
abbrev cX7_rowOf : ByteArray := prog_9_method_5_code
def yX7_rowOf : MethodName := ⟨RX7, "rowOf", "(I)I"⟩
abbrev cX7_callRow : ByteArray := prog_9_method_6_code
def yX7_callRow : MethodName := ⟨RX7, "callRow", "(II)I"⟩
abbrev cX7_textRow : ByteArray := prog_9_method_7_code
def yX7_textRow : MethodName := ⟨RX7, "textRow", "(II)I"⟩
abbrev cX7_rowAt : ByteArray := prog_9_method_8_code
def yX7_rowAt : MethodName := ⟨RX7, "rowAt", "(I)I"⟩
abbrev cX7_setRow : ByteArray := prog_9_method_9_code
def yX7_setRow : MethodName := ⟨RX7, "setRow", "(II)V"⟩
abbrev cX7_setsWith : ByteArray := prog_9_method_10_code
def yX7_setsWith : MethodName := ⟨RX7, "setsWith", "(I)I"⟩
abbrev cX7_has : ByteArray := prog_9_method_11_code
def yX7_has : MethodName := ⟨RX7, "has", "(II)Z"⟩
abbrev cX7_hasAt : ByteArray := prog_9_method_12_code
def yX7_hasAt : MethodName := ⟨RX7, "hasAt", "(II)Z"⟩
abbrev cX7_neededOf : ByteArray := prog_9_method_13_code
def yX7_neededOf : MethodName := ⟨RX7, "neededOf", "(I)I"⟩
abbrev cX7_neededAt : ByteArray := prog_9_method_14_code
def yX7_neededAt : MethodName := ⟨RX7, "neededAt", "(II)I"⟩
abbrev cX7_isJoint : ByteArray := prog_9_method_15_code
def yX7_isJoint : MethodName := ⟨RX7, "isJoint", "(II)Z"⟩
abbrev cX7_stops : ByteArray := prog_9_method_16_code
def yX7_stops : MethodName := ⟨RX7, "stops", "(II)Z"⟩
def RX8 : String := "NeedTables"
def TX8 : u_T := fun k => match k with
  | 0 => ("NeedTables", "pad", "LNeedTables$Pad;", true)
  | 1 => ("NeedTables", "reader", "LNeedTables$Reader;", true)
  | 2 => ("NeedTables", "bodies", "LNeedTables$Bodies;", true)
  | 3 => ("NeedTables", "tables", "LNeedTables$Tables;", true)
  | 4 => ("NeedTables", "counts", "LNeedTables$Counts;", true)
  | _ => ("NeedTables", "outcomes", "LNeedTables$Outcomes;", true)
def tyX8 : Nat → FieldType := fun k => match k with
  | 0 => .object "NeedTables$Pad"
  | 1 => .object "NeedTables$Reader"
  | 2 => .object "NeedTables$Bodies"
  | 3 => .object "NeedTables$Tables"
  | 4 => .object "NeedTables$Counts"
  | _ => .object "NeedTables$Outcomes"
abbrev wsX80 : List Cond := u_ws RX8 TX8 6
theorem nmX8 : ∀ a, a < 6 → ∀ b, b < 6 → a ≠ b → (TX8 a).2.1 ≠ (TX8 b).2.1 := by decide +kernel
theorem tyX8_ok : ∀ k, k < 6 → parseFieldDescriptor (TX8 k).2.2.1 = some (tyX8 k) := by decide +kernel
abbrev cX8_init : ByteArray := prog_1_method_1_code
def yX8_init : MethodName := ⟨RX8, "<init>", "()V"⟩
abbrev cX8_say : ByteArray := prog_1_method_2_code
def yX8_say : MethodName := ⟨RX8, "say", "(I)I"⟩
abbrev cX8_wipe : ByteArray := prog_1_method_3_code
def yX8_wipe : MethodName := ⟨RX8, "wipe", "()I"⟩
abbrev cX8_fault : ByteArray := prog_1_method_4_code
def yX8_fault : MethodName := ⟨RX8, "fault", "(I)I"⟩
abbrev cX8_body : ByteArray := prog_1_method_5_code
def yX8_body : MethodName := ⟨RX8, "body", "(I)I"⟩
abbrev cX8_node : ByteArray := prog_1_method_6_code
def yX8_node : MethodName := ⟨RX8, "node", "(III)I"⟩
abbrev cX8_run : ByteArray := prog_1_method_7_code
def yX8_run : MethodName := ⟨RX8, "run", "(IIII)I"⟩
abbrev cX8_may : ByteArray := prog_1_method_8_code
def yX8_may : MethodName := ⟨RX8, "may", "(II)I"⟩
abbrev cX8_must : ByteArray := prog_1_method_9_code
def yX8_must : MethodName := ⟨RX8, "must", "(I)I"⟩
abbrev cX8_joint : ByteArray := prog_1_method_10_code
def yX8_joint : MethodName := ⟨RX8, "joint", "(II)I"⟩
abbrev cX8_uses : ByteArray := prog_1_method_11_code
def yX8_uses : MethodName := ⟨RX8, "uses", "(II)I"⟩
abbrev cX8_part : ByteArray := prog_1_method_12_code
def yX8_part : MethodName := ⟨RX8, "part", "(III)I"⟩
abbrev cX8_ends : ByteArray := prog_1_method_13_code
def yX8_ends : MethodName := ⟨RX8, "ends", "(II)I"⟩
abbrev cX8_matters : ByteArray := prog_1_method_14_code
def yX8_matters : MethodName := ⟨RX8, "matters", "(II)I"⟩
abbrev cX8_steps : ByteArray := prog_1_method_15_code
def yX8_steps : MethodName := ⟨RX8, "steps", "(II)I"⟩
abbrev cX8_unlike : ByteArray := prog_1_method_16_code
def yX8_unlike : MethodName := ⟨RX8, "unlike", "(IIII)I"⟩
abbrev cX8_told : ByteArray := prog_1_method_17_code
def yX8_told : MethodName := ⟨RX8, "told", "(I)I"⟩
abbrev cX8_isFunction : ByteArray := prog_1_method_18_code
def yX8_isFunction : MethodName := ⟨RX8, "isFunction", "(I)Z"⟩
abbrev cX8_hasArgument : ByteArray := prog_1_method_19_code
def yX8_hasArgument : MethodName := ⟨RX8, "hasArgument", "(II)Z"⟩
abbrev cX8_hasNode : ByteArray := prog_1_method_20_code
def yX8_hasNode : MethodName := ⟨RX8, "hasNode", "(II)Z"⟩
abbrev cX8_isWay : ByteArray := prog_1_method_21_code
def yX8_isWay : MethodName := ⟨RX8, "isWay", "(I)Z"⟩
abbrev cX8_isPlace : ByteArray := prog_1_method_22_code
def yX8_isPlace : MethodName := ⟨RX8, "isPlace", "(I)Z"⟩
abbrev cX8_asAnswer : ByteArray := prog_1_method_23_code
def yX8_asAnswer : MethodName := ⟨RX8, "asAnswer", "(Z)I"⟩
abbrev cX8_argumentsOf : ByteArray := prog_1_method_24_code
def yX8_argumentsOf : MethodName := ⟨RX8, "argumentsOf", "(I)I"⟩
abbrev cX8_allArguments : ByteArray := prog_1_method_25_code
def yX8_allArguments : MethodName := ⟨RX8, "allArguments", "(I)I"⟩
abbrev cX8_shiftOf : ByteArray := prog_1_method_26_code
def yX8_shiftOf : MethodName := ⟨RX8, "shiftOf", "(II)I"⟩
abbrev cX8_numbersTold : ByteArray := prog_1_method_27_code
def yX8_numbersTold : MethodName := ⟨RX8, "numbersTold", "(II)I"⟩
abbrev cX8_sortOfEnd : ByteArray := prog_1_method_28_code
def yX8_sortOfEnd : MethodName := ⟨RX8, "sortOfEnd", "(I)I"⟩
def RX9 : String := "NeedTablesModel"
def TX9 : u_T := fun k => match k with
  | 0 => ("NeedTablesModel", "signs", "[I", true)
  | 1 => ("NeedTablesModel", "sizes", "[I", true)
  | 2 => ("NeedTablesModel", "depths", "[I", true)
  | 3 => ("NeedTablesModel", "signMany", "[I", true)
  | 4 => ("NeedTablesModel", "due", "[I", true)
  | 5 => ("NeedTablesModel", "openAt", "[I", true)
  | 6 => ("NeedTablesModel", "tables", "[I", true)
  | 7 => ("NeedTablesModel", "usings", "[I", true)
  | 8 => ("NeedTablesModel", "comes", "[I", true)
  | 9 => ("NeedTablesModel", "callOf", "[I", true)
  | 10 => ("NeedTablesModel", "value", "[I", true)
  | 11 => ("NeedTablesModel", "textAt", "[I", true)
  | 12 => ("NeedTablesModel", "textIn", "[I", true)
  | 13 => ("NeedTablesModel", "calls", "I", false)
  | 14 => ("NeedTablesModel", "waitKind", "[I", true)
  | 15 => ("NeedTablesModel", "waitNode", "[I", true)
  | 16 => ("NeedTablesModel", "waitCall", "[I", true)
  | 17 => ("NeedTablesModel", "waitMore", "[I", true)
  | 18 => ("NeedTablesModel", "waits", "I", false)
  | 19 => ("NeedTablesModel", "stepMany", "I", false)
  | 20 => ("NeedTablesModel", "endIs", "I", false)
  | 21 => ("NeedTablesModel", "nodeNow", "I", false)
  | 22 => ("NeedTablesModel", "callNow", "I", false)
  | 23 => ("NeedTablesModel", "cameNow", "I", false)
  | _ => ("NeedTablesModel", "endings", "[I", true)
def tyX9 : Nat → FieldType := fun k => match k with
  | 0 => .array .int
  | 1 => .array .int
  | 2 => .array .int
  | 3 => .array .int
  | 4 => .array .int
  | 5 => .array .int
  | 6 => .array .int
  | 7 => .array .int
  | 8 => .array .int
  | 9 => .array .int
  | 10 => .array .int
  | 11 => .array .int
  | 12 => .array .int
  | 13 => .int
  | 14 => .array .int
  | 15 => .array .int
  | 16 => .array .int
  | 17 => .array .int
  | 18 => .int
  | 19 => .int
  | 20 => .int
  | 21 => .int
  | 22 => .int
  | 23 => .int
  | _ => .array .int
abbrev wsX90 : List Cond := u_ws RX9 TX9 25
theorem nmX9 : ∀ a, a < 25 → ∀ b, b < 25 → a ≠ b → (TX9 a).2.1 ≠ (TX9 b).2.1 := by decide +kernel
theorem tyX9_ok : ∀ k, k < 25 → parseFieldDescriptor (TX9 k).2.2.1 = some (tyX9 k) := by decide +kernel
abbrev cX9_init : ByteArray := prog_11_method_1_code
def yX9_init : MethodName := ⟨RX9, "<init>", "()V"⟩
abbrev cX9_in : ByteArray := prog_11_method_3_code
def yX9_in : MethodName := ⟨RX9, "in", "(JJJ)Z"⟩
abbrev cX9_isFunction : ByteArray := prog_11_method_4_code
def yX9_isFunction : MethodName := ⟨RX9, "isFunction", "(I)Z"⟩
abbrev cX9_argumentsOf : ByteArray := prog_11_method_5_code
def yX9_argumentsOf : MethodName := ⟨RX9, "argumentsOf", "(I)I"⟩
abbrev cX9_say : ByteArray := prog_11_method_6_code
def yX9_say : MethodName := ⟨RX9, "say", "(I)I"⟩
abbrev cX9_wipe : ByteArray := prog_11_method_7_code
def yX9_wipe : MethodName := ⟨RX9, "wipe", "()I"⟩
abbrev cX9_calledBy : ByteArray := prog_11_method_8_code
def yX9_calledBy : MethodName := ⟨RX9, "calledBy", "(I)I"⟩
abbrev cX9_isAct : ByteArray := prog_11_method_9_code
def yX9_isAct : MethodName := ⟨RX9, "isAct", "(I)Z"⟩
abbrev cX9_isArgument : ByteArray := prog_11_method_10_code
def yX9_isArgument : MethodName := ⟨RX9, "isArgument", "(I)Z"⟩
abbrev cX9_partsOf : ByteArray := prog_11_method_11_code
def yX9_partsOf : MethodName := ⟨RX9, "partsOf", "(II)I"⟩
abbrev cX9_fault : ByteArray := prog_11_method_12_code
def yX9_fault : MethodName := ⟨RX9, "fault", "(I)I"⟩
abbrev cX9_body : ByteArray := prog_11_method_13_code
def yX9_body : MethodName := ⟨RX9, "body", "(I)I"⟩
abbrev cX9_isNode : ByteArray := prog_11_method_14_code
def yX9_isNode : MethodName := ⟨RX9, "isNode", "(II)Z"⟩
abbrev cX9_node : ByteArray := prog_11_method_15_code
def yX9_node : MethodName := ⟨RX9, "node", "(III)I"⟩
abbrev cX9_textOf : ByteArray := prog_11_method_16_code
def yX9_textOf : MethodName := ⟨RX9, "textOf", "(III)I"⟩
abbrev cX9_findMay : ByteArray := prog_11_method_17_code
def yX9_findMay : MethodName := ⟨RX9, "findMay", "(II)V"⟩
abbrev cX9_most : ByteArray := prog_11_method_18_code
def yX9_most : MethodName := ⟨RX9, "most", "(II)I"⟩
abbrev cX9_held : ByteArray := prog_11_method_19_code
def yX9_held : MethodName := ⟨RX9, "held", "(I)I"⟩
abbrev cX9_findUses : ByteArray := prog_11_method_20_code
def yX9_findUses : MethodName := ⟨RX9, "findUses", "(II)I"⟩
abbrev cX9_layTables : ByteArray := prog_11_method_21_code
def yX9_layTables : MethodName := ⟨RX9, "layTables", "()V"⟩
abbrev cX9_allOf : ByteArray := prog_11_method_22_code
def yX9_allOf : MethodName := ⟨RX9, "allOf", "(I)I"⟩
abbrev cX9_mayCome : ByteArray := prog_11_method_23_code
def yX9_mayCome : MethodName := ⟨RX9, "mayCome", "(II)Z"⟩
abbrev cX9_isMust : ByteArray := prog_11_method_24_code
def yX9_isMust : MethodName := ⟨RX9, "isMust", "(II)Z"⟩
abbrev cX9_may : ByteArray := prog_11_method_25_code
def yX9_may : MethodName := ⟨RX9, "may", "(II)I"⟩
abbrev cX9_must : ByteArray := prog_11_method_26_code
def yX9_must : MethodName := ⟨RX9, "must", "(I)I"⟩
abbrev cX9_isJoint : ByteArray := prog_11_method_27_code
def yX9_isJoint : MethodName := ⟨RX9, "isJoint", "(II)Z"⟩
abbrev cX9_joint : ByteArray := prog_11_method_28_code
def yX9_joint : MethodName := ⟨RX9, "joint", "(II)I"⟩
abbrev cX9_isOf : ByteArray := prog_11_method_29_code
def yX9_isOf : MethodName := ⟨RX9, "isOf", "(II)Z"⟩
abbrev cX9_uses : ByteArray := prog_11_method_30_code
def yX9_uses : MethodName := ⟨RX9, "uses", "(II)I"⟩
abbrev cX9_part : ByteArray := prog_11_method_31_code
def yX9_part : MethodName := ⟨RX9, "part", "(III)I"⟩
abbrev cX9_waitFor : ByteArray := prog_11_method_32_code
def yX9_waitFor : MethodName := ⟨RX9, "waitFor", "(IIII)V"⟩
abbrev cX9_come : ByteArray := prog_11_method_33_code
def yX9_come : MethodName := ⟨RX9, "come", "(I)V"⟩
abbrev cX9_go : ByteArray := prog_11_method_34_code
def yX9_go : MethodName := ⟨RX9, "go", "(II)V"⟩
abbrev cX9_act : ByteArray := prog_11_method_35_code
def yX9_act : MethodName := ⟨RX9, "act", "(III)I"⟩
abbrev cX9_begin : ByteArray := prog_11_method_36_code
def yX9_begin : MethodName := ⟨RX9, "begin", "(I)V"⟩
abbrev cX9_beginArgument : ByteArray := prog_11_method_37_code
def yX9_beginArgument : MethodName := ⟨RX9, "beginArgument", "(II)V"⟩
abbrev cX9_beginCall : ByteArray := prog_11_method_38_code
def yX9_beginCall : MethodName := ⟨RX9, "beginCall", "(III)V"⟩
abbrev cX9_goAhead : ByteArray := prog_11_method_39_code
def yX9_goAhead : MethodName := ⟨RX9, "goAhead", "(III)V"⟩
abbrev cX9_goOn : ByteArray := prog_11_method_40_code
def yX9_goOn : MethodName := ⟨RX9, "goOn", "()V"⟩
abbrev cX9_toldOne : ByteArray := prog_11_method_41_code
def yX9_toldOne : MethodName := ⟨RX9, "toldOne", "(III)I"⟩
abbrev cX9_runIt : ByteArray := prog_11_method_42_code
def yX9_runIt : MethodName := ⟨RX9, "runIt", "(III)V"⟩
abbrev cX9_rowsOf : ByteArray := prog_11_method_43_code
def yX9_rowsOf : MethodName := ⟨RX9, "rowsOf", "(I)I"⟩
abbrev cX9_isWay : ByteArray := prog_11_method_44_code
def yX9_isWay : MethodName := ⟨RX9, "isWay", "(I)Z"⟩
abbrev cX9_run : ByteArray := prog_11_method_45_code
def yX9_run : MethodName := ⟨RX9, "run", "(IIII)I"⟩
abbrev cX9_areNumbers : ByteArray := prog_11_method_46_code
def yX9_areNumbers : MethodName := ⟨RX9, "areNumbers", "(II)Z"⟩
abbrev cX9_ends : ByteArray := prog_11_method_47_code
def yX9_ends : MethodName := ⟨RX9, "ends", "(II)I"⟩
abbrev cX9_matters : ByteArray := prog_11_method_48_code
def yX9_matters : MethodName := ⟨RX9, "matters", "(II)I"⟩
abbrev cX9_steps : ByteArray := prog_11_method_49_code
def yX9_steps : MethodName := ⟨RX9, "steps", "(II)I"⟩
abbrev cX9_unlike : ByteArray := prog_11_method_50_code
def yX9_unlike : MethodName := ⟨RX9, "unlike", "(IIII)I"⟩
abbrev cX9_told : ByteArray := prog_11_method_51_code
def yX9_told : MethodName := ⟨RX9, "told", "(I)I"⟩
def RJ9 : String := "java/lang/Math"
def TJ9 : u_T := fun k => match k with
  | _ => ("", "", "", false)
def tyJ9 : Nat → FieldType := fun k => match k with
  | _ => .int
abbrev wsJ90 : List Cond := u_ws RJ9 TJ9 0
theorem nmJ9 : ∀ a, a < 0 → ∀ b, b < 0 → a ≠ b → (TJ9 a).2.1 ≠ (TJ9 b).2.1 := by decide +kernel
theorem tyJ9_ok : ∀ k, k < 0 → parseFieldDescriptor (TJ9 k).2.2.1 = some (tyJ9 k) := by decide +kernel
abbrev cJ9_max_7cf53 : ByteArray := prog_12_method_65_code
def yJ9_max_7cf53 : MethodName := ⟨RJ9, "max", "(II)I"⟩
abbrev cJ9_min_7cf53 : ByteArray := prog_12_method_69_code
def yJ9_min_7cf53 : MethodName := ⟨RJ9, "min", "(II)I"⟩
def RJ7 : String := "java/util/Arrays"
def TJ7 : u_T := fun k => match k with
  | _ => ("", "", "", false)
def tyJ7 : Nat → FieldType := fun k => match k with
  | _ => .int
abbrev wsJ70 : List Cond := u_ws RJ7 TJ7 0
theorem nmJ7 : ∀ a, a < 0 → ∀ b, b < 0 → a ≠ b → (TJ7 a).2.1 ≠ (TJ7 b).2.1 := by decide +kernel
theorem tyJ7_ok : ∀ k, k < 0 → parseFieldDescriptor (TJ7 k).2.2.1 = some (tyJ7 k) := by decide +kernel
abbrev cJ7_fill_53178 : ByteArray := prog_13_method_103_code
def yJ7_fill_53178 : MethodName := ⟨RJ7, "fill", "([II)V"⟩
def RL : String := "NeedTablesLaw"
abbrev cL_law : ByteArray := code
def yL_law : MethodName := ⟨RL, "law", "([I)Z"⟩
abbrev vwCl : List vw_C := [(RX0, TX0, 6), (RX1, TX1, 4), (RX2, TX2, 18), (RX3, TX3, 2), (RX4, TX4, 2), (RX5, TX5, 2), (RX7, TX7, 4), (RX8, TX8, 6), (RX9, TX9, 25)]
end
section
/-! the machine's ints as whole numbers -/
def iI (z : Int) : Int32 := Int32.ofInt z
def rg (z : Int) : Prop := -2147483648 ≤ z ∧ z < 2147483648
theorem iI_add (a b : Int) : iI a + iI b = iI (a + b) := by
  apply Int32.toBitVec.inj; simp [iI, BitVec.ofInt_add]
theorem iI_sub (a b : Int) : iI a - iI b = iI (a - b) := by
  have h := iI_add (a - b) b
  rw [Int.sub_add_cancel] at h
  rw [← h]
  simp
theorem iI_mul (a b : Int) : iI a * iI b = iI (a * b) := by
  apply Int32.toBitVec.inj; simp [iI, BitVec.ofInt_mul]
theorem iI_toInt {z : Int} (h : rg z) : (iI z).toInt = z := Int32.toInt_ofInt_of_le (by have := h.1; omega) (by have := h.2; omega)
theorem iI_of (x : Int32) : iI x.toInt = x := Int32.ofInt_toInt x
theorem rg_of (x : Int32) : rg x.toInt := ⟨by have := x.le_toInt; omega, by have := x.toInt_lt; omega⟩
theorem iI_eq {a b : Int} (ha : rg a) (hb : rg b) : iI a = iI b ↔ a = b := by
  rw [← Int32.toInt_inj, iI_toInt ha, iI_toInt hb]
theorem iI_lt {a b : Int} (ha : rg a) (hb : rg b) : iI a < iI b ↔ a < b := by
  rw [Int32.lt_iff_toInt_lt, iI_toInt ha, iI_toInt hb]
theorem iI_le {a b : Int} (ha : rg a) (hb : rg b) : iI a ≤ iI b ↔ a ≤ b := by
  rw [Int32.le_iff_toInt_le, iI_toInt ha, iI_toInt hb]
theorem iI_0 : iI 0 = 0 := rfl
theorem iI_1 : iI 1 = 1 := rfl
theorem iI_clamp {z : Int} (h : rg z) : (iI z).toNatClampNeg = z.toNat := Int32.toNatClampNeg_ofInt_of_le (by have := h.1; omega) (by have := h.2; omega)
theorem iI_in {z : Int} {n : Nat} (h0 : 0 ≤ z) (h1 : z < n) (hn : n < 2147483648) : vp_in (iI z) n := by
  rw [vp_in_iff, iI_toInt ⟨by omega, by omega⟩]; exact ⟨h0, h1⟩
theorem iI_nat (n : Nat) : iI (n : Int) = Int32.ofNat n := Int32.ofInt_eq_ofNat
theorem iI_div {a b : Int} (ha : 0 ≤ a) (ha' : a < 2147483648) (hb : 0 < b) (hb' : b < 2147483648) : iI a / iI b = iI (a / b) := by
  rw [← Int32.toInt_inj, Int32.toInt_div_of_ne_right, iI_toInt ⟨by omega, by omega⟩, iI_toInt ⟨by omega, by omega⟩, iI_toInt, Int.tdiv_eq_ediv_of_nonneg ha]
  · exact ⟨by have := Int.ediv_nonneg ha (Int.le_of_lt hb); omega, by have := Int.ediv_le_self b ha; omega⟩
  · intro h
    have h2 : (iI b).toInt = -1 := by rw [h]; rfl
    rw [iI_toInt ⟨by omega, by omega⟩] at h2
    omega
theorem iI_rem {a b : Int} (ha : 0 ≤ a) (ha' : a < 2147483648) (hb : 0 < b) (hb' : b < 2147483648) : iI a - iI a / iI b * iI b = iI (a % b) := by
  rw [iI_div ha ha' hb hb', iI_mul, iI_sub]
  congr 1
  have := Int.emod_add_mul_ediv a b
  rw [Int.mul_comm b] at this
  omega
theorem iI_ne0 {b : Int} (hb : 0 < b) (hb' : b < 2147483648) : ¬ iI b = 0 := by
  rw [show (0 : Int32) = iI 0 from rfl, iI_eq ⟨by omega, by omega⟩ ⟨by omega, by omega⟩]; omega
/-- what the machine's bits say, as whole numbers -/
def bAnd (a b : Int) : Int := (iI a &&& iI b).toInt
def bOr (a b : Int) : Int := (iI a ||| iI b).toInt
def bXor (a b : Int) : Int := (iI a ^^^ iI b).toInt
def bShl (a b : Int) : Int := (iI a <<< (iI b &&& 31)).toInt
def bShr (a b : Int) : Int := (iI a >>> (iI b &&& 31)).toInt
theorem iI_bAnd (a b : Int) : iI (bAnd a b) = iI a &&& iI b := iI_of _
theorem iI_bOr (a b : Int) : iI (bOr a b) = iI a ||| iI b := iI_of _
theorem iI_bXor (a b : Int) : iI (bXor a b) = iI a ^^^ iI b := iI_of _
theorem iI_bShl (a b : Int) : iI (bShl a b) = iI a <<< (iI b &&& 31) := iI_of _
theorem iI_bShr (a b : Int) : iI (bShr a b) = iI a >>> (iI b &&& 31) := iI_of _
/-- and as 64-bit numbers -/
def iL (z : Int) : Int64 := Int64.ofInt z
theorem iL_toInt {z : Int} (h : rg z) : (iL z).toInt = z := Int64.toInt_ofInt_of_le (by have := h.1; omega) (by have := h.2; omega)
theorem iI_wide {z : Int} (h : rg z) : (iI z).toInt64 = iL z := by
  rw [← Int64.toInt_inj, Int32.toInt_toInt64, iI_toInt h, iL_toInt h]
theorem iL_lt {a b : Int} (ha : rg a) (hb : rg b) : iL a < iL b ↔ a < b := by
  rw [Int64.lt_iff_toInt_lt, iL_toInt ha, iL_toInt hb]
theorem iL_le {a b : Int} (ha : rg a) (hb : rg b) : iL a ≤ iL b ↔ a ≤ b := by
  rw [Int64.le_iff_toInt_le, iL_toInt ha, iL_toInt hb]
/-- rows of numbers, by the number of a row and the place in it -/
abbrev Sg : Type := Nat → Int → Int
def up (s : Sg) (k : Nat) (i v : Int) : Sg := fun k' j => if k' = k then (if j = i then v else s k' j) else s k' j
theorem up_same (s : Sg) (k : Nat) (i v : Int) : up s k i v k i = v := by simp [up]
theorem up_at (s : Sg) (k : Nat) (i v j : Int) : up s k i v k j = if j = i then v else s k j := by simp [up]
theorem up_ne (s : Sg) {k k' : Nat} (h : k' ≠ k) (i v : Int) : up s k i v k' = s k' := by funext j; simp [up, h]
theorem up_other (s : Sg) (k : Nat) {i j : Int} (h : j ≠ i) (v : Int) : up s k i v k j = s k j := by simp [up, h]
end
section
/-! the world: cells by number, their shapes; the ints that they hold are one table of numbers -/
/-- a cell's shape: an int array of a length, or an object of a class with its fields: none: an int; some k: the cell k; some none: null -/
abbrev Shp : Type := Nat ⊕ (Nat × List (Option (Option Nat)))
def fVal (q : Nat → Nat) (s : Int → Int) (i : Nat) : Option (Option Nat) → Value
  | none => .int (iI (s i))
  | some (some k) => .ref (q k)
  | some none => .null
def flds (q : Nat → Nat) (s : Int → Int) : Nat → List (Option (Option Nat)) → List Value
  | _, [] => []
  | i, f :: fs => fVal q s i f :: flds q s (i + 1) fs
def cellOf (cI : ClassId) (q : Nat → Nat) (s : Int → Int) : Shp → va_E
  | .inl n => .inl (cI, n, .inl (fun j => iI (s (j : Int))))
  | .inr o => .inr (o.1, flds q s 0 o.2)
def wdF (cI : ClassId) (q : Nat → Nat) (σ : Sg) : Nat → List Shp → va_W
  | _, [] => []
  | k, s :: ss => (q k, cellOf cI q (σ k) s) :: wdF cI q σ (k + 1) ss
def wd (cI : ClassId) (q : Nat → Nat) (sh : List Shp) (σ : Sg) : va_W := wdF cI q σ 0 sh
theorem wdF_get (cI : ClassId) (q : Nat → Nat) (σ : Sg) : ∀ (sh : List Shp) (b k : Nat), (wdF cI q σ b sh)[k]? = (sh[k]?).map (fun s => (q (b + k), cellOf cI q (σ (b + k)) s))
  | [], b, k => by simp [wdF]
  | s :: ss, b, 0 => by simp [wdF]
  | s :: ss, b, k + 1 => by
    have h := wdF_get cI q σ ss (b + 1) k
    simp only [wdF, List.getElem?_cons_succ]
    rw [h, show b + 1 + k = b + (k + 1) by omega]
theorem wd_get (cI : ClassId) (q : Nat → Nat) (sh : List Shp) (σ : Sg) (k : Nat) : (wd cI q sh σ)[k]? = (sh[k]?).map (fun s => (q k, cellOf cI q (σ k) s)) := by
  have h := wdF_get cI q σ sh 0 k
  rw [Nat.zero_add] at h
  exact h
theorem wd_at {cI : ClassId} {q : Nat → Nat} {sh : List Shp} {σ : Sg} {k : Nat} {s : Shp} (h : sh[k]? = some s) : (wd cI q sh σ)[k]? = some (q k, cellOf cI q (σ k) s) := by
  rw [wd_get, h]; rfl
theorem wd_len (cI : ClassId) (q : Nat → Nat) (sh : List Shp) (σ : Sg) : (wd cI q sh σ).length = sh.length := by
  have key : ∀ (sh : List Shp) (b : Nat), (wdF cI q σ b sh).length = sh.length := by
    intro sh
    induction sh with
    | nil => intro b; rfl
    | cons s ss ih => intro b; simp [wdF, ih]
  exact key sh 0
/-- a number changes -/
theorem wd_set {cI : ClassId} {q : Nat → Nat} {sh : List Shp} {σ : Sg} {k : Nat} {s : Shp} (h : sh[k]? = some s) (i v : Int) : (wd cI q sh σ).set k (q k, cellOf cI q (up σ k i v k) s) = wd cI q sh (up σ k i v) := by
  have hk := (List.getElem?_eq_some_iff.mp h).1
  apply List.ext_getElem?
  intro j
  by_cases hj : j = k
  · subst hj
    rw [List.getElem?_set_self (by rw [wd_len]; exact hk), wd_at h]
  · rw [List.getElem?_set_ne (Ne.symm hj), wd_get, wd_get, up_ne σ hj]
/-- a cell comes -/
theorem wd_push (cI : ClassId) (q : Nat → Nat) (sh : List Shp) (σ : Sg) (s : Shp) : wd cI q (sh ++ [s]) σ = wd cI q sh σ ++ [(q sh.length, cellOf cI q (σ sh.length) s)] := by
  apply List.ext_getElem?
  intro j
  rw [wd_get]
  rcases Nat.lt_trichotomy j sh.length with h | h | h
  · rw [List.getElem?_append_left h, List.getElem?_append_left (by rw [wd_len]; exact h), wd_get]
  · subst h
    rw [List.getElem?_append_right (Nat.le_refl _), List.getElem?_append_right (by rw [wd_len]; exact Nat.le_refl _), wd_len, Nat.sub_self]
    rfl
  · rw [List.getElem?_append_right (Nat.le_of_lt h), List.getElem?_append_right (by rw [wd_len]; exact Nat.le_of_lt h), wd_len]
    have : j - sh.length = (j - sh.length - 1) + 1 := by omega
    rw [this]
    rfl
theorem flds_get (q : Nat → Nat) (s : Int → Int) : ∀ (fs : List (Option (Option Nat))) (b i : Nat), (flds q s b fs)[i]? = (fs[i]?).map (fVal q s (b + i))
  | [], b, i => by simp [flds]
  | f :: fs, b, 0 => by simp [flds]
  | f :: fs, b, i + 1 => by
    have h := flds_get q s fs (b + 1) i
    simp only [flds, List.getElem?_cons_succ]
    rw [h, show b + 1 + i = b + (i + 1) by omega]
theorem flds_len (q : Nat → Nat) (s : Int → Int) : ∀ (fs : List (Option (Option Nat))) (b : Nat), (flds q s b fs).length = fs.length
  | [], _ => rfl
  | _ :: fs, b => by simp [flds, flds_len q s fs]
theorem flds_at {q : Nat → Nat} {s : Int → Int} {fs : List (Option (Option Nat))} {i : Nat} {f : Option (Option Nat)} (h : fs[i]? = some f) : (flds q s 0 fs)[i]? = some (fVal q s i f) := by
  rw [flds_get, h, Nat.zero_add]; rfl
/-- an int field changes -/
theorem flds_set {q : Nat → Nat} {σ : Sg} {k : Nat} {fs : List (Option (Option Nat))} {i : Nat} (h : fs[i]? = some none) (v : Int) : (flds q (σ k) 0 fs).set i (.int (iI v)) = flds q (up σ k (i : Int) v k) 0 fs := by
  have hi := (List.getElem?_eq_some_iff.mp h).1
  apply List.ext_getElem?
  intro j
  by_cases hj : j = i
  · subst hj
    rw [List.getElem?_set_self (by rw [flds_len]; exact hi), flds_at h]
    simp [fVal, up_same]
  · rw [List.getElem?_set_ne (Ne.symm hj), flds_get, flds_get, Nat.zero_add]
    cases fs[j]? with
    | none => rfl
    | some f =>
      cases f with
      | none =>
        have h2 : ((j : Nat) : Int) ≠ (i : Int) := by omega
        simp [fVal, up_other σ k h2]
      | some g => cases g <;> rfl
/-- a reference field is put -/
theorem flds_setR {q : Nat → Nat} {s : Int → Int} {fs : List (Option (Option Nat))} {i : Nat} (hi : i < fs.length) (c : Nat) : (flds q s 0 fs).set i (.ref (q c)) = flds q s 0 (fs.set i (some (some c))) := by
  apply List.ext_getElem?
  intro j
  by_cases hj : j = i
  · subst hj
    rw [List.getElem?_set_self (by rw [flds_len]; exact hi), flds_get, List.getElem?_set_self hi]
    rfl
  · rw [List.getElem?_set_ne (Ne.symm hj), flds_get, flds_get, List.getElem?_set_ne (Ne.symm hj)]
theorem wd_setS {cI : ClassId} {q : Nat → Nat} {sh : List Shp} {σ : Sg} {k : Nat} (hk : k < sh.length) (s' : Shp) : (wd cI q sh σ).set k (q k, cellOf cI q (σ k) s') = wd cI q (sh.set k s') σ := by
  apply List.ext_getElem?
  intro j
  by_cases hj : j = k
  · subst hj
    rw [List.getElem?_set_self (by rw [wd_len]; exact hk), wd_get, List.getElem?_set_self hk]
    rfl
  · rw [List.getElem?_set_ne (Ne.symm hj), wd_get, wd_get, List.getElem?_set_ne (Ne.symm hj)]
/-- the addresses: apart, and in A -/
def AD (A : Nat → Prop) (q : Nat → Nat) (n : Nat) : Prop := (∀ i j : Nat, i < n → j < n → q i = q j → i = j) ∧ ∀ i : Nat, i < n → A (q i)
theorem AD.D {A : Nat → Prop} {q : Nat → Nat} {sh : List Shp} (h : AD A q sh.length) (cI : ClassId) (σ : Sg) : va_D A (wd cI q sh σ) := by
  have key : ∀ (k : Nat) (p : Nat × va_E), (wd cI q sh σ)[k]? = some p → k < sh.length ∧ p.1 = q k := by
    intro k p hp
    rw [wd_get] at hp
    cases hs : sh[k]? with
    | none => rw [hs] at hp; cases hp
    | some s =>
      rw [hs] at hp
      cases hp
      exact ⟨(List.getElem?_eq_some_iff.mp hs).1, rfl⟩
  refine ⟨fun i j p p' hi hj e => ?_, fun k p hk => ?_⟩
  · obtain ⟨a, b⟩ := key i p hi
    obtain ⟨a', b'⟩ := key j p' hj
    exact h.1 i j a a' (by rw [← b, ← b', e])
  · obtain ⟨a, b⟩ := key k p hk
    rw [b]
    exact h.2 k a
end
section
/-! the walk: one judgement over the world, a row an instruction -/
theorem goodW : ∀ w ∈ lw_tbl.filter goodWord, goodWord w = true := fun w h => (List.mem_filter.mp h).2
def lw_g : List Cond := lw_tbl.filter goodWord
theorem mg {w : Cond} (i : Nat) (h : lw_tbl[i]? = some w) (hg : goodWord w = true) : w ∈ lw_g := List.mem_filter.mpr ⟨List.mem_of_getElem? h, hg⟩
def tw (y : MethodName) (cc : ByteArray) (n : Nat) (ret : Option FieldType) : List Cond := Cond.code y cc n ret :: lw_g
theorem tw_good {y : MethodName} {cc : ByteArray} {n : Nat} {ret : Option FieldType} (h : Cond.code y cc n ret ∈ lw_g) : GoodIn lw_g (tw y cc n ret) := by
  intro w hw
  have h1 : w ∈ lw_g := by
    rcases List.mem_cons.mp hw with e | e
    · rw [e]; exact h
    · exact e
  exact ⟨h1, good_of_word (goodW w h1)⟩
def nws : List Cond := [.methodLinkNest RX8 11 yX4_init "NeedTables", .methodLinkNest RX8 18 yX5_init "NeedTables", .methodLinkNest RX0 42 yX8_isFunction "NeedTables", .methodLinkNest RX0 55 yX8_isPlace "NeedTables", .methodLinkNest RX6 16 yX8_argumentsOf "NeedTables", .methodLinkNest RX7 86 yX8_isPlace "NeedTables", .methodLinkNest RX7 76 yX8_argumentsOf "NeedTables", .methodLinkNest RX7 93 yX8_isFunction "NeedTables", .methodLinkNest RX7 96 yX8_allArguments "NeedTables", .methodLinkNest RX1 87 yX8_isPlace "NeedTables", .methodLinkNest RX1 78 yX8_argumentsOf "NeedTables", .methodLinkNest RX1 91 yX8_hasArgument "NeedTables", .methodLinkNest RX5 48 yX8_hasArgument "NeedTables", .methodLinkNest RX3 25 yX8_isFunction "NeedTables", .fieldLinkNest RX3 32 "NeedTables" "TOLD_ROWS" "[I" "NeedTables", .methodLinkNest RX2 83 yX8_allArguments "NeedTables", .methodLinkNest RX2 91 yX8_argumentsOf "NeedTables", .methodLinkNest RX2 104 yX8_isFunction "NeedTables"]
theorem nws_tbl : ∀ w ∈ nws, w ∈ lw_tbl := by decide +kernel
theorem nws_on : ∀ w ∈ nws, w.onTables = true := by decide +kernel
def nestW : Cond → Bool
  | .methodLinkNest _ _ _ _ => true
  | .fieldLinkNest _ _ _ _ _ _ => true
  | _ => false
theorem nws_nest : ∀ w ∈ nws, nestW w = true := by decide +kernel
theorem nws_warm {s U : State} (hW : s.WarmedH U.vm) (h : ∀ w ∈ nws, va_Nw w s) : ∀ w ∈ nws, va_Nw w U := by
  intro w hw
  have h1 := h w hw
  have h2 := nws_nest w hw
  cases w <;> first | exact va_Nw.warmM hW h1 | exact va_Nw.warmF hW h1 | (exact absurd h2 (by simp [nestW]))
theorem nws_same {s U : State} (hW : s.vm = U.vm) (h : ∀ w ∈ nws, va_Nw w s) : ∀ w ∈ nws, va_Nw w U := fun w hw => va_Nw.same (nws_on w hw) hW (h w hw)
/-- the static rows -/
def stN (i : Nat) : String × String := match i with
  | 0 => ("NeedTables", "ARGUMENTS_OF")
  | 1 => ("NeedTables", "TOLD_ROWS")
  | 2 => ("NeedTables", "NUMBER_ROWS")
  | 3 => ("NeedTables$Tables", "SETS_WITH")
  | _ => ("NeedTables$Outcomes", "FIRST")
def stLen (i : Nat) : Nat := match i with
  | 3 => 3
  | _ => 4
def stT (i : Nat) : List Int := match i with
  | 0 => [1, 2, 3, 2]
  | 1 => [9, 81, 729, 81]
  | 2 => [8, 64, 512, 64]
  | 3 => [170, 204, 240]
  | _ => [0, 36, 360, 3276]
def stV (i : Nat) (j : Int) : Int := (stT i).getD j.toNat 0
abbrev Cx : Type := Program × Launch × Env × Room × State × MethodId × Array Value × List Frame × Method × Code
/-- what the classes are, the class of int rows, the cells that may change, where the static rows lie -/
abbrev Ev : Type := va_G × ClassId × (Nat → Prop) × (Nat → Nat)
def KK (E : Ev) (U : State) (H : Heap) : Prop := va_K E.1 vwCl [(E.2.1, .int)] U ∧ (∀ w ∈ nws, va_Nw w U) ∧ ∀ i : Nat, i < 5 → va_Z (stN i).1 (stN i).2 "[I" (.ref (E.2.2.2 i)) E.2.2.1 U H ∧ va_T .int (E.2.2.2 i) (stLen i) (fun j => .int (iI (stV i j))) E.2.2.1 U H
theorem KK.call {E : Ev} {U : State} {g : JFrame} {mk : MethodId} {a : Array Value} (h : KK E U U.heap) : KK E (U.calling g mk a) (U.calling g mk a).heap :=
  ⟨va_K.moved (u := U) (U := U.calling g mk a) (Vm.Alike.refl U.vm) h.1, nws_same (s := U) (U := U.calling g mk a) rfl h.2.1, fun i hi => ⟨va_Z.moved (u := U) (U := U.calling g mk a) (Vm.Alike.refl U.vm) (h.2.2 i hi).1, va_T.moved (u := U) (U := U.calling g mk a) (Vm.Alike.refl U.vm) (h.2.2 i hi).2⟩⟩
theorem KK.move {E : Ev} {s U : State} {H : Heap} {locs : List Loc} (hS : va_S E.2.2.1 s.heap H locs) (hU : U.heap = H) (hW : s.WarmedH U.vm) (h : KK E s s.heap) : KK E U U.heap := by
  rw [hU]
  exact ⟨va_K.moved hW.alike h.1, nws_warm hW h.2.1, fun i hi => ⟨va_Z.moved hW.alike (va_Z.kept (h.2.2 i hi).1 hS.2.1), va_T.moved hW.alike (va_T.kept (h.2.2 i hi).2 hS.2.1)⟩⟩
def Fx (X : Cx) (E : Ev) (l : Launch) (cc : ByteArray) (nL : Nat) (own : String) (rm : Room) : Prop :=
  X.1.tables.exec = Jvm.exec ∧ X.2.2.2.2.2.2.2.2.2.code = cc ∧ X.2.2.2.2.2.2.2.2.2.maxLocals = nL ∧ X.2.2.2.2.1.vm.findClass own = some X.2.2.2.2.2.1.cls ∧ (∀ w ∈ lw_g, w.before X.2.2.2.2.2.2.1 X.2.2.2.2.1 = true) ∧ KK E X.2.2.2.2.1 X.2.2.2.2.1.heap ∧ X.2.1 = l ∧ X.2.2.2.1 = rm ∧ ∀ a : Nat, X.2.2.2.2.1.heap.size ≤ a → E.2.2.1 a
def G (X : Cx) (E : Ev) (nL : Nat) (q : Nat → Nat) (sh : List Shp) (σ : Sg) (ck cs : Nat) (Q : State → Prop) (pc : Nat) (lv : List (Nat × Value)) (st : List Value) : Prop :=
  AD E.2.2.1 q sh.length → ∀ (H : Heap) (locs : List Loc) (ls : Array Slot), va_P E.1 vwCl (wd E.2.1 q sh σ) H → va_S E.2.2.1 X.2.2.2.2.1.heap H locs → lv_has ls nL lv →
    W X.1 X.2.1 X.2.2.1 X.2.2.2.1 X.2.2.2.2.1 X.2.2.2.2.2.1 X.2.2.2.2.2.2.1 X.2.2.2.2.2.2.2.1 X.2.2.2.2.2.2.2.2.1 X.2.2.2.2.2.2.2.2.2 H locs ck cs Q (F0 X.2.2.2.2.2.1 pc ls st)
abbrev vI (z : Int) : Value := .int (iI z)
abbrev vL (z : Int) : Value := .long (iL z)
def At (cc : ByteArray) (pc : Nat) (i : Instr) (n pc' : Nat) : Prop := decode cc pc = .ok (i, n) ∧ pc + n = pc'
def Br (cc : ByteArray) (pc : Nat) (i : Instr) (off : Int) (pc' tgt : Nat) : Prop := decode cc pc = .ok (i, 3) ∧ pc + 3 = pc' ∧ (pc : Int) + off = (tgt : Int)
def Go (cc : ByteArray) (pc : Nat) (i : Instr) (n : Nat) : Prop := decode cc pc = .ok (i, n)
def stL (lv : List (Nat × Value)) (i : Nat) (v : Value) : List (Nat × Value) := (i, v) :: lv.filter (fun q => !(q.1 == i) && !(q.1 + 1 == i && q.2.category == 2))
section Rows
variable {X : Cx} {E : Ev} {l : Launch} {cc : ByteArray} {nL : Nat} {own : String} {rm : Room} {q : Nat → Nat} {sh : List Shp} {σ : Sg} {ck cs : Nat} {Q : State → Prop} {pc pc' tgt : Nat} {lv lv' : List (Nat × Value)} {st : List Value}
theorem g_iconst (F : Fx X E l cc nL own rm) {n : Int} (d : At cc pc (.iconst n) 1 pc') (k : G X E nL q sh σ ck cs Q pc' lv (vI n :: st)) : G X E nL q sh σ ck cs Q pc lv (st) := by
  intro hA H locs ls hP hS hl
  obtain ⟨d, rfl⟩ := d
  refine lv_iconst F.1 F.2.1 d rfl ?_
  exact k hA H locs ls hP hS hl
theorem g_bipush (F : Fx X E l cc nL own rm) {n : Int} (hn : (Int8.ofInt n).toInt32 = iI n) (d : At cc pc (.bipush n) 2 pc') (k : G X E nL q sh σ ck cs Q pc' lv (vI n :: st)) : G X E nL q sh σ ck cs Q pc lv (st) := by
  intro hA H locs ls hP hS hl
  obtain ⟨d, rfl⟩ := d
  refine lv_bipush F.1 F.2.1 d hn ?_
  exact k hA H locs ls hP hS hl
theorem g_sipush (F : Fx X E l cc nL own rm) {n : Int} (hn : (Int16.ofInt n).toInt32 = iI n) (d : At cc pc (.sipush n) 3 pc') (k : G X E nL q sh σ ck cs Q pc' lv (vI n :: st)) : G X E nL q sh σ ck cs Q pc lv (st) := by
  intro hA H locs ls hP hS hl
  obtain ⟨d, rfl⟩ := d
  refine lv_sipush F.1 F.2.1 d hn ?_
  exact k hA H locs ls hP hS hl
theorem g_lconst (F : Fx X E l cc nL own rm) {n : Fin 2} {z : Int} (hz : Int64.ofNat (n : Nat) = iL z) (d : At cc pc (.lconst n) 1 pc') (k : G X E nL q sh σ ck cs Q pc' lv (vL z :: st)) : G X E nL q sh σ ck cs Q pc lv (st) := by
  intro hA H locs ls hP hS hl
  obtain ⟨d, rfl⟩ := d
  refine lv_lconst F.1 F.2.1 d hz ?_
  exact k hA H locs ls hP hS hl
theorem g_ldc2 (F : Fx X E l cc nL own rm) {idx : Nat} {z : Int} (hw : Cond.constantLong own idx (iL z) ∈ lw_g) (d : At cc pc (.ldc2_w idx) 3 pc') (k : G X E nL q sh σ ck cs Q pc' lv (vL z :: st)) : G X E nL q sh σ ck cs Q pc lv (st) := by
  intro hA H locs ls hP hS hl
  obtain ⟨d, rfl⟩ := d
  refine lv_ldc2 F.1 F.2.1 F.2.2.2.1 (F.2.2.2.2.1 _ hw) d ?_
  exact k hA H locs ls hP hS hl
theorem g_iload_n (F : Fx X E l cc nL own rm) {n : Fin 4} {i : Nat} (j : Nat) {z : Int} (hi : (n : Nat) = i) (hv : lv[j]? = some (i, vI z)) (d : At cc pc (.iload_n n) 1 pc') (k : G X E nL q sh σ ck cs Q pc' lv (vI z :: st)) : G X E nL q sh σ ck cs Q pc lv (st) := by
  intro hA H locs ls hP hS hl
  obtain ⟨d, rfl⟩ := d
  refine lv_iload_n F.1 F.2.1 d hi (lv_at hl j hv) ?_
  exact k hA H locs ls hP hS hl
theorem g_iload (F : Fx X E l cc nL own rm) {i : Nat} (j : Nat) {z : Int} (hv : lv[j]? = some (i, vI z)) (d : At cc pc (.iload i) 2 pc') (k : G X E nL q sh σ ck cs Q pc' lv (vI z :: st)) : G X E nL q sh σ ck cs Q pc lv (st) := by
  intro hA H locs ls hP hS hl
  obtain ⟨d, rfl⟩ := d
  refine lv_iload F.1 F.2.1 d (lv_at hl j hv) ?_
  exact k hA H locs ls hP hS hl
theorem g_lload_n (F : Fx X E l cc nL own rm) {n : Fin 4} {i : Nat} (j : Nat) {z : Int} (hi : (n : Nat) = i) (hv : lv[j]? = some (i, vL z)) (d : At cc pc (.lload_n n) 1 pc') (k : G X E nL q sh σ ck cs Q pc' lv (vL z :: st)) : G X E nL q sh σ ck cs Q pc lv (st) := by
  intro hA H locs ls hP hS hl
  obtain ⟨d, rfl⟩ := d
  refine lv_lload_n F.1 F.2.1 d hi (lv_at hl j hv) ?_
  exact k hA H locs ls hP hS hl
theorem g_lload (F : Fx X E l cc nL own rm) {i : Nat} (j : Nat) {z : Int} (hv : lv[j]? = some (i, vL z)) (d : At cc pc (.lload i) 2 pc') (k : G X E nL q sh σ ck cs Q pc' lv (vL z :: st)) : G X E nL q sh σ ck cs Q pc lv (st) := by
  intro hA H locs ls hP hS hl
  obtain ⟨d, rfl⟩ := d
  refine lv_lload F.1 F.2.1 d (lv_at hl j hv) ?_
  exact k hA H locs ls hP hS hl
theorem g_aload_n (F : Fx X E l cc nL own rm) {n : Fin 4} {i : Nat} (j : Nat) {z : Nat} (hi : (n : Nat) = i) (hv : lv[j]? = some (i, .ref z)) (d : At cc pc (.aload_n n) 1 pc') (k : G X E nL q sh σ ck cs Q pc' lv (.ref z :: st)) : G X E nL q sh σ ck cs Q pc lv (st) := by
  intro hA H locs ls hP hS hl
  obtain ⟨d, rfl⟩ := d
  refine lv_aload_n F.1 F.2.1 d hi (lv_at hl j hv) ?_
  exact k hA H locs ls hP hS hl
theorem g_iadd (F : Fx X E l cc nL own rm) {a b : Int} (d : At cc pc .iadd 1 pc') (k : G X E nL q sh σ ck cs Q pc' lv (vI (a + b) :: st)) : G X E nL q sh σ ck cs Q pc lv (vI b :: vI a :: st) := by
  intro hA H locs ls hP hS hl
  obtain ⟨d, rfl⟩ := d
  refine lv_iadd F.1 F.2.1 d ?_
  rw [iI_add]; exact k hA H locs ls hP hS hl
theorem g_isub (F : Fx X E l cc nL own rm) {a b : Int} (d : At cc pc .isub 1 pc') (k : G X E nL q sh σ ck cs Q pc' lv (vI (a - b) :: st)) : G X E nL q sh σ ck cs Q pc lv (vI b :: vI a :: st) := by
  intro hA H locs ls hP hS hl
  obtain ⟨d, rfl⟩ := d
  refine lv_isub F.1 F.2.1 d ?_
  rw [iI_sub]; exact k hA H locs ls hP hS hl
theorem g_imul (F : Fx X E l cc nL own rm) {a b : Int} (d : At cc pc .imul 1 pc') (k : G X E nL q sh σ ck cs Q pc' lv (vI (a * b) :: st)) : G X E nL q sh σ ck cs Q pc lv (vI b :: vI a :: st) := by
  intro hA H locs ls hP hS hl
  obtain ⟨d, rfl⟩ := d
  refine lv_imul F.1 F.2.1 d ?_
  rw [iI_mul]; exact k hA H locs ls hP hS hl
theorem g_iand (F : Fx X E l cc nL own rm) {a b : Int} (d : At cc pc .iand 1 pc') (k : G X E nL q sh σ ck cs Q pc' lv (vI (bAnd a b) :: st)) : G X E nL q sh σ ck cs Q pc lv (vI b :: vI a :: st) := by
  intro hA H locs ls hP hS hl
  obtain ⟨d, rfl⟩ := d
  refine lv_iand F.1 F.2.1 d ?_
  rw [← iI_bAnd]; exact k hA H locs ls hP hS hl
theorem g_ior (F : Fx X E l cc nL own rm) {a b : Int} (d : At cc pc .ior 1 pc') (k : G X E nL q sh σ ck cs Q pc' lv (vI (bOr a b) :: st)) : G X E nL q sh σ ck cs Q pc lv (vI b :: vI a :: st) := by
  intro hA H locs ls hP hS hl
  obtain ⟨d, rfl⟩ := d
  refine lv_ior F.1 F.2.1 d ?_
  rw [← iI_bOr]; exact k hA H locs ls hP hS hl
theorem g_ixor (F : Fx X E l cc nL own rm) {a b : Int} (d : At cc pc .ixor 1 pc') (k : G X E nL q sh σ ck cs Q pc' lv (vI (bXor a b) :: st)) : G X E nL q sh σ ck cs Q pc lv (vI b :: vI a :: st) := by
  intro hA H locs ls hP hS hl
  obtain ⟨d, rfl⟩ := d
  refine lv_ixor F.1 F.2.1 d ?_
  rw [← iI_bXor]; exact k hA H locs ls hP hS hl
theorem g_ishl (F : Fx X E l cc nL own rm) {a b : Int} (d : At cc pc .ishl 1 pc') (k : G X E nL q sh σ ck cs Q pc' lv (vI (bShl a b) :: st)) : G X E nL q sh σ ck cs Q pc lv (vI b :: vI a :: st) := by
  intro hA H locs ls hP hS hl
  obtain ⟨d, rfl⟩ := d
  refine lv_ishl F.1 F.2.1 d ?_
  rw [← iI_bShl]; exact k hA H locs ls hP hS hl
theorem g_ishr (F : Fx X E l cc nL own rm) {a b : Int} (d : At cc pc .ishr 1 pc') (k : G X E nL q sh σ ck cs Q pc' lv (vI (bShr a b) :: st)) : G X E nL q sh σ ck cs Q pc lv (vI b :: vI a :: st) := by
  intro hA H locs ls hP hS hl
  obtain ⟨d, rfl⟩ := d
  refine lv_ishr F.1 F.2.1 d ?_
  rw [← iI_bShr]; exact k hA H locs ls hP hS hl
theorem g_idiv (F : Fx X E l cc nL own rm) {a b : Int} (h : 0 ≤ a ∧ a < 2147483648 ∧ 0 < b ∧ b < 2147483648) (d : At cc pc .idiv 1 pc') (k : G X E nL q sh σ ck cs Q pc' lv (vI (a / b) :: st)) : G X E nL q sh σ ck cs Q pc lv (vI b :: vI a :: st) := by
  intro hA H locs ls hP hS hl
  obtain ⟨d, rfl⟩ := d
  refine lv_idiv F.1 F.2.1 d (iI_ne0 h.2.2.1 h.2.2.2) ?_
  rw [iI_div h.1 h.2.1 h.2.2.1 h.2.2.2]; exact k hA H locs ls hP hS hl
theorem g_irem (F : Fx X E l cc nL own rm) {a b : Int} (h : 0 ≤ a ∧ a < 2147483648 ∧ 0 < b ∧ b < 2147483648) (d : At cc pc .irem 1 pc') (k : G X E nL q sh σ ck cs Q pc' lv (vI (a % b) :: st)) : G X E nL q sh σ ck cs Q pc lv (vI b :: vI a :: st) := by
  intro hA H locs ls hP hS hl
  obtain ⟨d, rfl⟩ := d
  refine lv_irem F.1 F.2.1 d (iI_ne0 h.2.2.1 h.2.2.2) ?_
  rw [iI_rem h.1 h.2.1 h.2.2.1 h.2.2.2]; exact k hA H locs ls hP hS hl
theorem g_i2l (F : Fx X E l cc nL own rm) {a : Int} (h : rg a) (d : At cc pc .i2l 1 pc') (k : G X E nL q sh σ ck cs Q pc' lv (vL a :: st)) : G X E nL q sh σ ck cs Q pc lv (vI a :: st) := by
  intro hA H locs ls hP hS hl
  obtain ⟨d, rfl⟩ := d
  refine lv_i2l F.1 F.2.1 d (iI_wide h) ?_
  exact k hA H locs ls hP hS hl
theorem g_dup (F : Fx X E l cc nL own rm) {v : Value} (hv : v.category = 1) (d : At cc pc .dup 1 pc') (k : G X E nL q sh σ ck cs Q pc' lv (v :: v :: st)) : G X E nL q sh σ ck cs Q pc lv (v :: st) := by
  intro hA H locs ls hP hS hl
  obtain ⟨d, rfl⟩ := d
  refine lv_dup F.1 F.2.1 d hv ?_
  exact k hA H locs ls hP hS hl
theorem g_pop (F : Fx X E l cc nL own rm) {v : Value} (hv : v.category = 1) (d : At cc pc .pop 1 pc') (k : G X E nL q sh σ ck cs Q pc' lv (st)) : G X E nL q sh σ ck cs Q pc lv (v :: st) := by
  intro hA H locs ls hP hS hl
  obtain ⟨d, rfl⟩ := d
  refine lv_pop F.1 F.2.1 d hv ?_
  exact k hA H locs ls hP hS hl
theorem g_dup2 (F : Fx X E l cc nL own rm) {v w : Value} (hv : v.category = 1) (hw : w.category = 1) (d : At cc pc .dup2 1 pc') (k : G X E nL q sh σ ck cs Q pc' lv (v :: w :: v :: w :: st)) : G X E nL q sh σ ck cs Q pc lv (v :: w :: st) := by
  intro hA H locs ls hP hS hl
  obtain ⟨d, rfl⟩ := d
  refine lv_dup2_11 F.1 F.2.1 d hv hw ?_
  exact k hA H locs ls hP hS hl
theorem g_istore_n (F : Fx X E l cc nL own rm) {n : Fin 4} {i : Nat} {z : Int} (hi : (n : Nat) = i) (hn : i < nL) (hv : stL lv i (vI z) = lv') (d : At cc pc (.istore_n n) 1 pc') (k : G X E nL q sh σ ck cs Q pc' lv' st) : G X E nL q sh σ ck cs Q pc lv (vI z :: st) := by
  intro hA H locs ls hP hS hl
  obtain ⟨d, rfl⟩ := d
  exact lv_istore_n F.1 F.2.1 d hi hl hn hv (fun ls' hl' => k hA H locs ls' hP hS hl')
theorem g_istore (F : Fx X E l cc nL own rm) {i : Nat} {z : Int} (hn : i < nL) (hv : stL lv i (vI z) = lv') (d : At cc pc (.istore i) 2 pc') (k : G X E nL q sh σ ck cs Q pc' lv' st) : G X E nL q sh σ ck cs Q pc lv (vI z :: st) := by
  intro hA H locs ls hP hS hl
  obtain ⟨d, rfl⟩ := d
  exact lv_istore F.1 F.2.1 d hl hn hv (fun ls' hl' => k hA H locs ls' hP hS hl')
theorem g_astore_n (F : Fx X E l cc nL own rm) {n : Fin 4} {i : Nat} {z : Nat} (hi : (n : Nat) = i) (hn : i < nL) (hv : stL lv i (.ref z) = lv') (d : At cc pc (.astore_n n) 1 pc') (k : G X E nL q sh σ ck cs Q pc' lv' st) : G X E nL q sh σ ck cs Q pc lv (.ref z :: st) := by
  intro hA H locs ls hP hS hl
  obtain ⟨d, rfl⟩ := d
  exact lv_astore_n F.1 F.2.1 d hi hl hn hv (fun ls' hl' => k hA H locs ls' hP hS hl')
theorem g_iinc (F : Fx X E l cc nL own rm) {i : Nat} {n z w : Int} (j : Nat) (hz : lv[j]? = some (i, vI z)) (hw : z + n = w) (hn : i < nL) (hv : stL lv i (vI w) = lv') (d : At cc pc (.iinc i n) 3 pc') (k : G X E nL q sh σ ck cs Q pc' lv' st) : G X E nL q sh σ ck cs Q pc lv (st) := by
  intro hA H locs ls hP hS hl
  obtain ⟨d, rfl⟩ := d
  exact lv_iinc F.1 F.2.1 d hl hz (by rw [← hw]; exact iI_add z n) hn hv (fun ls' hl' => k hA H locs ls' hP hS hl')
theorem g_icmp_eq (F : Fx X E l cc nL own rm) {a b off : Int} (d : Br cc pc (.if_icmp .eq off) off pc' tgt) (ha : rg a) (hb : rg b) (kt : a = b → G X E nL q sh σ ck cs Q tgt lv st) (kf : ¬ (a = b) → G X E nL q sh σ ck cs Q pc' lv st) : G X E nL q sh σ ck cs Q pc lv (vI b :: vI a :: st) := by
  intro hA H locs ls hP hS hl
  obtain ⟨d, rfl, ht⟩ := d
  exact lv_icmp_eq F.1 F.2.1 d ht (fun h => kt ((iI_eq ha hb).mp h) hA H locs ls hP hS hl) (fun h => kf (fun z => h ((iI_eq ha hb).mpr z)) hA H locs ls hP hS hl)
theorem g_if_eq (F : Fx X E l cc nL own rm) {a off : Int} (d : Br cc pc (.ifCond .eq off) off pc' tgt) (ha : rg a) (kt : a = 0 → G X E nL q sh σ ck cs Q tgt lv st) (kf : ¬ (a = 0) → G X E nL q sh σ ck cs Q pc' lv st) : G X E nL q sh σ ck cs Q pc lv (vI a :: st) := by
  intro hA H locs ls hP hS hl
  obtain ⟨d, rfl, ht⟩ := d
  have r0 : rg 0 := ⟨by decide, by decide⟩
  exact lv_if_eq F.1 F.2.1 d ht (fun h => kt ((iI_eq ha r0).mp h) hA H locs ls hP hS hl) (fun h => kf (fun z => h ((iI_eq ha r0).mpr z)) hA H locs ls hP hS hl)
theorem g_icmp_ne (F : Fx X E l cc nL own rm) {a b off : Int} (d : Br cc pc (.if_icmp .ne off) off pc' tgt) (ha : rg a) (hb : rg b) (kt : ¬ a = b → G X E nL q sh σ ck cs Q tgt lv st) (kf : a = b → G X E nL q sh σ ck cs Q pc' lv st) : G X E nL q sh σ ck cs Q pc lv (vI b :: vI a :: st) := by
  intro hA H locs ls hP hS hl
  obtain ⟨d, rfl, ht⟩ := d
  exact lv_icmp_ne F.1 F.2.1 d ht (fun h => kt (fun z => h ((iI_eq ha hb).mpr z)) hA H locs ls hP hS hl) (fun h => kf ((iI_eq ha hb).mp h) hA H locs ls hP hS hl)
theorem g_if_ne (F : Fx X E l cc nL own rm) {a off : Int} (d : Br cc pc (.ifCond .ne off) off pc' tgt) (ha : rg a) (kt : ¬ a = 0 → G X E nL q sh σ ck cs Q tgt lv st) (kf : a = 0 → G X E nL q sh σ ck cs Q pc' lv st) : G X E nL q sh σ ck cs Q pc lv (vI a :: st) := by
  intro hA H locs ls hP hS hl
  obtain ⟨d, rfl, ht⟩ := d
  have r0 : rg 0 := ⟨by decide, by decide⟩
  exact lv_if_ne F.1 F.2.1 d ht (fun h => kt (fun z => h ((iI_eq ha r0).mpr z)) hA H locs ls hP hS hl) (fun h => kf ((iI_eq ha r0).mp h) hA H locs ls hP hS hl)
theorem g_icmp_lt (F : Fx X E l cc nL own rm) {a b off : Int} (d : Br cc pc (.if_icmp .lt off) off pc' tgt) (ha : rg a) (hb : rg b) (kt : a < b → G X E nL q sh σ ck cs Q tgt lv st) (kf : ¬ (a < b) → G X E nL q sh σ ck cs Q pc' lv st) : G X E nL q sh σ ck cs Q pc lv (vI b :: vI a :: st) := by
  intro hA H locs ls hP hS hl
  obtain ⟨d, rfl, ht⟩ := d
  exact lv_icmp_lt F.1 F.2.1 d ht (fun h => kt ((iI_lt ha hb).mp h) hA H locs ls hP hS hl) (fun h => kf (fun z => h ((iI_lt ha hb).mpr z)) hA H locs ls hP hS hl)
theorem g_if_lt (F : Fx X E l cc nL own rm) {a off : Int} (d : Br cc pc (.ifCond .lt off) off pc' tgt) (ha : rg a) (kt : a < 0 → G X E nL q sh σ ck cs Q tgt lv st) (kf : ¬ (a < 0) → G X E nL q sh σ ck cs Q pc' lv st) : G X E nL q sh σ ck cs Q pc lv (vI a :: st) := by
  intro hA H locs ls hP hS hl
  obtain ⟨d, rfl, ht⟩ := d
  have r0 : rg 0 := ⟨by decide, by decide⟩
  exact lv_if_lt F.1 F.2.1 d ht (fun h => kt ((iI_lt ha r0).mp h) hA H locs ls hP hS hl) (fun h => kf (fun z => h ((iI_lt ha r0).mpr z)) hA H locs ls hP hS hl)
theorem g_icmp_ge (F : Fx X E l cc nL own rm) {a b off : Int} (d : Br cc pc (.if_icmp .ge off) off pc' tgt) (ha : rg a) (hb : rg b) (kt : b ≤ a → G X E nL q sh σ ck cs Q tgt lv st) (kf : ¬ (b ≤ a) → G X E nL q sh σ ck cs Q pc' lv st) : G X E nL q sh σ ck cs Q pc lv (vI b :: vI a :: st) := by
  intro hA H locs ls hP hS hl
  obtain ⟨d, rfl, ht⟩ := d
  exact lv_icmp_ge F.1 F.2.1 d ht (fun h => kt ((iI_le hb ha).mp h) hA H locs ls hP hS hl) (fun h => kf (fun z => h ((iI_le hb ha).mpr z)) hA H locs ls hP hS hl)
theorem g_if_ge (F : Fx X E l cc nL own rm) {a off : Int} (d : Br cc pc (.ifCond .ge off) off pc' tgt) (ha : rg a) (kt : 0 ≤ a → G X E nL q sh σ ck cs Q tgt lv st) (kf : ¬ (0 ≤ a) → G X E nL q sh σ ck cs Q pc' lv st) : G X E nL q sh σ ck cs Q pc lv (vI a :: st) := by
  intro hA H locs ls hP hS hl
  obtain ⟨d, rfl, ht⟩ := d
  have r0 : rg 0 := ⟨by decide, by decide⟩
  exact lv_if_ge F.1 F.2.1 d ht (fun h => kt ((iI_le r0 ha).mp h) hA H locs ls hP hS hl) (fun h => kf (fun z => h ((iI_le r0 ha).mpr z)) hA H locs ls hP hS hl)
theorem g_icmp_gt (F : Fx X E l cc nL own rm) {a b off : Int} (d : Br cc pc (.if_icmp .gt off) off pc' tgt) (ha : rg a) (hb : rg b) (kt : b < a → G X E nL q sh σ ck cs Q tgt lv st) (kf : ¬ (b < a) → G X E nL q sh σ ck cs Q pc' lv st) : G X E nL q sh σ ck cs Q pc lv (vI b :: vI a :: st) := by
  intro hA H locs ls hP hS hl
  obtain ⟨d, rfl, ht⟩ := d
  exact lv_icmp_gt F.1 F.2.1 d ht (fun h => kt ((iI_lt hb ha).mp h) hA H locs ls hP hS hl) (fun h => kf (fun z => h ((iI_lt hb ha).mpr z)) hA H locs ls hP hS hl)
theorem g_if_gt (F : Fx X E l cc nL own rm) {a off : Int} (d : Br cc pc (.ifCond .gt off) off pc' tgt) (ha : rg a) (kt : 0 < a → G X E nL q sh σ ck cs Q tgt lv st) (kf : ¬ (0 < a) → G X E nL q sh σ ck cs Q pc' lv st) : G X E nL q sh σ ck cs Q pc lv (vI a :: st) := by
  intro hA H locs ls hP hS hl
  obtain ⟨d, rfl, ht⟩ := d
  have r0 : rg 0 := ⟨by decide, by decide⟩
  exact lv_if_gt F.1 F.2.1 d ht (fun h => kt ((iI_lt r0 ha).mp h) hA H locs ls hP hS hl) (fun h => kf (fun z => h ((iI_lt r0 ha).mpr z)) hA H locs ls hP hS hl)
theorem g_icmp_le (F : Fx X E l cc nL own rm) {a b off : Int} (d : Br cc pc (.if_icmp .le off) off pc' tgt) (ha : rg a) (hb : rg b) (kt : a ≤ b → G X E nL q sh σ ck cs Q tgt lv st) (kf : ¬ (a ≤ b) → G X E nL q sh σ ck cs Q pc' lv st) : G X E nL q sh σ ck cs Q pc lv (vI b :: vI a :: st) := by
  intro hA H locs ls hP hS hl
  obtain ⟨d, rfl, ht⟩ := d
  exact lv_icmp_le F.1 F.2.1 d ht (fun h => kt ((iI_le ha hb).mp h) hA H locs ls hP hS hl) (fun h => kf (fun z => h ((iI_le ha hb).mpr z)) hA H locs ls hP hS hl)
theorem g_if_le (F : Fx X E l cc nL own rm) {a off : Int} (d : Br cc pc (.ifCond .le off) off pc' tgt) (ha : rg a) (kt : a ≤ 0 → G X E nL q sh σ ck cs Q tgt lv st) (kf : ¬ (a ≤ 0) → G X E nL q sh σ ck cs Q pc' lv st) : G X E nL q sh σ ck cs Q pc lv (vI a :: st) := by
  intro hA H locs ls hP hS hl
  obtain ⟨d, rfl, ht⟩ := d
  have r0 : rg 0 := ⟨by decide, by decide⟩
  exact lv_if_le F.1 F.2.1 d ht (fun h => kt ((iI_le ha r0).mp h) hA H locs ls hP hS hl) (fun h => kf (fun z => h ((iI_le ha r0).mpr z)) hA H locs ls hP hS hl)
theorem g_b_eq (F : Fx X E l cc nL own rm) {P : Prop} {hd : Decidable P} {off : Int} (d : Br cc pc (.ifCond .eq off) off pc' tgt) (kt : ¬ P → G X E nL q sh σ ck cs Q tgt lv st) (kf : P → G X E nL q sh σ ck cs Q pc' lv st) : G X E nL q sh σ ck cs Q pc lv (vI (@ite Int P hd 1 0) :: st) := by
  refine g_if_eq F d (by by_cases h : P <;> simp [h, rg]) (fun h => kt (fun z => by simp [z] at h)) (fun h => kf ?_)
  by_cases z : P
  · exact z
  · simp [z] at h
theorem g_b_ne (F : Fx X E l cc nL own rm) {P : Prop} {hd : Decidable P} {off : Int} (d : Br cc pc (.ifCond .ne off) off pc' tgt) (kt : P → G X E nL q sh σ ck cs Q tgt lv st) (kf : ¬ P → G X E nL q sh σ ck cs Q pc' lv st) : G X E nL q sh σ ck cs Q pc lv (vI (@ite Int P hd 1 0) :: st) := by
  refine g_if_ne F d (by by_cases h : P <;> simp [h, rg]) (fun h => kt ?_) (fun h => kf (fun z => by simp [z] at h))
  by_cases z : P
  · exact z
  · simp [z] at h
theorem g_goto (F : Fx X E l cc nL own rm) {off : Int} (d : Br cc pc (.goto off) off pc' tgt) (k : G X E nL q sh σ ck cs Q tgt lv st) : G X E nL q sh σ ck cs Q pc lv st := by
  intro hA H locs ls hP hS hl
  obtain ⟨d, rfl, ht⟩ := d
  exact lv_goto F.1 F.2.1 d ht (k hA H locs ls hP hS hl)
theorem g_tabOut (F : Fx X E l cc nL own rm) {a dflt lo hi : Int} {offs : Array Int} {len : Nat} (d : Go cc pc (.tableswitch dflt lo hi offs) len) (ha : rg a) (h : a < lo ∨ hi < a) (ht : (pc : Int) + dflt = (tgt : Int)) (k : G X E nL q sh σ ck cs Q tgt lv st) : G X E nL q sh σ ck cs Q pc lv (vI a :: st) := by
  intro hA H locs ls hP hS hl
  exact lv_tableOut F.1 F.2.1 d (by rw [iI_toInt ha]; exact h) ht (k hA H locs ls hP hS hl)
theorem g_tabIn (F : Fx X E l cc nL own rm) {a dflt lo hi off : Int} {offs : Array Int} {len : Nat} (d : Go cc pc (.tableswitch dflt lo hi offs) len) (ha : rg a) (j : Nat) (hj : a = lo + j) (hh : lo + j ≤ hi) (ho : offs[j]? = some off) (ht : (pc : Int) + off = (tgt : Int)) (k : G X E nL q sh σ ck cs Q tgt lv st) : G X E nL q sh σ ck cs Q pc lv (vI a :: st) := by
  intro hA H locs ls hP hS hl
  refine lv_tableIn F.1 F.2.1 d (by rw [iI_toInt ha]; omega) (by rw [iI_toInt ha]; omega) (off := off) ?_ ht (k hA H locs ls hP hS hl)
  rw [iI_toInt ha, hj, show (lo + (j : Int) - lo).toNat = j by omega]
  exact ho
theorem g_look (F : Fx X E l cc nL own rm) {a dflt off : Int} {ps : Array (Int × Int)} {len : Nat} (d : Go cc pc (.lookupswitch dflt ps) len) (ha : rg a) (hp : (ps.toList.zip (ps.toList.drop 1)).all (fun (a, next) => a.1 < next.1) = true) (ho : Op.lookupswitch.offset ps.toList dflt a = off) (ht : (pc : Int) + off = (tgt : Int)) (k : G X E nL q sh σ ck cs Q tgt lv st) : G X E nL q sh σ ck cs Q pc lv (vI a :: st) := by
  intro hA H locs ls hP hS hl
  exact lv_lookup F.1 F.2.1 d hp (by rw [iI_toInt ha]; exact ho) ht (k hA H locs ls hP hS hl)
/-- arrays -/
theorem g_iaload (F : Fx X E l cc nL own rm) {c n : Nat} {z : Int} (d : At cc pc .iaload 1 pc') (hc : sh[c]? = some (.inl n)) (h0 : 0 ≤ z) (h1 : z < (n : Int)) (hn : n < 2147483648) (k : G X E nL q sh σ ck cs Q pc' lv (vI (σ c z) :: st)) : G X E nL q sh σ ck cs Q pc lv (vI z :: .ref (q c) :: st) := by
  intro hA H locs ls hP hS hl
  obtain ⟨d, rfl⟩ := d
  refine va_iald F.1 F.2.1 F.2.2.2.2.2.1.1 hP c 0 (wd_at hc) rfl (iI_in h0 h1 hn) d ?_
  rw [iI_clamp ⟨by omega, by omega⟩, Int.toNat_of_nonneg h0]
  exact k hA H locs ls hP hS hl
theorem g_iastore (F : Fx X E l cc nL own rm) {c n : Nat} {z v : Int} (d : At cc pc .iastore 1 pc') (hc : sh[c]? = some (.inl n)) (h0 : 0 ≤ z) (h1 : z < (n : Int)) (hn : n < 2147483648) (k : G X E nL q sh (up σ c z v) ck cs Q pc' lv st) : G X E nL q sh σ ck cs Q pc lv (vI v :: vI z :: .ref (q c) :: st) := by
  intro hA H locs ls hP hS hl
  obtain ⟨d, rfl⟩ := d
  refine va_iast F.1 F.2.1 F.2.2.2.2.2.1.1 hP (hA.D E.2.1 σ) hS c 0 (wd_at hc) rfl (iI_in h0 h1 hn) d (fun H1 locs1 hP1 _ hS1 => k hA H1 locs1 ls ?_ hS1 hl)
  rw [iI_clamp ⟨by omega, by omega⟩] at hP1
  rw [← wd_set hc]
  have e : upd (fun j : Nat => iI (σ c (j : Int))) z.toNat (iI v) = fun j : Nat => iI (up σ c z v c (j : Int)) := by
    funext j
    by_cases hj : j = z.toNat
    · subst hj
      simp [upd, up, Int.toNat_of_nonneg h0]
    · have h2 : ((j : Nat) : Int) ≠ z := by omega
      simp [upd, up, hj, h2]
  rw [e] at hP1
  exact hP1
theorem g_alen (F : Fx X E l cc nL own rm) {c n : Nat} (d : At cc pc .arraylength 1 pc') (hc : sh[c]? = some (.inl n)) (k : G X E nL q sh σ ck cs Q pc' lv (vI (n : Int) :: st)) : G X E nL q sh σ ck cs Q pc lv (.ref (q c) :: st) := by
  intro hA H locs ls hP hS hl
  obtain ⟨d, rfl⟩ := d
  exact va_alen F.1 F.2.1 F.2.2.2.2.2.1.1 hP c 0 (wd_at hc) rfl (iI_nat n).symm d (k hA H locs ls hP hS hl)
/-- static rows -/
theorem g_gets (F : Fx X E l cc nL own rm) (i : Nat) {idx : Nat} {C n : String} (hi : i < 5) (hC : stN i = (C, n)) (hw : Cond.fieldLink own idx C n "[I" ∈ lw_g) (d : At cc pc (.getstatic idx) 3 pc') (k : G X E nL q sh σ ck cs Q pc' lv (.ref (E.2.2.2 i) :: st)) : G X E nL q sh σ ck cs Q pc lv st := by
  intro hA H locs ls hP hS hl
  obtain ⟨d, rfl⟩ := d
  have hz := (F.2.2.2.2.2.1.2.2 i hi).1
  rw [hC] at hz
  exact va_gets F.1 F.2.1 hz hS F.2.2.2.1 (F.2.2.2.2.1 _ hw) (fun _ h => h) d (k hA H locs ls hP hS hl)
theorem g_getsN (F : Fx X E l cc nL own rm) (i : Nat) {idx : Nat} {C n host : String} (hi : i < 5) (hC : stN i = (C, n)) (hw : Cond.fieldLinkNest own idx C n "[I" host ∈ nws) (d : At cc pc (.getstatic idx) 3 pc') (k : G X E nL q sh σ ck cs Q pc' lv (.ref (E.2.2.2 i) :: st)) : G X E nL q sh σ ck cs Q pc lv st := by
  intro hA H locs ls hP hS hl
  obtain ⟨d, rfl⟩ := d
  have hz := (F.2.2.2.2.2.1.2.2 i hi).1
  rw [hC] at hz
  exact va_getsN F.1 F.2.1 hz hS F.2.2.2.1 (va_Nw.use (nws_on _ hw) (F.2.2.2.2.2.1.2.1 _ hw)) (fun _ h => h) d (k hA H locs ls hP hS hl)
theorem g_sald (F : Fx X E l cc nL own rm) (i : Nat) {z : Int} (hi : i < 5) (h0 : 0 ≤ z) (h1 : z < (stLen i : Int)) (d : At cc pc .iaload 1 pc') (k : G X E nL q sh σ ck cs Q pc' lv (vI (stV i z) :: st)) : G X E nL q sh σ ck cs Q pc lv (vI z :: .ref (E.2.2.2 i) :: st) := by
  intro hA H locs ls hP hS hl
  obtain ⟨d, rfl⟩ := d
  have hn : stLen i < 2147483648 := by
    unfold stLen
    split <;> decide
  refine va_ti F.1 F.2.1 (F.2.2.2.2.2.1.2.2 i hi).2 hS (iI_in h0 h1 hn) ?_ d (k hA H locs ls hP hS hl)
  rw [iI_clamp ⟨by omega, by omega⟩, Int.toNat_of_nonneg h0]
/-- fields -/
def Kl (ci : Nat) (C : String) (T : u_T) (N : Nat) (ty : Nat → FieldType) : Prop := vwCl[ci]? = some (C, T, N) ∧ (∀ w ∈ u_ws C T N, w ∈ lw_g) ∧ (∀ k, k < N → parseFieldDescriptor (T k).2.2.1 = some (ty k)) ∧ (∀ a, a < N → ∀ b, b < N → a ≠ b → (T a).2.1 ≠ (T b).2.1)
/-- a link of a field: its place in the class -/
def Fl (own : String) (idx ci i : Nat) (C : String) (T : u_T) (N : Nat) (ty : Nat → FieldType) : Prop := Kl ci C T N ty ∧ i < N ∧ Cond.fieldLink own idx (T i).1 (T i).2.1 (T i).2.2.1 ∈ lw_g
theorem g_getI (F : Fx X E l cc nL own rm) {c idx ci i N : Nat} {C : String} {T : u_T} {ty : Nat → FieldType} {fs : List (Option (Option Nat))} (j : Int) (L : Fl own idx ci i C T N ty) (d : At cc pc (.getfield idx) 3 pc') (hc : sh[c]? = some (.inr (ci, fs))) (hf : fs[i]? = some none) (hj : (i : Int) = j) (k : G X E nL q sh σ ck cs Q pc' lv (vI (σ c j) :: st)) : G X E nL q sh σ ck cs Q pc lv (.ref (q c) :: st) := by
  intro hA H locs ls hP hS hl
  obtain ⟨d, rfl⟩ := d
  subst hj
  exact va_get F.1 F.2.1 F.2.2.2.2.1 L.1.2.1 F.2.2.2.1 F.2.2.2.2.2.1.1 hP c (wd_at hc) L.1.1 i L.2.1 (F.2.2.2.2.1 _ L.2.2) (fun _ h => h) (flds_at hf) d (k hA H locs ls hP hS hl)
theorem g_getR (F : Fx X E l cc nL own rm) {c idx ci i N c' : Nat} {C : String} {T : u_T} {ty : Nat → FieldType} {fs : List (Option (Option Nat))} (L : Fl own idx ci i C T N ty) (d : At cc pc (.getfield idx) 3 pc') (hc : sh[c]? = some (.inr (ci, fs))) (hf : fs[i]? = some (some (some c'))) (k : G X E nL q sh σ ck cs Q pc' lv (.ref (q c') :: st)) : G X E nL q sh σ ck cs Q pc lv (.ref (q c) :: st) := by
  intro hA H locs ls hP hS hl
  obtain ⟨d, rfl⟩ := d
  exact va_get F.1 F.2.1 F.2.2.2.2.1 L.1.2.1 F.2.2.2.1 F.2.2.2.2.2.1.1 hP c (wd_at hc) L.1.1 i L.2.1 (F.2.2.2.2.1 _ L.2.2) (fun _ h => h) (flds_at hf) d (k hA H locs ls hP hS hl)
theorem g_putI (F : Fx X E l cc nL own rm) {c idx ci i N : Nat} {C : String} {T : u_T} {ty : Nat → FieldType} {fs : List (Option (Option Nat))} {v : Int} (j : Int) (L : Fl own idx ci i C T N ty) (d : At cc pc (.putfield idx) 3 pc') (hc : sh[c]? = some (.inr (ci, fs))) (hf : fs[i]? = some none) (hj : (i : Int) = j) (hfin : (T i).2.2.2 = false) (hn : narrow (ty i) (vI v) = vI v) (hfit : fits (ty i) (vI v) = true) (k : G X E nL q sh (up σ c j v) ck cs Q pc' lv st) : G X E nL q sh σ ck cs Q pc lv (vI v :: .ref (q c) :: st) := by
  intro hA H locs ls hP hS hl
  obtain ⟨d, rfl⟩ := d
  subst hj
  refine va_put F.1 F.2.1 F.2.2.2.2.1 L.1.2.1 ty L.1.2.2.1 L.1.2.2.2 F.2.2.2.1 F.2.2.2.2.2.1.1 hP (hA.D E.2.1 σ) hS c (wd_at hc) L.1.1 i L.2.1 (F.2.2.2.2.1 _ L.2.2) (fun _ h => h) hfin (L.1.2.2.1 i L.2.1) hn hfit (by rw [flds_len]; exact (List.getElem?_eq_some_iff.mp hf).1) d (fun H1 locs1 hP1 _ hS1 => k hA H1 locs1 ls ?_ hS1 hl)
  rw [← wd_set hc]
  rw [flds_set hf] at hP1
  exact hP1
end Rows
end
section
/-! contracts over the world, and calls -/
def PreC (E : Ev) (q : Nat → Nat) (sh : List Shp) (σ : Sg) (As : List Value) : Array Value → State → Prop := va_Pc As (fun U => va_P E.1 vwCl (wd E.2.1 q sh σ) U.heap ∧ AD E.2.2.1 q sh.length ∧ KK E U U.heap ∧ ∀ a : Nat, U.heap.size ≤ a → E.2.2.1 a)
theorem PreC.blind {E : Ev} {q : Nat → Nat} {sh : List Shp} {σ : Sg} {As : List Value} : FrameBlind (PreC E q sh σ As) := fun _ _ _ _ h => ⟨h.1, h.2.1, h.2.2.1, h.2.2.2.1.call, h.2.2.2.2⟩
def QI (E : Ev) (q : Nat → Nat) (sh : List Shp) (post : Int → Sg → Prop) : Array Value → State → Outcome → State → Prop := va_Qi (S := Sg) (fun r τ => ∃ z : Int, r = iI z ∧ post z τ) (fun τ t => va_P E.1 vwCl (wd E.2.1 q sh τ) t.heap) E.2.2.1
def QV (E : Ev) (q : Nat → Nat) (sh : List Shp) (post : Sg → Prop) : Array Value → State → Outcome → State → Prop := va_Qv (S := Sg) post (fun τ t => va_P E.1 vwCl (wd E.2.1 q sh τ) t.heap) E.2.2.1
def CI (l : Launch) (E : Ev) (y : MethodName) (cc : ByteArray) (n : Nat) (ret : FieldType) (rm : Room) (q : Nat → Nat) (sh : List Shp) (σ : Sg) (As : List Value) (post : Int → Sg → Prop) : Prop :=
  Met l y (tw y cc n (some ret)) rm (PreC E q sh σ As) (QI E q sh post) 0 0 E.2.2.1
def CV (l : Launch) (E : Ev) (y : MethodName) (cc : ByteArray) (n : Nat) (rm : Room) (q : Nat → Nat) (sh : List Shp) (σ : Sg) (As : List Value) (post : Sg → Prop) : Prop :=
  Met l y (tw y cc n none) rm (PreC E q sh σ As) (QV E q sh post) 0 0 E.2.2.1
abbrev is (v : Int) (σ' : Sg) : Int → Sg → Prop := fun z τ => v = z ∧ σ' = τ
abbrev isS (σ' : Sg) : Sg → Prop := fun τ => σ' = τ
theorem CI_of {l : Launch} {E : Ev} {y : MethodName} {cc : ByteArray} {n : Nat} {rm : Room} {q : Nat → Nat} {sh : List Shp} {σ : Sg} {As : List Value} {post : Int → Sg → Prop} {own : String} (hy : plainName y.cls = true) (ho : y.cls = own) (hlen : (lg_sl As).length ≤ n)
    (h : ∀ (X : Cx) (Q : State → Prop), Fx X E l cc n own rm → (∀ {pc : Nat} {lv : List (Nat × Value)} {z : Int} {τ : Sg}, Go cc pc .ireturn 1 → post z τ → G X E n q sh τ 0 0 Q pc lv [vI z]) → G X E n q sh σ 0 0 Q 0 (lv_args 0 As) []) : CI l E y cc n .int rm q sh σ As post := by
  refine Met.ofW (cc := cc) (maxL := n) (ret := some .int) hy rfl ?_
  intro p e s m args below meth c s₁ B hml hv
  obtain ⟨rfl, hP, hA, hK, hN⟩ := hv
  have hx := B.exec
  have hb := B.bytes
  have hr := B.returns
  have hts := atoms_spec (ws := tw y cc n (some .int)) B.pre
  have hown : s.vm.findClass y.cls = some m.cls := findClass_of_methodNamed B.named
  have hlocks := B.notSynchronized
  have F : Fx (p, l, e, rm, s, m, As.toArray, below, meth, c) E l cc n own rm := ⟨hx, hb, hml, by rw [← ho]; exact hown, fun w hw => hts w (List.mem_cons_of_mem _ hw), hK, rfl, rfl, hN⟩
  have hl := lv_entry As (n := n) hlen
  rw [lg_entry_eq]
  generalize (lg_sl As ++ List.replicate (n - (lg_sl As).length) Slot.unset).toArray = ls at hl ⊢
  refine h (p, l, e, rm, s, m, As.toArray, below, meth, c) _ F ?_ hA s.heap [] ls hP va_S.rf hl
  intro pc lv z τ d hp hA2 H locs ls2 hP2 hS2 hl2
  exact W.iret hx hb hr (fun t ht hW => ⟨⟨iI z, τ, rfl, ⟨z, rfl, hp⟩, by show va_P _ _ _ t.heap; rw [ht]; exact hP2⟩, hS2.F ht⟩) hS2.2.2 d
theorem CB_of {l : Launch} {E : Ev} {y : MethodName} {cc : ByteArray} {n : Nat} {rm : Room} {q : Nat → Nat} {sh : List Shp} {σ : Sg} {As : List Value} {post : Int → Sg → Prop} {own : String} (hy : plainName y.cls = true) (ho : y.cls = own) (hlen : (lg_sl As).length ≤ n)
    (h : ∀ (X : Cx) (Q : State → Prop), Fx X E l cc n own rm → (∀ {pc : Nat} {lv : List (Nat × Value)} {z : Int} {τ : Sg}, Go cc pc .ireturn 1 → (z = 0 ∨ z = 1) → post z τ → G X E n q sh τ 0 0 Q pc lv [vI z]) → G X E n q sh σ 0 0 Q 0 (lv_args 0 As) []) : CI l E y cc n .boolean rm q sh σ As post := by
  refine Met.ofW (cc := cc) (maxL := n) (ret := some .boolean) hy rfl ?_
  intro p e s m args below meth c s₁ B hml hv
  obtain ⟨rfl, hP, hA, hK, hN⟩ := hv
  have hx := B.exec
  have hb := B.bytes
  have hr := B.returns
  have hts := atoms_spec (ws := tw y cc n (some .boolean)) B.pre
  have hown : s.vm.findClass y.cls = some m.cls := findClass_of_methodNamed B.named
  have hlocks := B.notSynchronized
  have F : Fx (p, l, e, rm, s, m, As.toArray, below, meth, c) E l cc n own rm := ⟨hx, hb, hml, by rw [← ho]; exact hown, fun w hw => hts w (List.mem_cons_of_mem _ hw), hK, rfl, rfl, hN⟩
  have hl := lv_entry As (n := n) hlen
  rw [lg_entry_eq]
  generalize (lg_sl As ++ List.replicate (n - (lg_sl As).length) Slot.unset).toArray = ls at hl ⊢
  refine h (p, l, e, rm, s, m, As.toArray, below, meth, c) _ F ?_ hA s.heap [] ls hP va_S.rf hl
  intro pc lv z τ d h01 hp hA2 H locs ls2 hP2 hS2 hl2
  have hn : narrow .boolean (.int (iI z)) = .int (iI z) := by rcases h01 with rfl | rfl <;> rfl
  exact W.zret hx hb hr hn (fun t ht hW => ⟨⟨iI z, τ, rfl, ⟨z, rfl, hp⟩, by show va_P _ _ _ t.heap; rw [ht]; exact hP2⟩, hS2.F ht⟩) hS2.2.2 d
theorem CV_of {l : Launch} {E : Ev} {y : MethodName} {cc : ByteArray} {n : Nat} {rm : Room} {q : Nat → Nat} {sh : List Shp} {σ : Sg} {As : List Value} {post : Sg → Prop} {own : String} (hy : plainName y.cls = true) (ho : y.cls = own) (hlen : (lg_sl As).length ≤ n)
    (h : ∀ (X : Cx) (Q : State → Prop), Fx X E l cc n own rm → (∀ {pc : Nat} {lv : List (Nat × Value)} {τ : Sg}, Go cc pc .return_ 1 → post τ → G X E n q sh τ 0 0 Q pc lv []) → G X E n q sh σ 0 0 Q 0 (lv_args 0 As) []) : CV l E y cc n rm q sh σ As post := by
  refine Met.ofW (cc := cc) (maxL := n) (ret := none) hy rfl ?_
  intro p e s m args below meth c s₁ B hml hv
  obtain ⟨rfl, hP, hA, hK, hN⟩ := hv
  have hx := B.exec
  have hb := B.bytes
  have hr := B.returns
  have hts := atoms_spec (ws := tw y cc n none) B.pre
  have hown : s.vm.findClass y.cls = some m.cls := findClass_of_methodNamed B.named
  have hlocks := B.notSynchronized
  have F : Fx (p, l, e, rm, s, m, As.toArray, below, meth, c) E l cc n own rm := ⟨hx, hb, hml, by rw [← ho]; exact hown, fun w hw => hts w (List.mem_cons_of_mem _ hw), hK, rfl, rfl, hN⟩
  have hl := lv_entry As (n := n) hlen
  rw [lg_entry_eq]
  generalize (lg_sl As ++ List.replicate (n - (lg_sl As).length) Slot.unset).toArray = ls at hl ⊢
  refine h (p, l, e, rm, s, m, As.toArray, below, meth, c) _ F ?_ hA s.heap [] ls hP va_S.rf hl
  intro pc lv τ d hp hA2 H locs ls2 hP2 hS2 hl2
  exact W.vret hx hb hr (fun t ht hW => ⟨⟨τ, rfl, hp, by show va_P _ _ _ t.heap; rw [ht]; exact hP2⟩, hS2.F ht⟩) hS2.2.2 d
/-- what a call site links -/
def CkB (y : MethodName) (cc : ByteArray) (n : Nat) (ret : Option FieldType) (k : Nat) : Prop := Cond.initialized y.cls ∈ lw_g ∧ Cond.code y cc n ret ∈ lw_g ∧ y.cls ≠ "java/lang/invoke/MethodHandle" ∧ y.cls ≠ "java/lang/invoke/VarHandle" ∧ (parseMethodDescriptor y.desc).map (fun d => d.parameters.length) = some k
def CkS (own : String) (idx : Nat) (y : MethodName) (cc : ByteArray) (n : Nat) (ret : Option FieldType) (k : Nat) : Prop := CkB y cc n ret k ∧ Cond.methodLink own idx y ∈ lw_g ∧ Cond.static y ∈ lw_g
def CkN (own : String) (idx : Nat) (y : MethodName) (cc : ByteArray) (n : Nat) (ret : Option FieldType) (k : Nat) : Prop := CkB y cc n ret k ∧ (∃ host, Cond.methodLinkNest own idx y host ∈ nws) ∧ Cond.static y ∈ lw_g
def CkV (own : String) (idx : Nat) (y : MethodName) (cc : ByteArray) (n : Nat) (ret : Option FieldType) (k : Nat) : Prop := CkB y cc n ret k ∧ Cond.methodLink own idx y ∈ lw_g ∧ Cond.instanceMethod y ∈ lw_g ∧ Cond.selects y.cls y y ∈ lw_g
def rmOk (rm' : Room) (n : Nat) (rm : Room) : Prop := rm'.cells = 0 ∧ rm'.slots = 0 ∧ rm'.frames + 1 ≤ rm.frames ∧ 8 + (n + 11) + rm'.locals ≤ rm.locals
theorem gi_of {ws : List Cond} (h : ∀ w ∈ ws, w ∈ lw_g) : GoodIn lw_g ws := fun w hw => ⟨h w hw, good_of_word (goodW w (h w hw))⟩
section Calls
variable {X : Cx} {E : Ev} {l : Launch} {cc : ByteArray} {nL : Nat} {own : String} {rm : Room} {q : Nat → Nat} {sh : List Shp} {σ : Sg} {ck cs : Nat} {Q : State → Prop} {pc pc' : Nat} {lv : List (Nat × Value)} {st rest : List Value} {H : Heap} {locs : List Loc} {ls : Array Slot} {y : MethodName} {bytes : ByteArray} {maxL idx : Nat} {ret : Option FieldType} {rt : FieldType} {rm' : Room} {As : List Value} {Qc : Array Value → State → Outcome → State → Prop}
theorem run_S (F : Fx X E l cc nL own rm) (hM : Met l y (tw y bytes maxL ret) rm' (PreC E q sh σ As) Qc 0 0 E.2.2.1) (k : CkS own idx y bytes maxL ret As.length) (hR : rmOk rm' maxL rm) (hst : st = As.reverse ++ rest) (hW : (rest.map fun v => v.category).sum ≤ 8) (hc : ck ≤ rm.cells ∧ cs ≤ rm.slots) (d : decode cc pc = .ok (.invokestatic idx, 3)) (hA : AD E.2.2.1 q sh.length) (hP : va_P E.1 vwCl (wd E.2.1 q sh σ) H) (hS : va_S E.2.2.1 X.2.2.2.2.1.heap H locs) (hl : lv_has ls nL lv) :
    va_Run X.1 X.2.1 X.2.2.1 X.2.2.2.1 X.2.2.2.2.1 X.2.2.2.2.2.1 X.2.2.2.2.2.2.1 X.2.2.2.2.2.2.2.1 X.2.2.2.2.2.2.2.2.1 X.2.2.2.2.2.2.2.2.2 H locs ck cs 0 0 (F0 X.2.2.2.2.2.1 pc ls st) rest (Qc As.toArray) E.2.2.1 := by
  obtain ⟨hx, hb, hml, hown, hts, hK, hl0, hr0, hN⟩ := F
  refine va_runS (Ts := lw_g) (ws := tw y bytes maxL ret) (n := As.length) ⟨hx, hb, hml, hown, hts⟩ (by rw [hl0]; exact hM) (va_cwS As.length hts (gi_of ?_) rfl hR.1 hR.2.1 ⟨k.1.2.2.1, k.1.2.2.2.1, k.1.2.2.2.2⟩ (by rw [hr0]; exact hR.2.2)) ⟨PreC.blind, fun U hU hWU => ⟨rfl, by rw [hU]; exact hP, hA, hK.move hS hU hWU, fun a ha => hN a (Nat.le_trans hS.1 (by rw [hU] at ha; exact ha))⟩⟩ rfl rfl hl.1 hst (lv_room hW) d (by rw [hr0]; exact hc)
  intro w hw
  rcases List.mem_append.mp hw with h | h
  · simp only [List.mem_cons, List.not_mem_nil, or_false] at h
    rcases h with rfl | rfl | rfl
    · exact k.2.1
    · exact k.2.2
    · exact k.1.1
  · rcases List.mem_cons.mp h with h | h
    · rw [h]; exact k.1.2.1
    · exact h
theorem run_N (F : Fx X E l cc nL own rm) (hM : Met l y (tw y bytes maxL ret) rm' (PreC E q sh σ As) Qc 0 0 E.2.2.1) (k : CkN own idx y bytes maxL ret As.length) (hR : rmOk rm' maxL rm) (hst : st = As.reverse ++ rest) (hW : (rest.map fun v => v.category).sum ≤ 8) (hc : ck ≤ rm.cells ∧ cs ≤ rm.slots) (d : decode cc pc = .ok (.invokestatic idx, 3)) (hA : AD E.2.2.1 q sh.length) (hP : va_P E.1 vwCl (wd E.2.1 q sh σ) H) (hS : va_S E.2.2.1 X.2.2.2.2.1.heap H locs) (hl : lv_has ls nL lv) :
    va_Run X.1 X.2.1 X.2.2.1 X.2.2.2.1 X.2.2.2.2.1 X.2.2.2.2.2.1 X.2.2.2.2.2.2.1 X.2.2.2.2.2.2.2.1 X.2.2.2.2.2.2.2.2.1 X.2.2.2.2.2.2.2.2.2 H locs ck cs 0 0 (F0 X.2.2.2.2.2.1 pc ls st) rest (Qc As.toArray) E.2.2.1 := by
  obtain ⟨hx, hb, hml, hown, hts, hK, hl0, hr0, hN⟩ := F
  obtain ⟨kB, ⟨host, kl⟩, ks⟩ := k
  exact va_runSN (Ts := lw_g) (ws := tw y bytes maxL ret) (n := As.length) ⟨hx, hb, hml, hown, hts⟩ (by rw [hl0]; exact hM) ⟨va_cnB As.length hts (tw_good kB.2.1) rfl hR.1 hR.2.1 (hK.2.1 _ kl) (hts _ kB.1) ⟨kB.2.2.1, kB.2.2.2.1, kB.2.2.2.2⟩ (by rw [hr0]; exact hR.2.2), hts _ ks, trivial⟩ ⟨PreC.blind, fun U hU hWU => ⟨rfl, by rw [hU]; exact hP, hA, hK.move hS hU hWU, fun a ha => hN a (Nat.le_trans hS.1 (by rw [hU] at ha; exact ha))⟩⟩ rfl rfl hl.1 hst (lv_room hW) d (by rw [hr0]; exact hc)
theorem run_V {c0 ci : Nat} {fs : List (Option (Option Nat))} {cq : vw_C} (F : Fx X E l cc nL own rm) (hM : Met l y (tw y bytes maxL ret) rm' (PreC E q sh σ (.ref (q c0) :: As)) Qc 0 0 E.2.2.1) (k : CkV own idx y bytes maxL ret As.length) (hR : rmOk rm' maxL rm) (h0 : sh[c0]? = some (.inr (ci, fs))) (h1 : vwCl[ci]? = some cq) (h2 : cq.1 = y.cls) (hst : st = As.reverse ++ .ref (q c0) :: rest) (hW : (rest.map fun v => v.category).sum ≤ 8) (hc : ck ≤ rm.cells ∧ cs ≤ rm.slots) (d : decode cc pc = .ok (.invokevirtual idx, 3)) (hA : AD E.2.2.1 q sh.length) (hP : va_P E.1 vwCl (wd E.2.1 q sh σ) H) (hS : va_S E.2.2.1 X.2.2.2.2.1.heap H locs) (hl : lv_has ls nL lv) :
    va_Run X.1 X.2.1 X.2.2.1 X.2.2.2.1 X.2.2.2.2.1 X.2.2.2.2.2.1 X.2.2.2.2.2.2.1 X.2.2.2.2.2.2.2.1 X.2.2.2.2.2.2.2.2.1 X.2.2.2.2.2.2.2.2.2 H locs ck cs 0 0 (F0 X.2.2.2.2.2.1 pc ls st) rest (Qc (Value.ref (q c0) :: As).toArray) E.2.2.1 := by
  obtain ⟨hx, hb, hml, hown, hts, hK, hl0, hr0, hN⟩ := F
  have hrec := va_recv hK.1 hP h1 (wd_at h0)
  rw [h2] at hrec
  refine va_runV (Ts := lw_g) (ws := tw y bytes maxL ret) (n := As.length) (C := y.cls) ⟨hx, hb, hml, hown, hts⟩ (by rw [hl0]; exact hM) (cwV As.length hts (gi_of ?_) rfl hR.1 hR.2.1 ⟨rfl, k.1.2.2.1, k.1.2.2.2.1, k.1.2.2.2.2⟩ (by rw [hr0]; exact hR.2.2)) ⟨PreC.blind, hrec, fun U hU hWU => ⟨rfl, by rw [hU]; exact hP, hA, hK.move hS hU hWU, fun a ha => hN a (Nat.le_trans hS.1 (by rw [hU] at ha; exact ha))⟩⟩ rfl rfl hl.1 hst (lv_room hW) d (by rw [hr0]; exact hc)
  intro w hw
  rcases List.mem_append.mp hw with h | h
  · simp only [List.mem_cons, List.not_mem_nil, or_false] at h
    rcases h with rfl | rfl | rfl | rfl
    · exact k.2.1
    · exact k.2.2.1
    · exact k.2.2.2
    · exact k.1.1
  · rcases List.mem_cons.mp h with h | h
    · rw [h]; exact k.1.2.1
    · exact h
theorem go_i {post : Int → Sg → Prop} {a : Array Value} (hr : va_Run X.1 X.2.1 X.2.2.1 X.2.2.2.1 X.2.2.2.2.1 X.2.2.2.2.2.1 X.2.2.2.2.2.2.1 X.2.2.2.2.2.2.2.1 X.2.2.2.2.2.2.2.2.1 X.2.2.2.2.2.2.2.2.2 H locs ck cs 0 0 (F0 X.2.2.2.2.2.1 pc ls st) rest (QI E q sh post a) E.2.2.1) (hA : AD E.2.2.1 q sh.length) (hS : va_S E.2.2.1 X.2.2.2.2.1.heap H locs) (hl : lv_has ls nL lv) (kk : ∀ (z : Int) (τ : Sg), post z τ → G X E nL q sh τ ck cs Q (pc + 3) lv (vI z :: rest)) :
    W X.1 X.2.1 X.2.2.1 X.2.2.2.1 X.2.2.2.2.1 X.2.2.2.2.2.1 X.2.2.2.2.2.2.1 X.2.2.2.2.2.2.2.1 X.2.2.2.2.2.2.2.2.1 X.2.2.2.2.2.2.2.2.2 H locs ck cs Q (F0 X.2.2.2.2.2.1 pc ls st) := by
  refine va_calli hr hS (fun _ _ h => h) (fun _ h => h) (fun r τ t H1 locs1 ht hvm hp hB hz hk hS1 => ?_)
  obtain ⟨z, rfl, hp⟩ := hp
  exact kk z τ hp hA H1 locs1 ls (by rw [← ht]; exact hB) hS1 hl
theorem go_v {post : Sg → Prop} {a : Array Value} (hr : va_Run X.1 X.2.1 X.2.2.1 X.2.2.2.1 X.2.2.2.2.1 X.2.2.2.2.2.1 X.2.2.2.2.2.2.1 X.2.2.2.2.2.2.2.1 X.2.2.2.2.2.2.2.2.1 X.2.2.2.2.2.2.2.2.2 H locs ck cs 0 0 (F0 X.2.2.2.2.2.1 pc ls st) rest (QV E q sh post a) E.2.2.1) (hA : AD E.2.2.1 q sh.length) (hS : va_S E.2.2.1 X.2.2.2.2.1.heap H locs) (hl : lv_has ls nL lv) (kk : ∀ (τ : Sg), post τ → G X E nL q sh τ ck cs Q (pc + 3) lv rest) :
    W X.1 X.2.1 X.2.2.1 X.2.2.2.1 X.2.2.2.2.1 X.2.2.2.2.2.1 X.2.2.2.2.2.2.1 X.2.2.2.2.2.2.2.1 X.2.2.2.2.2.2.2.2.1 X.2.2.2.2.2.2.2.2.2 H locs ck cs Q (F0 X.2.2.2.2.2.1 pc ls st) := by
  refine va_callv hr hS (fun _ _ h => h) (fun _ h => h) (fun τ t H1 locs1 ht hvm hp hB hz hk hS1 => ?_)
  exact kk τ hp hA H1 locs1 ls (by rw [← ht]; exact hB) hS1 hl
theorem g_Si (F : Fx X E l cc nL own rm) {post : Int → Sg → Prop} (c : CI l E y bytes maxL rt rm' q sh σ As post) (k : CkS own idx y bytes maxL (some rt) As.length) (rest : List Value) (d : At cc pc (.invokestatic idx) 3 pc') (hR : rmOk rm' maxL rm) (hc : ck ≤ rm.cells ∧ cs ≤ rm.slots) (hst : st = As.reverse ++ rest) (hW : (rest.map fun v => v.category).sum ≤ 8) (kk : ∀ (z : Int) (τ : Sg), post z τ → G X E nL q sh τ ck cs Q pc' lv (vI z :: rest)) : G X E nL q sh σ ck cs Q pc lv st := by
  intro hA H locs ls hP hS hl
  obtain ⟨d, rfl⟩ := d
  exact go_i (run_S F c k hR hst hW hc d hA hP hS hl) hA hS hl kk
theorem g_Sv (F : Fx X E l cc nL own rm) {post : Sg → Prop} (c : CV l E y bytes maxL rm' q sh σ As post) (k : CkS own idx y bytes maxL none As.length) (rest : List Value) (d : At cc pc (.invokestatic idx) 3 pc') (hR : rmOk rm' maxL rm) (hc : ck ≤ rm.cells ∧ cs ≤ rm.slots) (hst : st = As.reverse ++ rest) (hW : (rest.map fun v => v.category).sum ≤ 8) (kk : ∀ (τ : Sg), post τ → G X E nL q sh τ ck cs Q pc' lv rest) : G X E nL q sh σ ck cs Q pc lv st := by
  intro hA H locs ls hP hS hl
  obtain ⟨d, rfl⟩ := d
  exact go_v (run_S F c k hR hst hW hc d hA hP hS hl) hA hS hl kk
theorem g_Ni (F : Fx X E l cc nL own rm) {post : Int → Sg → Prop} (c : CI l E y bytes maxL rt rm' q sh σ As post) (k : CkN own idx y bytes maxL (some rt) As.length) (rest : List Value) (d : At cc pc (.invokestatic idx) 3 pc') (hR : rmOk rm' maxL rm) (hc : ck ≤ rm.cells ∧ cs ≤ rm.slots) (hst : st = As.reverse ++ rest) (hW : (rest.map fun v => v.category).sum ≤ 8) (kk : ∀ (z : Int) (τ : Sg), post z τ → G X E nL q sh τ ck cs Q pc' lv (vI z :: rest)) : G X E nL q sh σ ck cs Q pc lv st := by
  intro hA H locs ls hP hS hl
  obtain ⟨d, rfl⟩ := d
  exact go_i (run_N F c k hR hst hW hc d hA hP hS hl) hA hS hl kk
theorem g_Nv (F : Fx X E l cc nL own rm) {post : Sg → Prop} (c : CV l E y bytes maxL rm' q sh σ As post) (k : CkN own idx y bytes maxL none As.length) (rest : List Value) (d : At cc pc (.invokestatic idx) 3 pc') (hR : rmOk rm' maxL rm) (hc : ck ≤ rm.cells ∧ cs ≤ rm.slots) (hst : st = As.reverse ++ rest) (hW : (rest.map fun v => v.category).sum ≤ 8) (kk : ∀ (τ : Sg), post τ → G X E nL q sh τ ck cs Q pc' lv rest) : G X E nL q sh σ ck cs Q pc lv st := by
  intro hA H locs ls hP hS hl
  obtain ⟨d, rfl⟩ := d
  exact go_v (run_N F c k hR hst hW hc d hA hP hS hl) hA hS hl kk
theorem g_Vi (F : Fx X E l cc nL own rm) {c0 ci : Nat} {fs : List (Option (Option Nat))} {cq : vw_C} {post : Int → Sg → Prop} (c : CI l E y bytes maxL rt rm' q sh σ (.ref (q c0) :: As) post) (k : CkV own idx y bytes maxL (some rt) As.length) (h0 : sh[c0]? = some (.inr (ci, fs))) (h1 : vwCl[ci]? = some cq) (h2 : cq.1 = y.cls) (rest : List Value) (d : At cc pc (.invokevirtual idx) 3 pc') (hR : rmOk rm' maxL rm) (hc : ck ≤ rm.cells ∧ cs ≤ rm.slots) (hst : st = As.reverse ++ .ref (q c0) :: rest) (hW : (rest.map fun v => v.category).sum ≤ 8) (kk : ∀ (z : Int) (τ : Sg), post z τ → G X E nL q sh τ ck cs Q pc' lv (vI z :: rest)) : G X E nL q sh σ ck cs Q pc lv st := by
  intro hA H locs ls hP hS hl
  obtain ⟨d, rfl⟩ := d
  exact go_i (run_V F c k hR h0 h1 h2 hst hW hc d hA hP hS hl) hA hS hl kk
theorem g_Vv (F : Fx X E l cc nL own rm) {c0 ci : Nat} {fs : List (Option (Option Nat))} {cq : vw_C} {post : Sg → Prop} (c : CV l E y bytes maxL rm' q sh σ (.ref (q c0) :: As) post) (k : CkV own idx y bytes maxL none As.length) (h0 : sh[c0]? = some (.inr (ci, fs))) (h1 : vwCl[ci]? = some cq) (h2 : cq.1 = y.cls) (rest : List Value) (d : At cc pc (.invokevirtual idx) 3 pc') (hR : rmOk rm' maxL rm) (hc : ck ≤ rm.cells ∧ cs ≤ rm.slots) (hst : st = As.reverse ++ .ref (q c0) :: rest) (hW : (rest.map fun v => v.category).sum ≤ 8) (kk : ∀ (τ : Sg), post τ → G X E nL q sh τ ck cs Q pc' lv rest) : G X E nL q sh σ ck cs Q pc lv st := by
  intro hA H locs ls hP hS hl
  obtain ⟨d, rfl⟩ := d
  exact go_v (run_V F c k hR h0 h1 h2 hst hW hc d hA hP hS hl) hA hS hl kk
end Calls
end
section
/-! links, by program -/
theorem inG_0 : ∀ w ∈ u_ws RX0 TX0 6, w ∈ lw_g := by decide +kernel
theorem kl_0 : Kl 0 RX0 TX0 6 tyX0 := ⟨rfl, inG_0, tyX0_ok, nmX0⟩
theorem inG_1 : ∀ w ∈ u_ws RX1 TX1 4, w ∈ lw_g := by decide +kernel
theorem kl_1 : Kl 1 RX1 TX1 4 tyX1 := ⟨rfl, inG_1, tyX1_ok, nmX1⟩
theorem inG_2 : ∀ w ∈ u_ws RX2 TX2 18, w ∈ lw_g := by decide +kernel
theorem kl_2 : Kl 2 RX2 TX2 18 tyX2 := ⟨rfl, inG_2, tyX2_ok, nmX2⟩
theorem inG_3 : ∀ w ∈ u_ws RX3 TX3 2, w ∈ lw_g := by decide +kernel
theorem kl_3 : Kl 3 RX3 TX3 2 tyX3 := ⟨rfl, inG_3, tyX3_ok, nmX3⟩
theorem inG_4 : ∀ w ∈ u_ws RX4 TX4 2, w ∈ lw_g := by decide +kernel
theorem kl_4 : Kl 4 RX4 TX4 2 tyX4 := ⟨rfl, inG_4, tyX4_ok, nmX4⟩
theorem inG_5 : ∀ w ∈ u_ws RX5 TX5 2, w ∈ lw_g := by decide +kernel
theorem kl_5 : Kl 5 RX5 TX5 2 tyX5 := ⟨rfl, inG_5, tyX5_ok, nmX5⟩
theorem inG_6 : ∀ w ∈ u_ws RX7 TX7 4, w ∈ lw_g := by decide +kernel
theorem kl_6 : Kl 6 RX7 TX7 4 tyX7 := ⟨rfl, inG_6, tyX7_ok, nmX7⟩
theorem inG_7 : ∀ w ∈ u_ws RX8 TX8 6, w ∈ lw_g := by decide +kernel
theorem kl_7 : Kl 7 RX8 TX8 6 tyX8 := ⟨rfl, inG_7, tyX8_ok, nmX8⟩
theorem inG_8 : ∀ w ∈ u_ws RX9 TX9 25, w ∈ lw_g := by decide +kernel
theorem kl_8 : Kl 8 RX9 TX9 25 tyX9 := ⟨rfl, inG_8, tyX9_ok, nmX9⟩
theorem kb_X8_init : CkB yX8_init cX8_init 1 none 0 := ⟨mg 56 (by decide +kernel) rfl, mg 72 (by decide +kernel) rfl, by decide +kernel, by decide +kernel, by decide +kernel⟩
theorem kb_X8_allArguments : CkB yX8_allArguments cX8_allArguments 1 (some .int) 1 := ⟨mg 56 (by decide +kernel) rfl, mg 364 (by decide +kernel) rfl, by decide +kernel, by decide +kernel, by decide +kernel⟩
theorem kb_X8_argumentsOf : CkB yX8_argumentsOf cX8_argumentsOf 1 (some .int) 1 := ⟨mg 56 (by decide +kernel) rfl, mg 148 (by decide +kernel) rfl, by decide +kernel, by decide +kernel, by decide +kernel⟩
theorem kb_X8_asAnswer : CkB yX8_asAnswer cX8_asAnswer 1 (some .int) 1 := ⟨mg 56 (by decide +kernel) rfl, mg 645 (by decide +kernel) rfl, by decide +kernel, by decide +kernel, by decide +kernel⟩
theorem kb_X8_body : CkB yX8_body cX8_body 2 (some .int) 1 := ⟨mg 56 (by decide +kernel) rfl, mg 490 (by decide +kernel) rfl, by decide +kernel, by decide +kernel, by decide +kernel⟩
theorem kb_X8_ends : CkB yX8_ends cX8_ends 6 (some .int) 2 := ⟨mg 56 (by decide +kernel) rfl, mg 678 (by decide +kernel) rfl, by decide +kernel, by decide +kernel, by decide +kernel⟩
theorem kb_X8_fault : CkB yX8_fault cX8_fault 2 (some .int) 1 := ⟨mg 56 (by decide +kernel) rfl, mg 465 (by decide +kernel) rfl, by decide +kernel, by decide +kernel, by decide +kernel⟩
theorem kb_X8_hasArgument : CkB yX8_hasArgument cX8_hasArgument 2 (some .boolean) 2 := ⟨mg 56 (by decide +kernel) rfl, mg 414 (by decide +kernel) rfl, by decide +kernel, by decide +kernel, by decide +kernel⟩
theorem kb_X8_hasNode : CkB yX8_hasNode cX8_hasNode 3 (some .boolean) 2 := ⟨mg 56 (by decide +kernel) rfl, mg 509 (by decide +kernel) rfl, by decide +kernel, by decide +kernel, by decide +kernel⟩
theorem kb_X8_isFunction : CkB yX8_isFunction cX8_isFunction 1 (some .boolean) 1 := ⟨mg 56 (by decide +kernel) rfl, mg 115 (by decide +kernel) rfl, by decide +kernel, by decide +kernel, by decide +kernel⟩
theorem kb_X8_isPlace : CkB yX8_isPlace cX8_isPlace 1 (some .boolean) 1 := ⟨mg 56 (by decide +kernel) rfl, mg 122 (by decide +kernel) rfl, by decide +kernel, by decide +kernel, by decide +kernel⟩
theorem kb_X8_isWay : CkB yX8_isWay cX8_isWay 1 (some .boolean) 1 := ⟨mg 56 (by decide +kernel) rfl, mg 525 (by decide +kernel) rfl, by decide +kernel, by decide +kernel, by decide +kernel⟩
theorem kb_X8_joint : CkB yX8_joint cX8_joint 5 (some .int) 2 := ⟨mg 56 (by decide +kernel) rfl, mg 654 (by decide +kernel) rfl, by decide +kernel, by decide +kernel, by decide +kernel⟩
theorem kb_X8_matters : CkB yX8_matters cX8_matters 7 (some .int) 2 := ⟨mg 56 (by decide +kernel) rfl, mg 693 (by decide +kernel) rfl, by decide +kernel, by decide +kernel, by decide +kernel⟩
theorem kb_X8_may : CkB yX8_may cX8_may 3 (some .int) 2 := ⟨mg 56 (by decide +kernel) rfl, mg 640 (by decide +kernel) rfl, by decide +kernel, by decide +kernel, by decide +kernel⟩
theorem kb_X8_must : CkB yX8_must cX8_must 2 (some .int) 1 := ⟨mg 56 (by decide +kernel) rfl, mg 649 (by decide +kernel) rfl, by decide +kernel, by decide +kernel, by decide +kernel⟩
theorem kb_X8_node : CkB yX8_node cX8_node 5 (some .int) 3 := ⟨mg 56 (by decide +kernel) rfl, mg 505 (by decide +kernel) rfl, by decide +kernel, by decide +kernel, by decide +kernel⟩
theorem kb_X8_numbersTold : CkB yX8_numbersTold cX8_numbersTold 4 (some .int) 2 := ⟨mg 56 (by decide +kernel) rfl, mg 683 (by decide +kernel) rfl, by decide +kernel, by decide +kernel, by decide +kernel⟩
theorem kb_X8_part : CkB yX8_part cX8_part 5 (some .int) 3 := ⟨mg 56 (by decide +kernel) rfl, mg 672 (by decide +kernel) rfl, by decide +kernel, by decide +kernel, by decide +kernel⟩
theorem kb_X8_run : CkB yX8_run cX8_run 5 (some .int) 4 := ⟨mg 56 (by decide +kernel) rfl, mg 520 (by decide +kernel) rfl, by decide +kernel, by decide +kernel, by decide +kernel⟩
theorem kb_X8_say : CkB yX8_say cX8_say 2 (some .int) 1 := ⟨mg 56 (by decide +kernel) rfl, mg 445 (by decide +kernel) rfl, by decide +kernel, by decide +kernel, by decide +kernel⟩
theorem kb_X8_shiftOf : CkB yX8_shiftOf cX8_shiftOf 2 (some .int) 2 := ⟨mg 56 (by decide +kernel) rfl, mg 686 (by decide +kernel) rfl, by decide +kernel, by decide +kernel, by decide +kernel⟩
theorem kb_X8_sortOfEnd : CkB yX8_sortOfEnd cX8_sortOfEnd 1 (some .int) 1 := ⟨mg 56 (by decide +kernel) rfl, mg 689 (by decide +kernel) rfl, by decide +kernel, by decide +kernel, by decide +kernel⟩
theorem kb_X8_steps : CkB yX8_steps cX8_steps 6 (some .int) 2 := ⟨mg 56 (by decide +kernel) rfl, mg 697 (by decide +kernel) rfl, by decide +kernel, by decide +kernel, by decide +kernel⟩
theorem kb_X8_told : CkB yX8_told cX8_told 2 (some .int) 1 := ⟨mg 56 (by decide +kernel) rfl, mg 705 (by decide +kernel) rfl, by decide +kernel, by decide +kernel, by decide +kernel⟩
theorem kb_X8_unlike : CkB yX8_unlike cX8_unlike 8 (some .int) 4 := ⟨mg 56 (by decide +kernel) rfl, mg 701 (by decide +kernel) rfl, by decide +kernel, by decide +kernel, by decide +kernel⟩
theorem kb_X8_uses : CkB yX8_uses cX8_uses 3 (some .int) 2 := ⟨mg 56 (by decide +kernel) rfl, mg 666 (by decide +kernel) rfl, by decide +kernel, by decide +kernel, by decide +kernel⟩
theorem kb_X8_wipe : CkB yX8_wipe cX8_wipe 2 (some .int) 0 := ⟨mg 56 (by decide +kernel) rfl, mg 457 (by decide +kernel) rfl, by decide +kernel, by decide +kernel, by decide +kernel⟩
theorem kb_X0_init : CkB yX0_init cX0_init 2 none 0 := ⟨mg 59 (by decide +kernel) rfl, mg 107 (by decide +kernel) rfl, by decide +kernel, by decide +kernel, by decide +kernel⟩
theorem kb_X0_count : CkB yX0_count cX0_count 2 (some .int) 1 := ⟨mg 59 (by decide +kernel) rfl, mg 137 (by decide +kernel) rfl, by decide +kernel, by decide +kernel, by decide +kernel⟩
theorem kb_X0_depthAt : CkB yX0_depthAt cX0_depthAt 2 (some .int) 1 := ⟨mg 59 (by decide +kernel) rfl, mg 167 (by decide +kernel) rfl, by decide +kernel, by decide +kernel, by decide +kernel⟩
theorem kb_X0_kindAt : CkB yX0_kindAt cX0_kindAt 2 (some .int) 1 := ⟨mg 59 (by decide +kernel) rfl, mg 320 (by decide +kernel) rfl, by decide +kernel, by decide +kernel, by decide +kernel⟩
theorem kb_X0_measure : CkB yX0_measure cX0_measure 6 none 1 := ⟨mg 59 (by decide +kernel) rfl, mg 133 (by decide +kernel) rfl, by decide +kernel, by decide +kernel, by decide +kernel⟩
theorem kb_X0_put : CkB yX0_put cX0_put 4 none 2 := ⟨mg 59 (by decide +kernel) rfl, mg 494 (by decide +kernel) rfl, by decide +kernel, by decide +kernel, by decide +kernel⟩
theorem kb_X0_root : CkB yX0_root cX0_root 2 (some .int) 1 := ⟨mg 59 (by decide +kernel) rfl, mg 112 (by decide +kernel) rfl, by decide +kernel, by decide +kernel, by decide +kernel⟩
theorem kb_X0_setDepth : CkB yX0_setDepth cX0_setDepth 3 none 2 := ⟨mg 59 (by decide +kernel) rfl, mg 163 (by decide +kernel) rfl, by decide +kernel, by decide +kernel, by decide +kernel⟩
theorem kb_X0_setSign : CkB yX0_setSign cX0_setSign 3 none 2 := ⟨mg 59 (by decide +kernel) rfl, mg 119 (by decide +kernel) rfl, by decide +kernel, by decide +kernel, by decide +kernel⟩
theorem kb_X0_setSpan : CkB yX0_setSpan cX0_setSpan 3 none 2 := ⟨mg 59 (by decide +kernel) rfl, mg 159 (by decide +kernel) rfl, by decide +kernel, by decide +kernel, by decide +kernel⟩
theorem kb_X0_signAt : CkB yX0_signAt cX0_signAt 2 (some .int) 1 := ⟨mg 59 (by decide +kernel) rfl, mg 141 (by decide +kernel) rfl, by decide +kernel, by decide +kernel, by decide +kernel⟩
theorem kb_X0_spanAt : CkB yX0_spanAt cX0_spanAt 2 (some .int) 1 := ⟨mg 59 (by decide +kernel) rfl, mg 515 (by decide +kernel) rfl, by decide +kernel, by decide +kernel, by decide +kernel⟩
theorem kb_X0_textPlace : CkB yX0_textPlace cX0_textPlace 5 (some .int) 2 := ⟨mg 59 (by decide +kernel) rfl, mg 155 (by decide +kernel) rfl, by decide +kernel, by decide +kernel, by decide +kernel⟩
theorem kb_X0_worthAt : CkB yX0_worthAt cX0_worthAt 2 (some .int) 1 := ⟨mg 59 (by decide +kernel) rfl, mg 324 (by decide +kernel) rfl, by decide +kernel, by decide +kernel, by decide +kernel⟩
theorem kb_X1_init : CkB yX1_init cX1_init 2 none 1 := ⟨mg 62 (by decide +kernel) rfl, mg 210 (by decide +kernel) rfl, by decide +kernel, by decide +kernel, by decide +kernel⟩
theorem kb_X1_callCount : CkB yX1_callCount cX1_callCount 5 (some .int) 2 := ⟨mg 62 (by decide +kernel) rfl, mg 406 (by decide +kernel) rfl, by decide +kernel, by decide +kernel, by decide +kernel⟩
theorem kb_X1_countAt : CkB yX1_countAt cX1_countAt 2 (some .int) 1 := ⟨mg 62 (by decide +kernel) rfl, mg 395 (by decide +kernel) rfl, by decide +kernel, by decide +kernel, by decide +kernel⟩
theorem kb_X1_countIn : CkB yX1_countIn cX1_countIn 5 (some .int) 2 := ⟨mg 62 (by decide +kernel) rfl, mg 378 (by decide +kernel) rfl, by decide +kernel, by decide +kernel, by decide +kernel⟩
theorem kb_X1_countOf : CkB yX1_countOf cX1_countOf 4 (some .int) 2 := ⟨mg 62 (by decide +kernel) rfl, mg 384 (by decide +kernel) rfl, by decide +kernel, by decide +kernel, by decide +kernel⟩
theorem kb_X1_of : CkB yX1_of cX1_of 3 (some .int) 2 := ⟨mg 62 (by decide +kernel) rfl, mg 411 (by decide +kernel) rfl, by decide +kernel, by decide +kernel, by decide +kernel⟩
theorem kb_X1_renew : CkB yX1_renew cX1_renew 4 none 0 := ⟨mg 62 (by decide +kernel) rfl, mg 373 (by decide +kernel) rfl, by decide +kernel, by decide +kernel, by decide +kernel⟩
theorem kb_X1_setCount : CkB yX1_setCount cX1_setCount 3 none 2 := ⟨mg 62 (by decide +kernel) rfl, mg 418 (by decide +kernel) rfl, by decide +kernel, by decide +kernel, by decide +kernel⟩
theorem kb_X1_takeNext : CkB yX1_takeNext cX1_takeNext 3 (some .boolean) 0 := ⟨mg 62 (by decide +kernel) rfl, mg 422 (by decide +kernel) rfl, by decide +kernel, by decide +kernel, by decide +kernel⟩
theorem kb_X1_textCount : CkB yX1_textCount cX1_textCount 3 (some .int) 2 := ⟨mg 62 (by decide +kernel) rfl, mg 390 (by decide +kernel) rfl, by decide +kernel, by decide +kernel, by decide +kernel⟩
theorem kb_X2_init : CkB yX2_init cX2_init 3 none 2 := ⟨mg 64 (by decide +kernel) rfl, mg 231 (by decide +kernel) rfl, by decide +kernel, by decide +kernel, by decide +kernel⟩
theorem kb_X2_acted : CkB yX2_acted cX2_acted 3 (some .int) 3 := ⟨mg 64 (by decide +kernel) rfl, mg 590 (by decide +kernel) rfl, by decide +kernel, by decide +kernel, by decide +kernel⟩
theorem kb_X2_await : CkB yX2_await cX2_await 4 none 3 := ⟨mg 64 (by decide +kernel) rfl, mg 585 (by decide +kernel) rfl, by decide +kernel, by decide +kernel, by decide +kernel⟩
theorem kb_X2_begin : CkB yX2_begin cX2_begin 1 none 0 := ⟨mg 64 (by decide +kernel) rfl, mg 610 (by decide +kernel) rfl, by decide +kernel, by decide +kernel, by decide +kernel⟩
theorem kb_X2_beginArgument : CkB yX2_beginArgument cX2_beginArgument 3 none 1 := ⟨mg 64 (by decide +kernel) rfl, mg 614 (by decide +kernel) rfl, by decide +kernel, by decide +kernel, by decide +kernel⟩
theorem kb_X2_beginCall : CkB yX2_beginCall cX2_beginCall 4 none 1 := ⟨mg 64 (by decide +kernel) rfl, mg 618 (by decide +kernel) rfl, by decide +kernel, by decide +kernel, by decide +kernel⟩
theorem kb_X2_chooseAhead : CkB yX2_chooseAhead cX2_chooseAhead 2 none 0 := ⟨mg 64 (by decide +kernel) rfl, mg 541 (by decide +kernel) rfl, by decide +kernel, by decide +kernel, by decide +kernel⟩
theorem kb_X2_end : CkB yX2_end cX2_end 1 (some .int) 0 := ⟨mg 64 (by decide +kernel) rfl, mg 630 (by decide +kernel) rfl, by decide +kernel, by decide +kernel, by decide +kernel⟩
theorem kb_X2_give : CkB yX2_give cX2_give 2 none 1 := ⟨mg 64 (by decide +kernel) rfl, mg 595 (by decide +kernel) rfl, by decide +kernel, by decide +kernel, by decide +kernel⟩
theorem kb_X2_giveBack : CkB yX2_giveBack cX2_giveBack 4 none 0 := ⟨mg 64 (by decide +kernel) rfl, mg 576 (by decide +kernel) rfl, by decide +kernel, by decide +kernel, by decide +kernel⟩
theorem kb_X2_goOnActing : CkB yX2_goOnActing cX2_goOnActing 4 none 3 := ⟨mg 64 (by decide +kernel) rfl, mg 581 (by decide +kernel) rfl, by decide +kernel, by decide +kernel, by decide +kernel⟩
theorem kb_X2_goOnCalling : CkB yX2_goOnCalling cX2_goOnCalling 6 none 3 := ⟨mg 64 (by decide +kernel) rfl, mg 602 (by decide +kernel) rfl, by decide +kernel, by decide +kernel, by decide +kernel⟩
theorem kb_X2_goTo : CkB yX2_goTo cX2_goTo 3 none 2 := ⟨mg 64 (by decide +kernel) rfl, mg 572 (by decide +kernel) rfl, by decide +kernel, by decide +kernel, by decide +kernel⟩
theorem kb_X2_goToSlot : CkB yX2_goToSlot cX2_goToSlot 2 none 1 := ⟨mg 64 (by decide +kernel) rfl, mg 606 (by decide +kernel) rfl, by decide +kernel, by decide +kernel, by decide +kernel⟩
theorem kb_X2_hang : CkB yX2_hang cX2_hang 4 none 3 := ⟨mg 64 (by decide +kernel) rfl, mg 622 (by decide +kernel) rfl, by decide +kernel, by decide +kernel, by decide +kernel⟩
theorem kb_X2_heldIn : CkB yX2_heldIn cX2_heldIn 2 (some .int) 1 := ⟨mg 64 (by decide +kernel) rfl, mg 562 (by decide +kernel) rfl, by decide +kernel, by decide +kernel, by decide +kernel⟩
theorem kb_X2_isAhead : CkB yX2_isAhead cX2_isAhead 3 (some .boolean) 2 := ⟨mg 64 (by decide +kernel) rfl, mg 566 (by decide +kernel) rfl, by decide +kernel, by decide +kernel, by decide +kernel⟩
theorem kb_X2_isSlot : CkB yX2_isSlot cX2_isSlot 1 (some .boolean) 1 := ⟨mg 64 (by decide +kernel) rfl, mg 558 (by decide +kernel) rfl, by decide +kernel, by decide +kernel, by decide +kernel⟩
theorem kb_X2_play : CkB yX2_play cX2_play 5 none 3 := ⟨mg 64 (by decide +kernel) rfl, mg 537 (by decide +kernel) rfl, by decide +kernel, by decide +kernel, by decide +kernel⟩
theorem kb_X2_setSlot : CkB yX2_setSlot cX2_setSlot 3 none 2 := ⟨mg 64 (by decide +kernel) rfl, mg 555 (by decide +kernel) rfl, by decide +kernel, by decide +kernel, by decide +kernel⟩
theorem kb_X2_slotOf : CkB yX2_slotOf cX2_slotOf 2 (some .int) 2 := ⟨mg 64 (by decide +kernel) rfl, mg 598 (by decide +kernel) rfl, by decide +kernel, by decide +kernel, by decide +kernel⟩
theorem kb_X2_takeTold : CkB yX2_takeTold cX2_takeTold 5 none 2 := ⟨mg 64 (by decide +kernel) rfl, mg 550 (by decide +kernel) rfl, by decide +kernel, by decide +kernel, by decide +kernel⟩
theorem kb_X2_taken : CkB yX2_taken cX2_taken 1 (some .int) 0 := ⟨mg 64 (by decide +kernel) rfl, mg 626 (by decide +kernel) rfl, by decide +kernel, by decide +kernel, by decide +kernel⟩
theorem kb_X3_init : CkB yX3_init cX3_init 2 none 1 := ⟨mg 63 (by decide +kernel) rfl, mg 290 (by decide +kernel) rfl, by decide +kernel, by decide +kernel, by decide +kernel⟩
theorem kb_X3_endIn : CkB yX3_endIn cX3_endIn 1 (some .int) 1 := ⟨mg 63 (by decide +kernel) rfl, mg 633 (by decide +kernel) rfl, by decide +kernel, by decide +kernel, by decide +kernel⟩
theorem kb_X3_forget : CkB yX3_forget cX3_forget 1 none 0 := ⟨mg 63 (by decide +kernel) rfl, mg 500 (by decide +kernel) rfl, by decide +kernel, by decide +kernel, by decide +kernel⟩
theorem kb_X3_of : CkB yX3_of cX3_of 5 (some .int) 3 := ⟨mg 63 (by decide +kernel) rfl, mg 529 (by decide +kernel) rfl, by decide +kernel, by decide +kernel, by decide +kernel⟩
theorem kb_X3_stepsIn : CkB yX3_stepsIn cX3_stepsIn 1 (some .int) 1 := ⟨mg 63 (by decide +kernel) rfl, mg 636 (by decide +kernel) rfl, by decide +kernel, by decide +kernel, by decide +kernel⟩
theorem kb_X4_init : CkB yX4_init cX4_init 1 none 0 := ⟨mg 57 (by decide +kernel) rfl, mg 80 (by decide +kernel) rfl, by decide +kernel, by decide +kernel, by decide +kernel⟩
theorem kb_X4_add : CkB yX4_add cX4_add 2 (some .boolean) 1 := ⟨mg 57 (by decide +kernel) rfl, mg 449 (by decide +kernel) rfl, by decide +kernel, by decide +kernel, by decide +kernel⟩
theorem kb_X4_clear : CkB yX4_clear cX4_clear 1 none 0 := ⟨mg 57 (by decide +kernel) rfl, mg 461 (by decide +kernel) rfl, by decide +kernel, by decide +kernel, by decide +kernel⟩
theorem kb_X4_count : CkB yX4_count cX4_count 1 (some .int) 0 := ⟨mg 57 (by decide +kernel) rfl, mg 453 (by decide +kernel) rfl, by decide +kernel, by decide +kernel, by decide +kernel⟩
theorem kb_X4_signAt : CkB yX4_signAt cX4_signAt 2 (some .int) 1 := ⟨mg 57 (by decide +kernel) rfl, mg 474 (by decide +kernel) rfl, by decide +kernel, by decide +kernel, by decide +kernel⟩
theorem kb_X5_init : CkB yX5_init cX5_init 1 none 0 := ⟨mg 58 (by decide +kernel) rfl, mg 94 (by decide +kernel) rfl, by decide +kernel, by decide +kernel, by decide +kernel⟩
theorem kb_X5_canStand : CkB yX5_canStand cX5_canStand 3 (some .boolean) 2 := ⟨mg 58 (by decide +kernel) rfl, mg 478 (by decide +kernel) rfl, by decide +kernel, by decide +kernel, by decide +kernel⟩
theorem kb_X5_firstFault : CkB yX5_firstFault cX5_firstFault 5 (some .int) 2 := ⟨mg 58 (by decide +kernel) rfl, mg 469 (by decide +kernel) rfl, by decide +kernel, by decide +kernel, by decide +kernel⟩
theorem kb_X5_pass : CkB yX5_pass cX5_pass 2 none 1 := ⟨mg 58 (by decide +kernel) rfl, mg 486 (by decide +kernel) rfl, by decide +kernel, by decide +kernel, by decide +kernel⟩
theorem kb_X6_kindOf : CkB yX6_kindOf cX6_kindOf 1 (some .int) 1 := ⟨mg 60 (by decide +kernel) rfl, mg 125 (by decide +kernel) rfl, by decide +kernel, by decide +kernel, by decide +kernel⟩
theorem kb_X6_textsOf : CkB yX6_textsOf cX6_textsOf 1 (some .int) 1 := ⟨mg 60 (by decide +kernel) rfl, mg 144 (by decide +kernel) rfl, by decide +kernel, by decide +kernel, by decide +kernel⟩
theorem kb_X6_worthOf : CkB yX6_worthOf cX6_worthOf 1 (some .int) 1 := ⟨mg 60 (by decide +kernel) rfl, mg 128 (by decide +kernel) rfl, by decide +kernel, by decide +kernel, by decide +kernel⟩
theorem kb_X7_init : CkB yX7_init cX7_init 2 none 1 := ⟨mg 61 (by decide +kernel) rfl, mg 191 (by decide +kernel) rfl, by decide +kernel, by decide +kernel, by decide +kernel⟩
theorem kb_X7_callRow : CkB yX7_callRow cX7_callRow 7 (some .int) 2 := ⟨mg 61 (by decide +kernel) rfl, mg 343 (by decide +kernel) rfl, by decide +kernel, by decide +kernel, by decide +kernel⟩
theorem kb_X7_fillRows : CkB yX7_fillRows cX7_fillRows 4 none 0 := ⟨mg 61 (by decide +kernel) rfl, mg 310 (by decide +kernel) rfl, by decide +kernel, by decide +kernel, by decide +kernel⟩
theorem kb_X7_has : CkB yX7_has cX7_has 3 (some .boolean) 2 := ⟨mg 61 (by decide +kernel) rfl, mg 348 (by decide +kernel) rfl, by decide +kernel, by decide +kernel, by decide +kernel⟩
theorem kb_X7_hasAt : CkB yX7_hasAt cX7_hasAt 3 (some .boolean) 2 := ⟨mg 61 (by decide +kernel) rfl, mg 369 (by decide +kernel) rfl, by decide +kernel, by decide +kernel, by decide +kernel⟩
theorem kb_X7_isJoint : CkB yX7_isJoint cX7_isJoint 4 (some .boolean) 2 := ⟨mg 61 (by decide +kernel) rfl, mg 658 (by decide +kernel) rfl, by decide +kernel, by decide +kernel, by decide +kernel⟩
theorem kb_X7_neededAt : CkB yX7_neededAt cX7_neededAt 5 (some .int) 2 := ⟨mg 61 (by decide +kernel) rfl, mg 361 (by decide +kernel) rfl, by decide +kernel, by decide +kernel, by decide +kernel⟩
theorem kb_X7_neededOf : CkB yX7_neededOf cX7_neededOf 2 (some .int) 1 := ⟨mg 61 (by decide +kernel) rfl, mg 546 (by decide +kernel) rfl, by decide +kernel, by decide +kernel, by decide +kernel⟩
theorem kb_X7_renew : CkB yX7_renew cX7_renew 3 none 0 := ⟨mg 61 (by decide +kernel) rfl, mg 305 (by decide +kernel) rfl, by decide +kernel, by decide +kernel, by decide +kernel⟩
theorem kb_X7_rowAt : CkB yX7_rowAt cX7_rowAt 2 (some .int) 1 := ⟨mg 61 (by decide +kernel) rfl, mg 338 (by decide +kernel) rfl, by decide +kernel, by decide +kernel, by decide +kernel⟩
theorem kb_X7_rowOf : CkB yX7_rowOf cX7_rowOf 2 (some .int) 1 := ⟨mg 61 (by decide +kernel) rfl, mg 316 (by decide +kernel) rfl, by decide +kernel, by decide +kernel, by decide +kernel⟩
theorem kb_X7_setRow : CkB yX7_setRow cX7_setRow 3 none 2 := ⟨mg 61 (by decide +kernel) rfl, mg 353 (by decide +kernel) rfl, by decide +kernel, by decide +kernel, by decide +kernel⟩
theorem kb_X7_setsWith : CkB yX7_setsWith cX7_setsWith 1 (some .int) 1 := ⟨mg 61 (by decide +kernel) rfl, mg 327 (by decide +kernel) rfl, by decide +kernel, by decide +kernel, by decide +kernel⟩
theorem kb_X7_stops : CkB yX7_stops cX7_stops 3 (some .boolean) 2 := ⟨mg 61 (by decide +kernel) rfl, mg 662 (by decide +kernel) rfl, by decide +kernel, by decide +kernel, by decide +kernel⟩
theorem kb_X7_takeRoots : CkB yX7_takeRoots cX7_takeRoots 4 (some .boolean) 0 := ⟨mg 61 (by decide +kernel) rfl, mg 357 (by decide +kernel) rfl, by decide +kernel, by decide +kernel, by decide +kernel⟩
theorem kb_X7_textRow : CkB yX7_textRow cX7_textRow 3 (some .int) 2 := ⟨mg 61 (by decide +kernel) rfl, mg 333 (by decide +kernel) rfl, by decide +kernel, by decide +kernel, by decide +kernel⟩
theorem kb_X9_init : CkB yX9_init cX9_init 2 none 0 := ⟨mg 67 (by decide +kernel) rfl, mg 710 (by decide +kernel) rfl, by decide +kernel, by decide +kernel, by decide +kernel⟩
theorem kb_X9_act : CkB yX9_act cX9_act 3 (some .int) 3 := ⟨mg 67 (by decide +kernel) rfl, mg 952 (by decide +kernel) rfl, by decide +kernel, by decide +kernel, by decide +kernel⟩
theorem kb_X9_allOf : CkB yX9_allOf cX9_allOf 1 (some .int) 1 := ⟨mg 67 (by decide +kernel) rfl, mg 869 (by decide +kernel) rfl, by decide +kernel, by decide +kernel, by decide +kernel⟩
theorem kb_X9_areNumbers : CkB yX9_areNumbers cX9_areNumbers 4 (some .boolean) 2 := ⟨mg 67 (by decide +kernel) rfl, mg 960 (by decide +kernel) rfl, by decide +kernel, by decide +kernel, by decide +kernel⟩
theorem kb_X9_argumentsOf : CkB yX9_argumentsOf cX9_argumentsOf 1 (some .int) 1 := ⟨mg 67 (by decide +kernel) rfl, mg 718 (by decide +kernel) rfl, by decide +kernel, by decide +kernel, by decide +kernel⟩
theorem kb_X9_begin : CkB yX9_begin cX9_begin 4 none 1 := ⟨mg 67 (by decide +kernel) rfl, mg 925 (by decide +kernel) rfl, by decide +kernel, by decide +kernel, by decide +kernel⟩
theorem kb_X9_beginArgument : CkB yX9_beginArgument cX9_beginArgument 3 none 2 := ⟨mg 67 (by decide +kernel) rfl, mg 941 (by decide +kernel) rfl, by decide +kernel, by decide +kernel, by decide +kernel⟩
theorem kb_X9_beginCall : CkB yX9_beginCall cX9_beginCall 6 none 3 := ⟨mg 67 (by decide +kernel) rfl, mg 929 (by decide +kernel) rfl, by decide +kernel, by decide +kernel, by decide +kernel⟩
theorem kb_X9_body : CkB yX9_body cX9_body 5 (some .int) 1 := ⟨mg 67 (by decide +kernel) rfl, mg 853 (by decide +kernel) rfl, by decide +kernel, by decide +kernel, by decide +kernel⟩
theorem kb_X9_calledBy : CkB yX9_calledBy cX9_calledBy 1 (some .int) 1 := ⟨mg 67 (by decide +kernel) rfl, mg 725 (by decide +kernel) rfl, by decide +kernel, by decide +kernel, by decide +kernel⟩
theorem kb_X9_come : CkB yX9_come cX9_come 2 none 1 := ⟨mg 67 (by decide +kernel) rfl, mg 945 (by decide +kernel) rfl, by decide +kernel, by decide +kernel, by decide +kernel⟩
theorem kb_X9_ends : CkB yX9_ends cX9_ends 5 (some .int) 2 := ⟨mg 67 (by decide +kernel) rfl, mg 956 (by decide +kernel) rfl, by decide +kernel, by decide +kernel, by decide +kernel⟩
theorem kb_X9_fault : CkB yX9_fault cX9_fault 6 (some .int) 1 := ⟨mg 67 (by decide +kernel) rfl, mg 840 (by decide +kernel) rfl, by decide +kernel, by decide +kernel, by decide +kernel⟩
theorem kb_X9_findMay : CkB yX9_findMay cX9_findMay 8 none 2 := ⟨mg 67 (by decide +kernel) rfl, mg 722 (by decide +kernel) rfl, by decide +kernel, by decide +kernel, by decide +kernel⟩
theorem kb_X9_findUses : CkB yX9_findUses cX9_findUses 8 (some .int) 2 := ⟨mg 67 (by decide +kernel) rfl, mg 744 (by decide +kernel) rfl, by decide +kernel, by decide +kernel, by decide +kernel⟩
theorem kb_X9_go : CkB yX9_go cX9_go 3 none 2 := ⟨mg 67 (by decide +kernel) rfl, mg 921 (by decide +kernel) rfl, by decide +kernel, by decide +kernel, by decide +kernel⟩
theorem kb_X9_goAhead : CkB yX9_goAhead cX9_goAhead 6 none 3 := ⟨mg 67 (by decide +kernel) rfl, mg 933 (by decide +kernel) rfl, by decide +kernel, by decide +kernel, by decide +kernel⟩
theorem kb_X9_goOn : CkB yX9_goOn cX9_goOn 5 none 0 := ⟨mg 67 (by decide +kernel) rfl, mg 949 (by decide +kernel) rfl, by decide +kernel, by decide +kernel, by decide +kernel⟩
theorem kb_X9_held : CkB yX9_held cX9_held 1 (some .int) 1 := ⟨mg 67 (by decide +kernel) rfl, mg 750 (by decide +kernel) rfl, by decide +kernel, by decide +kernel, by decide +kernel⟩
theorem kb_X9_in : CkB yX9_in cX9_in 6 (some .boolean) 3 := ⟨mg 67 (by decide +kernel) rfl, mg 740 (by decide +kernel) rfl, by decide +kernel, by decide +kernel, by decide +kernel⟩
theorem kb_X9_isAct : CkB yX9_isAct cX9_isAct 1 (some .boolean) 1 := ⟨mg 67 (by decide +kernel) rfl, mg 732 (by decide +kernel) rfl, by decide +kernel, by decide +kernel, by decide +kernel⟩
theorem kb_X9_isArgument : CkB yX9_isArgument cX9_isArgument 1 (some .boolean) 1 := ⟨mg 67 (by decide +kernel) rfl, mg 735 (by decide +kernel) rfl, by decide +kernel, by decide +kernel, by decide +kernel⟩
theorem kb_X9_isFunction : CkB yX9_isFunction cX9_isFunction 1 (some .boolean) 1 := ⟨mg 67 (by decide +kernel) rfl, mg 843 (by decide +kernel) rfl, by decide +kernel, by decide +kernel, by decide +kernel⟩
theorem kb_X9_isJoint : CkB yX9_isJoint cX9_isJoint 5 (some .boolean) 2 := ⟨mg 67 (by decide +kernel) rfl, mg 889 (by decide +kernel) rfl, by decide +kernel, by decide +kernel, by decide +kernel⟩
theorem kb_X9_isMust : CkB yX9_isMust cX9_isMust 3 (some .boolean) 2 := ⟨mg 67 (by decide +kernel) rfl, mg 877 (by decide +kernel) rfl, by decide +kernel, by decide +kernel, by decide +kernel⟩
theorem kb_X9_isNode : CkB yX9_isNode cX9_isNode 3 (some .boolean) 2 := ⟨mg 67 (by decide +kernel) rfl, mg 862 (by decide +kernel) rfl, by decide +kernel, by decide +kernel, by decide +kernel⟩
theorem kb_X9_isOf : CkB yX9_isOf cX9_isOf 2 (some .boolean) 2 := ⟨mg 67 (by decide +kernel) rfl, mg 896 (by decide +kernel) rfl, by decide +kernel, by decide +kernel, by decide +kernel⟩
theorem kb_X9_isWay : CkB yX9_isWay cX9_isWay 1 (some .boolean) 1 := ⟨mg 67 (by decide +kernel) rfl, mg 910 (by decide +kernel) rfl, by decide +kernel, by decide +kernel, by decide +kernel⟩
theorem kb_X9_joint : CkB yX9_joint cX9_joint 5 (some .int) 2 := ⟨mg 67 (by decide +kernel) rfl, mg 885 (by decide +kernel) rfl, by decide +kernel, by decide +kernel, by decide +kernel⟩
theorem kb_X9_layTables : CkB yX9_layTables cX9_layTables 5 none 0 := ⟨mg 67 (by decide +kernel) rfl, mg 715 (by decide +kernel) rfl, by decide +kernel, by decide +kernel, by decide +kernel⟩
theorem kb_X9_matters : CkB yX9_matters cX9_matters 6 (some .int) 2 := ⟨mg 67 (by decide +kernel) rfl, mg 964 (by decide +kernel) rfl, by decide +kernel, by decide +kernel, by decide +kernel⟩
theorem kb_X9_may : CkB yX9_may cX9_may 3 (some .int) 2 := ⟨mg 67 (by decide +kernel) rfl, mg 866 (by decide +kernel) rfl, by decide +kernel, by decide +kernel, by decide +kernel⟩
theorem kb_X9_mayCome : CkB yX9_mayCome cX9_mayCome 3 (some .boolean) 2 := ⟨mg 67 (by decide +kernel) rfl, mg 881 (by decide +kernel) rfl, by decide +kernel, by decide +kernel, by decide +kernel⟩
theorem kb_X9_most : CkB yX9_most cX9_most 2 (some .int) 2 := ⟨mg 67 (by decide +kernel) rfl, mg 747 (by decide +kernel) rfl, by decide +kernel, by decide +kernel, by decide +kernel⟩
theorem kb_X9_must : CkB yX9_must cX9_must 4 (some .int) 1 := ⟨mg 67 (by decide +kernel) rfl, mg 873 (by decide +kernel) rfl, by decide +kernel, by decide +kernel, by decide +kernel⟩
theorem kb_X9_node : CkB yX9_node cX9_node 5 (some .int) 3 := ⟨mg 67 (by decide +kernel) rfl, mg 858 (by decide +kernel) rfl, by decide +kernel, by decide +kernel, by decide +kernel⟩
theorem kb_X9_part : CkB yX9_part cX9_part 6 (some .int) 3 := ⟨mg 67 (by decide +kernel) rfl, mg 900 (by decide +kernel) rfl, by decide +kernel, by decide +kernel, by decide +kernel⟩
theorem kb_X9_partsOf : CkB yX9_partsOf cX9_partsOf 2 (some .int) 2 := ⟨mg 67 (by decide +kernel) rfl, mg 847 (by decide +kernel) rfl, by decide +kernel, by decide +kernel, by decide +kernel⟩
theorem kb_X9_rowsOf : CkB yX9_rowsOf cX9_rowsOf 1 (some .int) 1 := ⟨mg 67 (by decide +kernel) rfl, mg 907 (by decide +kernel) rfl, by decide +kernel, by decide +kernel, by decide +kernel⟩
theorem kb_X9_run : CkB yX9_run cX9_run 5 (some .int) 4 := ⟨mg 67 (by decide +kernel) rfl, mg 904 (by decide +kernel) rfl, by decide +kernel, by decide +kernel, by decide +kernel⟩
theorem kb_X9_runIt : CkB yX9_runIt cX9_runIt 6 none 3 := ⟨mg 67 (by decide +kernel) rfl, mg 914 (by decide +kernel) rfl, by decide +kernel, by decide +kernel, by decide +kernel⟩
theorem kb_X9_say : CkB yX9_say cX9_say 2 (some .int) 1 := ⟨mg 67 (by decide +kernel) rfl, mg 830 (by decide +kernel) rfl, by decide +kernel, by decide +kernel, by decide +kernel⟩
theorem kb_X9_steps : CkB yX9_steps cX9_steps 5 (some .int) 2 := ⟨mg 67 (by decide +kernel) rfl, mg 968 (by decide +kernel) rfl, by decide +kernel, by decide +kernel, by decide +kernel⟩
theorem kb_X9_textOf : CkB yX9_textOf cX9_textOf 6 (some .int) 3 := ⟨mg 67 (by decide +kernel) rfl, mg 729 (by decide +kernel) rfl, by decide +kernel, by decide +kernel, by decide +kernel⟩
theorem kb_X9_told : CkB yX9_told cX9_told 2 (some .int) 1 := ⟨mg 67 (by decide +kernel) rfl, mg 976 (by decide +kernel) rfl, by decide +kernel, by decide +kernel, by decide +kernel⟩
theorem kb_X9_toldOne : CkB yX9_toldOne cX9_toldOne 5 (some .int) 3 := ⟨mg 67 (by decide +kernel) rfl, mg 917 (by decide +kernel) rfl, by decide +kernel, by decide +kernel, by decide +kernel⟩
theorem kb_X9_unlike : CkB yX9_unlike cX9_unlike 9 (some .int) 4 := ⟨mg 67 (by decide +kernel) rfl, mg 972 (by decide +kernel) rfl, by decide +kernel, by decide +kernel, by decide +kernel⟩
theorem kb_X9_uses : CkB yX9_uses cX9_uses 3 (some .int) 2 := ⟨mg 67 (by decide +kernel) rfl, mg 893 (by decide +kernel) rfl, by decide +kernel, by decide +kernel, by decide +kernel⟩
theorem kb_X9_waitFor : CkB yX9_waitFor cX9_waitFor 5 none 4 := ⟨mg 67 (by decide +kernel) rfl, mg 937 (by decide +kernel) rfl, by decide +kernel, by decide +kernel, by decide +kernel⟩
theorem kb_X9_wipe : CkB yX9_wipe cX9_wipe 2 (some .int) 0 := ⟨mg 67 (by decide +kernel) rfl, mg 836 (by decide +kernel) rfl, by decide +kernel, by decide +kernel, by decide +kernel⟩
theorem kb_J9_max_7cf53 : CkB yJ9_max_7cf53 cJ9_max_7cf53 2 (some .int) 2 := ⟨mg 66 (by decide +kernel) rfl, mg 402 (by decide +kernel) rfl, by decide +kernel, by decide +kernel, by decide +kernel⟩
theorem kb_J9_min_7cf53 : CkB yJ9_min_7cf53 cJ9_min_7cf53 2 (some .int) 2 := ⟨mg 66 (by decide +kernel) rfl, mg 399 (by decide +kernel) rfl, by decide +kernel, by decide +kernel, by decide +kernel⟩
theorem kb_J7_fill_53178 : CkB yJ7_fill_53178 cJ7_fill_53178 4 none 2 := ⟨mg 65 (by decide +kernel) rfl, mg 294 (by decide +kernel) rfl, by decide +kernel, by decide +kernel, by decide +kernel⟩
theorem f_X8_12 : Fl RX8 12 7 0 RX8 TX8 6 tyX8 := ⟨kl_7, by decide, mg 423 (by decide +kernel) rfl⟩
theorem f_X8_19 : Fl RX8 19 7 1 RX8 TX8 6 tyX8 := ⟨kl_7, by decide, mg 424 (by decide +kernel) rfl⟩
theorem f_X8_26 : Fl RX8 26 7 2 RX8 TX8 6 tyX8 := ⟨kl_7, by decide, mg 425 (by decide +kernel) rfl⟩
theorem f_X8_35 : Fl RX8 35 7 3 RX8 TX8 6 tyX8 := ⟨kl_7, by decide, mg 426 (by decide +kernel) rfl⟩
theorem f_X8_42 : Fl RX8 42 7 4 RX8 TX8 6 tyX8 := ⟨kl_7, by decide, mg 427 (by decide +kernel) rfl⟩
theorem f_X8_56 : Fl RX8 56 7 5 RX8 TX8 6 tyX8 := ⟨kl_7, by decide, mg 428 (by decide +kernel) rfl⟩
theorem k_X8_60 : CkV RX8 60 yX7_renew cX7_renew 3 none 0 := ⟨kb_X7_renew, mg 302 (by decide +kernel) rfl, mg 303 (by decide +kernel) rfl, mg 304 (by decide +kernel) rfl⟩
theorem k_X8_63 : CkV RX8 63 yX1_renew cX1_renew 4 none 0 := ⟨kb_X1_renew, mg 370 (by decide +kernel) rfl, mg 371 (by decide +kernel) rfl, mg 372 (by decide +kernel) rfl⟩
theorem k_X8_64 : CkV RX8 64 yX4_add cX4_add 2 (some .boolean) 1 := ⟨kb_X4_add, mg 446 (by decide +kernel) rfl, mg 447 (by decide +kernel) rfl, mg 448 (by decide +kernel) rfl⟩
theorem k_X8_68 : CkV RX8 68 yX4_count cX4_count 1 (some .int) 0 := ⟨kb_X4_count, mg 450 (by decide +kernel) rfl, mg 451 (by decide +kernel) rfl, mg 452 (by decide +kernel) rfl⟩
theorem k_X8_72 : CkV RX8 72 yX4_clear cX4_clear 1 none 0 := ⟨kb_X4_clear, mg 458 (by decide +kernel) rfl, mg 459 (by decide +kernel) rfl, mg 460 (by decide +kernel) rfl⟩
theorem k_X8_75 : CkS RX8 75 yX8_isFunction cX8_isFunction 1 (some .boolean) 1 := ⟨kb_X8_isFunction, mg 149 (by decide +kernel) rfl, mg 114 (by decide +kernel) rfl⟩
theorem k_X8_78 : CkV RX8 78 yX5_firstFault cX5_firstFault 5 (some .int) 2 := ⟨kb_X5_firstFault, mg 466 (by decide +kernel) rfl, mg 467 (by decide +kernel) rfl, mg 468 (by decide +kernel) rfl⟩
theorem k_X8_82 : CkV RX8 82 yX0_put cX0_put 4 none 2 := ⟨kb_X0_put, mg 491 (by decide +kernel) rfl, mg 492 (by decide +kernel) rfl, mg 493 (by decide +kernel) rfl⟩
theorem k_X8_86 : CkV RX8 86 yX3_forget cX3_forget 1 none 0 := ⟨kb_X3_forget, mg 497 (by decide +kernel) rfl, mg 498 (by decide +kernel) rfl, mg 499 (by decide +kernel) rfl⟩
theorem k_X8_89 : CkV RX8 89 yX0_count cX0_count 2 (some .int) 1 := ⟨kb_X0_count, mg 501 (by decide +kernel) rfl, mg 135 (by decide +kernel) rfl, mg 136 (by decide +kernel) rfl⟩
theorem k_X8_92 : CkV RX8 92 yX8_hasNode cX8_hasNode 3 (some .boolean) 2 := ⟨kb_X8_hasNode, mg 506 (by decide +kernel) rfl, mg 508 (by decide +kernel) rfl, mg 20 (by decide +kernel) rfl⟩
theorem k_X8_96 : CkV RX8 96 yX0_root cX0_root 2 (some .int) 1 := ⟨kb_X0_root, mg 510 (by decide +kernel) rfl, mg 110 (by decide +kernel) rfl, mg 111 (by decide +kernel) rfl⟩
theorem k_X8_99 : CkV RX8 99 yX0_signAt cX0_signAt 2 (some .int) 1 := ⟨kb_X0_signAt, mg 511 (by decide +kernel) rfl, mg 139 (by decide +kernel) rfl, mg 140 (by decide +kernel) rfl⟩
theorem k_X8_102 : CkV RX8 102 yX0_spanAt cX0_spanAt 2 (some .int) 1 := ⟨kb_X0_spanAt, mg 512 (by decide +kernel) rfl, mg 513 (by decide +kernel) rfl, mg 514 (by decide +kernel) rfl⟩
theorem k_X8_105 : CkV RX8 105 yX0_depthAt cX0_depthAt 2 (some .int) 1 := ⟨kb_X0_depthAt, mg 516 (by decide +kernel) rfl, mg 165 (by decide +kernel) rfl, mg 166 (by decide +kernel) rfl⟩
theorem k_X8_112 : CkS RX8 112 yX8_isWay cX8_isWay 1 (some .boolean) 1 := ⟨kb_X8_isWay, mg 523 (by decide +kernel) rfl, mg 524 (by decide +kernel) rfl⟩
theorem k_X8_115 : CkV RX8 115 yX3_of cX3_of 5 (some .int) 3 := ⟨kb_X3_of, mg 526 (by decide +kernel) rfl, mg 527 (by decide +kernel) rfl, mg 528 (by decide +kernel) rfl⟩
theorem k_X8_119 : CkS RX8 119 yX3_endIn cX3_endIn 1 (some .int) 1 := ⟨kb_X3_endIn, mg 631 (by decide +kernel) rfl, mg 632 (by decide +kernel) rfl⟩
theorem k_X8_122 : CkS RX8 122 yX3_stepsIn cX3_stepsIn 1 (some .int) 1 := ⟨kb_X3_stepsIn, mg 634 (by decide +kernel) rfl, mg 635 (by decide +kernel) rfl⟩
theorem k_X8_125 : CkS RX8 125 yX8_allArguments cX8_allArguments 1 (some .int) 1 := ⟨kb_X8_allArguments, mg 641 (by decide +kernel) rfl, mg 363 (by decide +kernel) rfl⟩
theorem k_X8_128 : CkV RX8 128 yX7_has cX7_has 3 (some .boolean) 2 := ⟨kb_X7_has, mg 642 (by decide +kernel) rfl, mg 346 (by decide +kernel) rfl, mg 347 (by decide +kernel) rfl⟩
theorem k_X8_131 : CkS RX8 131 yX8_asAnswer cX8_asAnswer 1 (some .int) 1 := ⟨kb_X8_asAnswer, mg 643 (by decide +kernel) rfl, mg 644 (by decide +kernel) rfl⟩
theorem k_X8_135 : CkV RX8 135 yX7_neededOf cX7_neededOf 2 (some .int) 1 := ⟨kb_X7_neededOf, mg 650 (by decide +kernel) rfl, mg 544 (by decide +kernel) rfl, mg 545 (by decide +kernel) rfl⟩
theorem k_X8_138 : CkV RX8 138 yX7_isJoint cX7_isJoint 4 (some .boolean) 2 := ⟨kb_X7_isJoint, mg 655 (by decide +kernel) rfl, mg 656 (by decide +kernel) rfl, mg 657 (by decide +kernel) rfl⟩
theorem k_X8_141 : CkS RX8 141 yX8_hasArgument cX8_hasArgument 2 (some .boolean) 2 := ⟨kb_X8_hasArgument, mg 667 (by decide +kernel) rfl, mg 413 (by decide +kernel) rfl⟩
theorem k_X8_144 : CkV RX8 144 yX1_of cX1_of 3 (some .int) 2 := ⟨kb_X1_of, mg 668 (by decide +kernel) rfl, mg 409 (by decide +kernel) rfl, mg 410 (by decide +kernel) rfl⟩
theorem k_X8_147 : CkV RX8 147 yX7_hasAt cX7_hasAt 3 (some .boolean) 2 := ⟨kb_X7_hasAt, mg 673 (by decide +kernel) rfl, mg 367 (by decide +kernel) rfl, mg 368 (by decide +kernel) rfl⟩
theorem k_X8_150 : CkV RX8 150 yX7_neededAt cX7_neededAt 5 (some .int) 2 := ⟨kb_X7_neededAt, mg 674 (by decide +kernel) rfl, mg 359 (by decide +kernel) rfl, mg 360 (by decide +kernel) rfl⟩
theorem k_X8_156 : CkS RX8 156 yX8_numbersTold cX8_numbersTold 4 (some .int) 2 := ⟨kb_X8_numbersTold, mg 681 (by decide +kernel) rfl, mg 682 (by decide +kernel) rfl⟩
theorem k_X8_159 : CkS RX8 159 yX8_sortOfEnd cX8_sortOfEnd 1 (some .int) 1 := ⟨kb_X8_sortOfEnd, mg 687 (by decide +kernel) rfl, mg 688 (by decide +kernel) rfl⟩
theorem k_X8_162 : CkS RX8 162 yX8_shiftOf cX8_shiftOf 2 (some .int) 2 := ⟨kb_X8_shiftOf, mg 684 (by decide +kernel) rfl, mg 685 (by decide +kernel) rfl⟩
theorem k_X8_168 : CkS RX8 168 yX8_argumentsOf cX8_argumentsOf 1 (some .int) 1 := ⟨kb_X8_argumentsOf, mg 365 (by decide +kernel) rfl, mg 147 (by decide +kernel) rfl⟩
theorem f_X0_9 : Fl RX0 9 0 0 RX0 TX0 6 tyX0 := ⟨kl_0, by decide, mg 168 (by decide +kernel) rfl⟩
theorem f_X0_15 : Fl RX0 15 0 1 RX0 TX0 6 tyX0 := ⟨kl_0, by decide, mg 169 (by decide +kernel) rfl⟩
theorem f_X0_18 : Fl RX0 18 0 2 RX0 TX0 6 tyX0 := ⟨kl_0, by decide, mg 170 (by decide +kernel) rfl⟩
theorem f_X0_21 : Fl RX0 21 0 3 RX0 TX0 6 tyX0 := ⟨kl_0, by decide, mg 171 (by decide +kernel) rfl⟩
theorem f_X0_24 : Fl RX0 24 0 4 RX0 TX0 6 tyX0 := ⟨kl_0, by decide, mg 172 (by decide +kernel) rfl⟩
theorem f_X0_27 : Fl RX0 27 0 5 RX0 TX0 6 tyX0 := ⟨kl_0, by decide, mg 173 (by decide +kernel) rfl⟩
theorem k_X0_30 : CkV RX0 30 yX0_root cX0_root 2 (some .int) 1 := ⟨kb_X0_root, mg 109 (by decide +kernel) rfl, mg 110 (by decide +kernel) rfl, mg 111 (by decide +kernel) rfl⟩
theorem k_X0_34 : CkV RX0 34 yX0_setSign cX0_setSign 3 none 2 := ⟨kb_X0_setSign, mg 116 (by decide +kernel) rfl, mg 118 (by decide +kernel) rfl, mg 0 (by decide +kernel) rfl⟩
theorem k_X0_38 : CkV RX0 38 yX0_measure cX0_measure 6 none 1 := ⟨kb_X0_measure, mg 130 (by decide +kernel) rfl, mg 132 (by decide +kernel) rfl, mg 1 (by decide +kernel) rfl⟩
theorem k_X0_42 : CkN RX0 42 yX8_isFunction cX8_isFunction 1 (some .boolean) 1 := ⟨kb_X8_isFunction, ⟨"NeedTables", by decide +kernel⟩, mg 114 (by decide +kernel) rfl⟩
theorem k_X0_46 : CkV RX0 46 yX4_count cX4_count 1 (some .int) 0 := ⟨kb_X4_count, mg 495 (by decide +kernel) rfl, mg 451 (by decide +kernel) rfl, mg 452 (by decide +kernel) rfl⟩
theorem k_X0_52 : CkV RX0 52 yX4_signAt cX4_signAt 2 (some .int) 1 := ⟨kb_X4_signAt, mg 496 (by decide +kernel) rfl, mg 472 (by decide +kernel) rfl, mg 473 (by decide +kernel) rfl⟩
theorem k_X0_55 : CkN RX0 55 yX8_isPlace cX8_isPlace 1 (some .boolean) 1 := ⟨kb_X8_isPlace, ⟨"NeedTables", by decide +kernel⟩, mg 121 (by decide +kernel) rfl⟩
theorem k_X0_58 : CkS RX0 58 yX6_kindOf cX6_kindOf 1 (some .int) 1 := ⟨kb_X6_kindOf, mg 123 (by decide +kernel) rfl, mg 124 (by decide +kernel) rfl⟩
theorem k_X0_63 : CkS RX0 63 yX6_worthOf cX6_worthOf 1 (some .int) 1 := ⟨kb_X6_worthOf, mg 126 (by decide +kernel) rfl, mg 127 (by decide +kernel) rfl⟩
theorem k_X0_66 : CkV RX0 66 yX0_count cX0_count 2 (some .int) 1 := ⟨kb_X0_count, mg 134 (by decide +kernel) rfl, mg 135 (by decide +kernel) rfl, mg 136 (by decide +kernel) rfl⟩
theorem k_X0_68 : CkV RX0 68 yX0_signAt cX0_signAt 2 (some .int) 1 := ⟨kb_X0_signAt, mg 138 (by decide +kernel) rfl, mg 139 (by decide +kernel) rfl, mg 140 (by decide +kernel) rfl⟩
theorem k_X0_69 : CkS RX0 69 yX6_textsOf cX6_textsOf 1 (some .int) 1 := ⟨kb_X6_textsOf, mg 142 (by decide +kernel) rfl, mg 143 (by decide +kernel) rfl⟩
theorem k_X0_72 : CkV RX0 72 yX0_textPlace cX0_textPlace 5 (some .int) 2 := ⟨kb_X0_textPlace, mg 152 (by decide +kernel) rfl, mg 153 (by decide +kernel) rfl, mg 154 (by decide +kernel) rfl⟩
theorem k_X0_76 : CkV RX0 76 yX0_setSpan cX0_setSpan 3 none 2 := ⟨kb_X0_setSpan, mg 156 (by decide +kernel) rfl, mg 158 (by decide +kernel) rfl, mg 2 (by decide +kernel) rfl⟩
theorem k_X0_79 : CkV RX0 79 yX0_setDepth cX0_setDepth 3 none 2 := ⟨kb_X0_setDepth, mg 160 (by decide +kernel) rfl, mg 162 (by decide +kernel) rfl, mg 3 (by decide +kernel) rfl⟩
theorem k_X0_82 : CkV RX0 82 yX0_depthAt cX0_depthAt 2 (some .int) 1 := ⟨kb_X0_depthAt, mg 164 (by decide +kernel) rfl, mg 165 (by decide +kernel) rfl, mg 166 (by decide +kernel) rfl⟩
theorem f_X1_11 : Fl RX1 11 1 1 RX1 TX1 4 tyX1 := ⟨kl_1, by decide, mg 213 (by decide +kernel) rfl⟩
theorem f_X1_15 : Fl RX1 15 1 2 RX1 TX1 4 tyX1 := ⟨kl_1, by decide, mg 214 (by decide +kernel) rfl⟩
theorem f_X1_18 : Fl RX1 18 1 3 RX1 TX1 4 tyX1 := ⟨kl_1, by decide, mg 215 (by decide +kernel) rfl⟩
theorem f_X1_21 : Fl RX1 21 1 0 RX1 TX1 4 tyX1 := ⟨kl_1, by decide, mg 212 (by decide +kernel) rfl⟩
theorem k_X1_25 : CkS RX1 25 yJ7_fill_53178 cJ7_fill_53178 4 none 2 := ⟨kb_J7_fill_53178, mg 374 (by decide +kernel) rfl, mg 293 (by decide +kernel) rfl⟩
theorem k_X1_31 : CkV RX1 31 yX1_countIn cX1_countIn 5 (some .int) 2 := ⟨kb_X1_countIn, mg 375 (by decide +kernel) rfl, mg 377 (by decide +kernel) rfl, mg 11 (by decide +kernel) rfl⟩
theorem k_X1_35 : CkV RX1 35 yX1_takeNext cX1_takeNext 3 (some .boolean) 0 := ⟨kb_X1_takeNext, mg 419 (by decide +kernel) rfl, mg 421 (by decide +kernel) rfl, mg 17 (by decide +kernel) rfl⟩
theorem k_X1_39 : CkV RX1 39 yX0_root cX0_root 2 (some .int) 1 := ⟨kb_X0_root, mg 379 (by decide +kernel) rfl, mg 110 (by decide +kernel) rfl, mg 111 (by decide +kernel) rfl⟩
theorem k_X1_45 : CkV RX1 45 yX0_count cX0_count 2 (some .int) 1 := ⟨kb_X0_count, mg 380 (by decide +kernel) rfl, mg 135 (by decide +kernel) rfl, mg 136 (by decide +kernel) rfl⟩
theorem k_X1_48 : CkV RX1 48 yX1_countOf cX1_countOf 4 (some .int) 2 := ⟨kb_X1_countOf, mg 381 (by decide +kernel) rfl, mg 383 (by decide +kernel) rfl, mg 12 (by decide +kernel) rfl⟩
theorem k_X1_51 : CkV RX1 51 yX1_setCount cX1_setCount 3 none 2 := ⟨kb_X1_setCount, mg 415 (by decide +kernel) rfl, mg 417 (by decide +kernel) rfl, mg 16 (by decide +kernel) rfl⟩
theorem k_X1_55 : CkV RX1 55 yX1_countAt cX1_countAt 2 (some .int) 1 := ⟨kb_X1_countAt, mg 392 (by decide +kernel) rfl, mg 394 (by decide +kernel) rfl, mg 14 (by decide +kernel) rfl⟩
theorem k_X1_58 : CkV RX1 58 yX0_kindAt cX0_kindAt 2 (some .int) 1 := ⟨kb_X0_kindAt, mg 385 (by decide +kernel) rfl, mg 318 (by decide +kernel) rfl, mg 319 (by decide +kernel) rfl⟩
theorem k_X1_61 : CkV RX1 61 yX0_worthAt cX0_worthAt 2 (some .int) 1 := ⟨kb_X0_worthAt, mg 386 (by decide +kernel) rfl, mg 322 (by decide +kernel) rfl, mg 323 (by decide +kernel) rfl⟩
theorem k_X1_64 : CkV RX1 64 yX1_textCount cX1_textCount 3 (some .int) 2 := ⟨kb_X1_textCount, mg 387 (by decide +kernel) rfl, mg 389 (by decide +kernel) rfl, mg 13 (by decide +kernel) rfl⟩
theorem k_X1_67 : CkS RX1 67 yJ9_min_7cf53 cJ9_min_7cf53 2 (some .int) 2 := ⟨kb_J9_min_7cf53, mg 397 (by decide +kernel) rfl, mg 398 (by decide +kernel) rfl⟩
theorem k_X1_72 : CkS RX1 72 yJ9_max_7cf53 cJ9_max_7cf53 2 (some .int) 2 := ⟨kb_J9_max_7cf53, mg 400 (by decide +kernel) rfl, mg 401 (by decide +kernel) rfl⟩
theorem k_X1_75 : CkV RX1 75 yX1_callCount cX1_callCount 5 (some .int) 2 := ⟨kb_X1_callCount, mg 403 (by decide +kernel) rfl, mg 405 (by decide +kernel) rfl, mg 15 (by decide +kernel) rfl⟩
theorem k_X1_78 : CkN RX1 78 yX8_argumentsOf cX8_argumentsOf 1 (some .int) 1 := ⟨kb_X8_argumentsOf, ⟨"NeedTables", by decide +kernel⟩, mg 147 (by decide +kernel) rfl⟩
theorem k_X1_81 : CkV RX1 81 yX1_of cX1_of 3 (some .int) 2 := ⟨kb_X1_of, mg 408 (by decide +kernel) rfl, mg 409 (by decide +kernel) rfl, mg 410 (by decide +kernel) rfl⟩
theorem k_X1_84 : CkV RX1 84 yX0_textPlace cX0_textPlace 5 (some .int) 2 := ⟨kb_X0_textPlace, mg 391 (by decide +kernel) rfl, mg 153 (by decide +kernel) rfl, mg 154 (by decide +kernel) rfl⟩
theorem k_X1_87 : CkN RX1 87 yX8_isPlace cX8_isPlace 1 (some .boolean) 1 := ⟨kb_X8_isPlace, ⟨"NeedTables", by decide +kernel⟩, mg 121 (by decide +kernel) rfl⟩
theorem k_X1_91 : CkN RX1 91 yX8_hasArgument cX8_hasArgument 2 (some .boolean) 2 := ⟨kb_X8_hasArgument, ⟨"NeedTables", by decide +kernel⟩, mg 413 (by decide +kernel) rfl⟩
theorem f_X2_11 : Fl RX2 11 2 2 RX2 TX2 18 tyX2 := ⟨kl_2, by decide, mg 235 (by decide +kernel) rfl⟩
theorem f_X2_15 : Fl RX2 15 2 3 RX2 TX2 18 tyX2 := ⟨kl_2, by decide, mg 236 (by decide +kernel) rfl⟩
theorem f_X2_18 : Fl RX2 18 2 4 RX2 TX2 18 tyX2 := ⟨kl_2, by decide, mg 237 (by decide +kernel) rfl⟩
theorem f_X2_21 : Fl RX2 21 2 6 RX2 TX2 18 tyX2 := ⟨kl_2, by decide, mg 239 (by decide +kernel) rfl⟩
theorem f_X2_24 : Fl RX2 24 2 7 RX2 TX2 18 tyX2 := ⟨kl_2, by decide, mg 240 (by decide +kernel) rfl⟩
theorem f_X2_27 : Fl RX2 27 2 8 RX2 TX2 18 tyX2 := ⟨kl_2, by decide, mg 241 (by decide +kernel) rfl⟩
theorem f_X2_30 : Fl RX2 30 2 11 RX2 TX2 18 tyX2 := ⟨kl_2, by decide, mg 244 (by decide +kernel) rfl⟩
theorem f_X2_33 : Fl RX2 33 2 0 RX2 TX2 18 tyX2 := ⟨kl_2, by decide, mg 233 (by decide +kernel) rfl⟩
theorem f_X2_37 : Fl RX2 37 2 1 RX2 TX2 18 tyX2 := ⟨kl_2, by decide, mg 234 (by decide +kernel) rfl⟩
theorem f_X2_41 : Fl RX2 41 2 12 RX2 TX2 18 tyX2 := ⟨kl_2, by decide, mg 245 (by decide +kernel) rfl⟩
theorem f_X2_45 : Fl RX2 45 2 13 RX2 TX2 18 tyX2 := ⟨kl_2, by decide, mg 246 (by decide +kernel) rfl⟩
theorem f_X2_48 : Fl RX2 48 2 10 RX2 TX2 18 tyX2 := ⟨kl_2, by decide, mg 243 (by decide +kernel) rfl⟩
theorem f_X2_51 : Fl RX2 51 2 9 RX2 TX2 18 tyX2 := ⟨kl_2, by decide, mg 242 (by decide +kernel) rfl⟩
theorem f_X2_54 : Fl RX2 54 2 5 RX2 TX2 18 tyX2 := ⟨kl_2, by decide, mg 238 (by decide +kernel) rfl⟩
theorem k_X2_57 : CkV RX2 57 yX2_chooseAhead cX2_chooseAhead 2 none 0 := ⟨kb_X2_chooseAhead, mg 538 (by decide +kernel) rfl, mg 540 (by decide +kernel) rfl, mg 21 (by decide +kernel) rfl⟩
theorem k_X2_60 : CkV RX2 60 yX2_takeTold cX2_takeTold 5 none 2 := ⟨kb_X2_takeTold, mg 547 (by decide +kernel) rfl, mg 549 (by decide +kernel) rfl, mg 22 (by decide +kernel) rfl⟩
theorem k_X2_64 : CkV RX2 64 yX0_root cX0_root 2 (some .int) 1 := ⟨kb_X0_root, mg 568 (by decide +kernel) rfl, mg 110 (by decide +kernel) rfl, mg 111 (by decide +kernel) rfl⟩
theorem k_X2_70 : CkV RX2 70 yX2_goTo cX2_goTo 3 none 2 := ⟨kb_X2_goTo, mg 569 (by decide +kernel) rfl, mg 571 (by decide +kernel) rfl, mg 26 (by decide +kernel) rfl⟩
theorem f_X2_73 : Fl RX2 73 2 16 RX2 TX2 18 tyX2 := ⟨kl_2, by decide, mg 249 (by decide +kernel) rfl⟩
theorem k_X2_77 : CkV RX2 77 yX2_giveBack cX2_giveBack 4 none 0 := ⟨kb_X2_giveBack, mg 573 (by decide +kernel) rfl, mg 575 (by decide +kernel) rfl, mg 27 (by decide +kernel) rfl⟩
theorem k_X2_80 : CkV RX2 80 yX2_begin cX2_begin 1 none 0 := ⟨kb_X2_begin, mg 607 (by decide +kernel) rfl, mg 609 (by decide +kernel) rfl, mg 33 (by decide +kernel) rfl⟩
theorem k_X2_83 : CkN RX2 83 yX8_allArguments cX8_allArguments 1 (some .int) 1 := ⟨kb_X8_allArguments, ⟨"NeedTables", by decide +kernel⟩, mg 363 (by decide +kernel) rfl⟩
theorem k_X2_86 : CkV RX2 86 yX7_neededOf cX7_neededOf 2 (some .int) 1 := ⟨kb_X7_neededOf, mg 543 (by decide +kernel) rfl, mg 544 (by decide +kernel) rfl, mg 545 (by decide +kernel) rfl⟩
theorem k_X2_91 : CkN RX2 91 yX8_argumentsOf cX8_argumentsOf 1 (some .int) 1 := ⟨kb_X8_argumentsOf, ⟨"NeedTables", by decide +kernel⟩, mg 147 (by decide +kernel) rfl⟩
theorem k_X2_94 : CkV RX2 94 yX2_setSlot cX2_setSlot 3 none 2 := ⟨kb_X2_setSlot, mg 552 (by decide +kernel) rfl, mg 554 (by decide +kernel) rfl, mg 23 (by decide +kernel) rfl⟩
theorem k_X2_97 : CkV RX2 97 yX2_heldIn cX2_heldIn 2 (some .int) 1 := ⟨kb_X2_heldIn, mg 559 (by decide +kernel) rfl, mg 561 (by decide +kernel) rfl, mg 24 (by decide +kernel) rfl⟩
theorem k_X2_100 : CkV RX2 100 yX2_isAhead cX2_isAhead 3 (some .boolean) 2 := ⟨kb_X2_isAhead, mg 563 (by decide +kernel) rfl, mg 565 (by decide +kernel) rfl, mg 25 (by decide +kernel) rfl⟩
theorem k_X2_104 : CkN RX2 104 yX8_isFunction cX8_isFunction 1 (some .boolean) 1 := ⟨kb_X8_isFunction, ⟨"NeedTables", by decide +kernel⟩, mg 114 (by decide +kernel) rfl⟩
theorem f_X2_108 : Fl RX2 108 2 14 RX2 TX2 18 tyX2 := ⟨kl_2, by decide, mg 247 (by decide +kernel) rfl⟩
theorem k_X2_111 : CkV RX2 111 yX0_kindAt cX0_kindAt 2 (some .int) 1 := ⟨kb_X0_kindAt, mg 577 (by decide +kernel) rfl, mg 318 (by decide +kernel) rfl, mg 319 (by decide +kernel) rfl⟩
theorem k_X2_114 : CkV RX2 114 yX0_worthAt cX0_worthAt 2 (some .int) 1 := ⟨kb_X0_worthAt, mg 587 (by decide +kernel) rfl, mg 322 (by decide +kernel) rfl, mg 323 (by decide +kernel) rfl⟩
theorem k_X2_117 : CkV RX2 117 yX2_give cX2_give 2 none 1 := ⟨kb_X2_give, mg 592 (by decide +kernel) rfl, mg 594 (by decide +kernel) rfl, mg 30 (by decide +kernel) rfl⟩
theorem f_X2_121 : Fl RX2 121 2 15 RX2 TX2 18 tyX2 := ⟨kl_2, by decide, mg 248 (by decide +kernel) rfl⟩
theorem k_X2_124 : CkS RX2 124 yX2_slotOf cX2_slotOf 2 (some .int) 2 := ⟨kb_X2_slotOf, mg 596 (by decide +kernel) rfl, mg 597 (by decide +kernel) rfl⟩
theorem k_X2_128 : CkV RX2 128 yX2_beginArgument cX2_beginArgument 3 none 1 := ⟨kb_X2_beginArgument, mg 611 (by decide +kernel) rfl, mg 613 (by decide +kernel) rfl, mg 34 (by decide +kernel) rfl⟩
theorem k_X2_131 : CkV RX2 131 yX2_await cX2_await 4 none 3 := ⟨kb_X2_await, mg 582 (by decide +kernel) rfl, mg 584 (by decide +kernel) rfl, mg 29 (by decide +kernel) rfl⟩
theorem k_X2_135 : CkV RX2 135 yX2_beginCall cX2_beginCall 4 none 1 := ⟨kb_X2_beginCall, mg 615 (by decide +kernel) rfl, mg 617 (by decide +kernel) rfl, mg 35 (by decide +kernel) rfl⟩
theorem k_X2_138 : CkV RX2 138 yX2_goToSlot cX2_goToSlot 2 none 1 := ⟨kb_X2_goToSlot, mg 603 (by decide +kernel) rfl, mg 605 (by decide +kernel) rfl, mg 32 (by decide +kernel) rfl⟩
theorem k_X2_141 : CkV RX2 141 yX0_textPlace cX0_textPlace 5 (some .int) 2 := ⟨kb_X0_textPlace, mg 586 (by decide +kernel) rfl, mg 153 (by decide +kernel) rfl, mg 154 (by decide +kernel) rfl⟩
theorem k_X2_144 : CkV RX2 144 yX2_hang cX2_hang 4 none 3 := ⟨kb_X2_hang, mg 619 (by decide +kernel) rfl, mg 621 (by decide +kernel) rfl, mg 36 (by decide +kernel) rfl⟩
theorem k_X2_147 : CkV RX2 147 yX2_goOnCalling cX2_goOnCalling 6 none 3 := ⟨kb_X2_goOnCalling, mg 599 (by decide +kernel) rfl, mg 601 (by decide +kernel) rfl, mg 31 (by decide +kernel) rfl⟩
theorem f_X2_150 : Fl RX2 150 2 17 RX2 TX2 18 tyX2 := ⟨kl_2, by decide, mg 250 (by decide +kernel) rfl⟩
theorem k_X2_153 : CkV RX2 153 yX2_goOnActing cX2_goOnActing 4 none 3 := ⟨kb_X2_goOnActing, mg 578 (by decide +kernel) rfl, mg 580 (by decide +kernel) rfl, mg 28 (by decide +kernel) rfl⟩
theorem k_X2_156 : CkS RX2 156 yX2_acted cX2_acted 3 (some .int) 3 := ⟨kb_X2_acted, mg 588 (by decide +kernel) rfl, mg 589 (by decide +kernel) rfl⟩
theorem k_X2_160 : CkS RX2 160 yJ9_min_7cf53 cJ9_min_7cf53 2 (some .int) 2 := ⟨kb_J9_min_7cf53, mg 591 (by decide +kernel) rfl, mg 398 (by decide +kernel) rfl⟩
theorem k_X2_165 : CkS RX2 165 yX2_isSlot cX2_isSlot 1 (some .boolean) 1 := ⟨kb_X2_isSlot, mg 556 (by decide +kernel) rfl, mg 557 (by decide +kernel) rfl⟩
theorem f_X3_11 : Fl RX3 11 3 1 RX3 TX3 2 tyX3 := ⟨kl_3, by decide, mg 296 (by decide +kernel) rfl⟩
theorem f_X3_15 : Fl RX3 15 3 0 RX3 TX3 2 tyX3 := ⟨kl_3, by decide, mg 295 (by decide +kernel) rfl⟩
theorem k_X3_19 : CkS RX3 19 yJ7_fill_53178 cJ7_fill_53178 4 none 2 := ⟨kb_J7_fill_53178, mg 292 (by decide +kernel) rfl, mg 293 (by decide +kernel) rfl⟩
theorem k_X3_25 : CkN RX3 25 yX8_isFunction cX8_isFunction 1 (some .boolean) 1 := ⟨kb_X8_isFunction, ⟨"NeedTables", by decide +kernel⟩, mg 114 (by decide +kernel) rfl⟩
theorem k_X3_35 : CkV RX3 35 yX2_play cX2_play 5 none 3 := ⟨kb_X2_play, mg 534 (by decide +kernel) rfl, mg 535 (by decide +kernel) rfl, mg 536 (by decide +kernel) rfl⟩
theorem k_X3_41 : CkV RX3 41 yX2_taken cX2_taken 1 (some .int) 0 := ⟨kb_X2_taken, mg 623 (by decide +kernel) rfl, mg 624 (by decide +kernel) rfl, mg 625 (by decide +kernel) rfl⟩
theorem k_X3_45 : CkV RX3 45 yX2_end cX2_end 1 (some .int) 0 := ⟨kb_X2_end, mg 627 (by decide +kernel) rfl, mg 628 (by decide +kernel) rfl, mg 629 (by decide +kernel) rfl⟩
theorem f_X4_9 : Fl RX4 9 4 0 RX4 TX4 2 tyX4 := ⟨kl_4, by decide, mg 82 (by decide +kernel) rfl⟩
theorem f_X4_15 : Fl RX4 15 4 1 RX4 TX4 2 tyX4 := ⟨kl_4, by decide, mg 83 (by decide +kernel) rfl⟩
theorem f_X5_9 : Fl RX5 9 5 0 RX5 TX5 2 tyX5 := ⟨kl_5, by decide, mg 96 (by decide +kernel) rfl⟩
theorem f_X5_15 : Fl RX5 15 5 1 RX5 TX5 2 tyX5 := ⟨kl_5, by decide, mg 97 (by decide +kernel) rfl⟩
theorem k_X5_19 : CkV RX5 19 yX4_count cX4_count 1 (some .int) 0 := ⟨kb_X4_count, mg 470 (by decide +kernel) rfl, mg 451 (by decide +kernel) rfl, mg 452 (by decide +kernel) rfl⟩
theorem k_X5_25 : CkV RX5 25 yX4_signAt cX4_signAt 2 (some .int) 1 := ⟨kb_X4_signAt, mg 471 (by decide +kernel) rfl, mg 472 (by decide +kernel) rfl, mg 473 (by decide +kernel) rfl⟩
theorem k_X5_29 : CkV RX5 29 yX5_canStand cX5_canStand 3 (some .boolean) 2 := ⟨kb_X5_canStand, mg 475 (by decide +kernel) rfl, mg 477 (by decide +kernel) rfl, mg 18 (by decide +kernel) rfl⟩
theorem k_X5_33 : CkS RX5 33 yX6_textsOf cX6_textsOf 1 (some .int) 1 := ⟨kb_X6_textsOf, mg 482 (by decide +kernel) rfl, mg 143 (by decide +kernel) rfl⟩
theorem k_X5_38 : CkV RX5 38 yX5_pass cX5_pass 2 none 1 := ⟨kb_X5_pass, mg 483 (by decide +kernel) rfl, mg 485 (by decide +kernel) rfl, mg 19 (by decide +kernel) rfl⟩
theorem k_X5_42 : CkS RX5 42 yX6_kindOf cX6_kindOf 1 (some .int) 1 := ⟨kb_X6_kindOf, mg 479 (by decide +kernel) rfl, mg 124 (by decide +kernel) rfl⟩
theorem k_X5_45 : CkS RX5 45 yX6_worthOf cX6_worthOf 1 (some .int) 1 := ⟨kb_X6_worthOf, mg 480 (by decide +kernel) rfl, mg 127 (by decide +kernel) rfl⟩
theorem k_X5_48 : CkN RX5 48 yX8_hasArgument cX8_hasArgument 2 (some .boolean) 2 := ⟨kb_X8_hasArgument, ⟨"NeedTables", by decide +kernel⟩, mg 413 (by decide +kernel) rfl⟩
theorem k_X6_9 : CkS RX6 9 yX6_kindOf cX6_kindOf 1 (some .int) 1 := ⟨kb_X6_kindOf, mg 129 (by decide +kernel) rfl, mg 124 (by decide +kernel) rfl⟩
theorem k_X6_13 : CkS RX6 13 yX6_worthOf cX6_worthOf 1 (some .int) 1 := ⟨kb_X6_worthOf, mg 145 (by decide +kernel) rfl, mg 127 (by decide +kernel) rfl⟩
theorem k_X6_16 : CkN RX6 16 yX8_argumentsOf cX8_argumentsOf 1 (some .int) 1 := ⟨kb_X8_argumentsOf, ⟨"NeedTables", by decide +kernel⟩, mg 147 (by decide +kernel) rfl⟩
theorem f_X7_11 : Fl RX7 11 6 1 RX7 TX7 4 tyX7 := ⟨kl_6, by decide, mg 194 (by decide +kernel) rfl⟩
theorem f_X7_15 : Fl RX7 15 6 2 RX7 TX7 4 tyX7 := ⟨kl_6, by decide, mg 195 (by decide +kernel) rfl⟩
theorem f_X7_18 : Fl RX7 18 6 3 RX7 TX7 4 tyX7 := ⟨kl_6, by decide, mg 196 (by decide +kernel) rfl⟩
theorem f_X7_21 : Fl RX7 21 6 0 RX7 TX7 4 tyX7 := ⟨kl_6, by decide, mg 193 (by decide +kernel) rfl⟩
theorem k_X7_25 : CkS RX7 25 yJ7_fill_53178 cJ7_fill_53178 4 none 2 := ⟨kb_J7_fill_53178, mg 306 (by decide +kernel) rfl, mg 293 (by decide +kernel) rfl⟩
theorem k_X7_31 : CkV RX7 31 yX7_fillRows cX7_fillRows 4 none 0 := ⟨kb_X7_fillRows, mg 307 (by decide +kernel) rfl, mg 309 (by decide +kernel) rfl, mg 4 (by decide +kernel) rfl⟩
theorem k_X7_34 : CkV RX7 34 yX7_takeRoots cX7_takeRoots 4 (some .boolean) 0 := ⟨kb_X7_takeRoots, mg 354 (by decide +kernel) rfl, mg 356 (by decide +kernel) rfl, mg 10 (by decide +kernel) rfl⟩
theorem k_X7_38 : CkV RX7 38 yX0_root cX0_root 2 (some .int) 1 := ⟨kb_X0_root, mg 311 (by decide +kernel) rfl, mg 110 (by decide +kernel) rfl, mg 111 (by decide +kernel) rfl⟩
theorem k_X7_44 : CkV RX7 44 yX7_neededAt cX7_neededAt 5 (some .int) 2 := ⟨kb_X7_neededAt, mg 358 (by decide +kernel) rfl, mg 359 (by decide +kernel) rfl, mg 360 (by decide +kernel) rfl⟩
theorem k_X7_48 : CkV RX7 48 yX0_count cX0_count 2 (some .int) 1 := ⟨kb_X0_count, mg 312 (by decide +kernel) rfl, mg 135 (by decide +kernel) rfl, mg 136 (by decide +kernel) rfl⟩
theorem k_X7_51 : CkV RX7 51 yX7_rowOf cX7_rowOf 2 (some .int) 1 := ⟨kb_X7_rowOf, mg 313 (by decide +kernel) rfl, mg 315 (by decide +kernel) rfl, mg 5 (by decide +kernel) rfl⟩
theorem k_X7_54 : CkV RX7 54 yX7_setRow cX7_setRow 3 none 2 := ⟨kb_X7_setRow, mg 350 (by decide +kernel) rfl, mg 352 (by decide +kernel) rfl, mg 9 (by decide +kernel) rfl⟩
theorem k_X7_58 : CkV RX7 58 yX7_rowAt cX7_rowAt 2 (some .int) 1 := ⟨kb_X7_rowAt, mg 335 (by decide +kernel) rfl, mg 337 (by decide +kernel) rfl, mg 7 (by decide +kernel) rfl⟩
theorem k_X7_61 : CkV RX7 61 yX0_kindAt cX0_kindAt 2 (some .int) 1 := ⟨kb_X0_kindAt, mg 317 (by decide +kernel) rfl, mg 318 (by decide +kernel) rfl, mg 319 (by decide +kernel) rfl⟩
theorem k_X7_64 : CkV RX7 64 yX0_worthAt cX0_worthAt 2 (some .int) 1 := ⟨kb_X0_worthAt, mg 321 (by decide +kernel) rfl, mg 322 (by decide +kernel) rfl, mg 323 (by decide +kernel) rfl⟩
theorem k_X7_67 : CkS RX7 67 yX7_setsWith cX7_setsWith 1 (some .int) 1 := ⟨kb_X7_setsWith, mg 325 (by decide +kernel) rfl, mg 326 (by decide +kernel) rfl⟩
theorem k_X7_70 : CkV RX7 70 yX7_textRow cX7_textRow 3 (some .int) 2 := ⟨kb_X7_textRow, mg 330 (by decide +kernel) rfl, mg 332 (by decide +kernel) rfl, mg 6 (by decide +kernel) rfl⟩
theorem k_X7_73 : CkV RX7 73 yX7_callRow cX7_callRow 7 (some .int) 2 := ⟨kb_X7_callRow, mg 340 (by decide +kernel) rfl, mg 342 (by decide +kernel) rfl, mg 8 (by decide +kernel) rfl⟩
theorem k_X7_76 : CkN RX7 76 yX8_argumentsOf cX8_argumentsOf 1 (some .int) 1 := ⟨kb_X8_argumentsOf, ⟨"NeedTables", by decide +kernel⟩, mg 147 (by decide +kernel) rfl⟩
theorem k_X7_79 : CkV RX7 79 yX7_has cX7_has 3 (some .boolean) 2 := ⟨kb_X7_has, mg 345 (by decide +kernel) rfl, mg 346 (by decide +kernel) rfl, mg 347 (by decide +kernel) rfl⟩
theorem k_X7_83 : CkV RX7 83 yX0_textPlace cX0_textPlace 5 (some .int) 2 := ⟨kb_X0_textPlace, mg 334 (by decide +kernel) rfl, mg 153 (by decide +kernel) rfl, mg 154 (by decide +kernel) rfl⟩
theorem k_X7_86 : CkN RX7 86 yX8_isPlace cX8_isPlace 1 (some .boolean) 1 := ⟨kb_X8_isPlace, ⟨"NeedTables", by decide +kernel⟩, mg 121 (by decide +kernel) rfl⟩
theorem k_X7_93 : CkN RX7 93 yX8_isFunction cX8_isFunction 1 (some .boolean) 1 := ⟨kb_X8_isFunction, ⟨"NeedTables", by decide +kernel⟩, mg 114 (by decide +kernel) rfl⟩
theorem k_X7_96 : CkN RX7 96 yX8_allArguments cX8_allArguments 1 (some .int) 1 := ⟨kb_X8_allArguments, ⟨"NeedTables", by decide +kernel⟩, mg 363 (by decide +kernel) rfl⟩
theorem k_X7_99 : CkV RX7 99 yX7_hasAt cX7_hasAt 3 (some .boolean) 2 := ⟨kb_X7_hasAt, mg 366 (by decide +kernel) rfl, mg 367 (by decide +kernel) rfl, mg 368 (by decide +kernel) rfl⟩
theorem k_X7_102 : CkV RX7 102 yX7_stops cX7_stops 3 (some .boolean) 2 := ⟨kb_X7_stops, mg 659 (by decide +kernel) rfl, mg 661 (by decide +kernel) rfl, mg 37 (by decide +kernel) rfl⟩
theorem k_L_13 : CkV RL 13 yX8_say cX8_say 2 (some .int) 1 := ⟨kb_X8_say, mg 442 (by decide +kernel) rfl, mg 443 (by decide +kernel) rfl, mg 444 (by decide +kernel) rfl⟩
theorem k_L_17 : CkV RL 17 yX9_say cX9_say 2 (some .int) 1 := ⟨kb_X9_say, mg 827 (by decide +kernel) rfl, mg 828 (by decide +kernel) rfl, mg 829 (by decide +kernel) rfl⟩
theorem k_L_18 : CkV RL 18 yX8_wipe cX8_wipe 2 (some .int) 0 := ⟨kb_X8_wipe, mg 454 (by decide +kernel) rfl, mg 455 (by decide +kernel) rfl, mg 456 (by decide +kernel) rfl⟩
theorem k_L_22 : CkV RL 22 yX9_wipe cX9_wipe 2 (some .int) 0 := ⟨kb_X9_wipe, mg 833 (by decide +kernel) rfl, mg 834 (by decide +kernel) rfl, mg 835 (by decide +kernel) rfl⟩
theorem k_L_23 : CkV RL 23 yX8_fault cX8_fault 2 (some .int) 1 := ⟨kb_X8_fault, mg 462 (by decide +kernel) rfl, mg 463 (by decide +kernel) rfl, mg 464 (by decide +kernel) rfl⟩
theorem k_L_26 : CkV RL 26 yX9_fault cX9_fault 6 (some .int) 1 := ⟨kb_X9_fault, mg 837 (by decide +kernel) rfl, mg 838 (by decide +kernel) rfl, mg 839 (by decide +kernel) rfl⟩
theorem k_L_27 : CkV RL 27 yX8_body cX8_body 2 (some .int) 1 := ⟨kb_X8_body, mg 487 (by decide +kernel) rfl, mg 488 (by decide +kernel) rfl, mg 489 (by decide +kernel) rfl⟩
theorem k_L_30 : CkV RL 30 yX9_body cX9_body 5 (some .int) 1 := ⟨kb_X9_body, mg 850 (by decide +kernel) rfl, mg 851 (by decide +kernel) rfl, mg 852 (by decide +kernel) rfl⟩
theorem k_L_31 : CkV RL 31 yX8_node cX8_node 5 (some .int) 3 := ⟨kb_X8_node, mg 502 (by decide +kernel) rfl, mg 503 (by decide +kernel) rfl, mg 504 (by decide +kernel) rfl⟩
theorem k_L_35 : CkV RL 35 yX9_node cX9_node 5 (some .int) 3 := ⟨kb_X9_node, mg 855 (by decide +kernel) rfl, mg 856 (by decide +kernel) rfl, mg 857 (by decide +kernel) rfl⟩
theorem k_L_36 : CkV RL 36 yX8_run cX8_run 5 (some .int) 4 := ⟨kb_X8_run, mg 517 (by decide +kernel) rfl, mg 518 (by decide +kernel) rfl, mg 519 (by decide +kernel) rfl⟩
theorem k_L_40 : CkV RL 40 yX9_run cX9_run 5 (some .int) 4 := ⟨kb_X9_run, mg 901 (by decide +kernel) rfl, mg 902 (by decide +kernel) rfl, mg 903 (by decide +kernel) rfl⟩
theorem k_L_41 : CkV RL 41 yX8_may cX8_may 3 (some .int) 2 := ⟨kb_X8_may, mg 637 (by decide +kernel) rfl, mg 638 (by decide +kernel) rfl, mg 639 (by decide +kernel) rfl⟩
theorem k_L_45 : CkV RL 45 yX9_may cX9_may 3 (some .int) 2 := ⟨kb_X9_may, mg 863 (by decide +kernel) rfl, mg 864 (by decide +kernel) rfl, mg 865 (by decide +kernel) rfl⟩
theorem k_L_46 : CkV RL 46 yX8_must cX8_must 2 (some .int) 1 := ⟨kb_X8_must, mg 646 (by decide +kernel) rfl, mg 647 (by decide +kernel) rfl, mg 648 (by decide +kernel) rfl⟩
theorem k_L_49 : CkV RL 49 yX9_must cX9_must 4 (some .int) 1 := ⟨kb_X9_must, mg 870 (by decide +kernel) rfl, mg 871 (by decide +kernel) rfl, mg 872 (by decide +kernel) rfl⟩
theorem k_L_50 : CkV RL 50 yX8_joint cX8_joint 5 (some .int) 2 := ⟨kb_X8_joint, mg 651 (by decide +kernel) rfl, mg 652 (by decide +kernel) rfl, mg 653 (by decide +kernel) rfl⟩
theorem k_L_53 : CkV RL 53 yX9_joint cX9_joint 5 (some .int) 2 := ⟨kb_X9_joint, mg 882 (by decide +kernel) rfl, mg 883 (by decide +kernel) rfl, mg 884 (by decide +kernel) rfl⟩
theorem k_L_54 : CkV RL 54 yX8_uses cX8_uses 3 (some .int) 2 := ⟨kb_X8_uses, mg 663 (by decide +kernel) rfl, mg 664 (by decide +kernel) rfl, mg 665 (by decide +kernel) rfl⟩
theorem k_L_57 : CkV RL 57 yX9_uses cX9_uses 3 (some .int) 2 := ⟨kb_X9_uses, mg 890 (by decide +kernel) rfl, mg 891 (by decide +kernel) rfl, mg 892 (by decide +kernel) rfl⟩
theorem k_L_58 : CkV RL 58 yX8_part cX8_part 5 (some .int) 3 := ⟨kb_X8_part, mg 669 (by decide +kernel) rfl, mg 670 (by decide +kernel) rfl, mg 671 (by decide +kernel) rfl⟩
theorem k_L_61 : CkV RL 61 yX9_part cX9_part 6 (some .int) 3 := ⟨kb_X9_part, mg 897 (by decide +kernel) rfl, mg 898 (by decide +kernel) rfl, mg 899 (by decide +kernel) rfl⟩
theorem k_L_62 : CkV RL 62 yX8_ends cX8_ends 6 (some .int) 2 := ⟨kb_X8_ends, mg 675 (by decide +kernel) rfl, mg 676 (by decide +kernel) rfl, mg 677 (by decide +kernel) rfl⟩
theorem k_L_65 : CkV RL 65 yX9_ends cX9_ends 5 (some .int) 2 := ⟨kb_X9_ends, mg 953 (by decide +kernel) rfl, mg 954 (by decide +kernel) rfl, mg 955 (by decide +kernel) rfl⟩
theorem k_L_66 : CkV RL 66 yX8_matters cX8_matters 7 (some .int) 2 := ⟨kb_X8_matters, mg 690 (by decide +kernel) rfl, mg 691 (by decide +kernel) rfl, mg 692 (by decide +kernel) rfl⟩
theorem k_L_69 : CkV RL 69 yX9_matters cX9_matters 6 (some .int) 2 := ⟨kb_X9_matters, mg 961 (by decide +kernel) rfl, mg 962 (by decide +kernel) rfl, mg 963 (by decide +kernel) rfl⟩
theorem k_L_70 : CkV RL 70 yX8_steps cX8_steps 6 (some .int) 2 := ⟨kb_X8_steps, mg 694 (by decide +kernel) rfl, mg 695 (by decide +kernel) rfl, mg 696 (by decide +kernel) rfl⟩
theorem k_L_73 : CkV RL 73 yX9_steps cX9_steps 5 (some .int) 2 := ⟨kb_X9_steps, mg 965 (by decide +kernel) rfl, mg 966 (by decide +kernel) rfl, mg 967 (by decide +kernel) rfl⟩
theorem k_L_74 : CkV RL 74 yX8_unlike cX8_unlike 8 (some .int) 4 := ⟨kb_X8_unlike, mg 698 (by decide +kernel) rfl, mg 699 (by decide +kernel) rfl, mg 700 (by decide +kernel) rfl⟩
theorem k_L_77 : CkV RL 77 yX9_unlike cX9_unlike 9 (some .int) 4 := ⟨kb_X9_unlike, mg 969 (by decide +kernel) rfl, mg 970 (by decide +kernel) rfl, mg 971 (by decide +kernel) rfl⟩
theorem k_L_78 : CkV RL 78 yX8_told cX8_told 2 (some .int) 1 := ⟨kb_X8_told, mg 702 (by decide +kernel) rfl, mg 703 (by decide +kernel) rfl, mg 704 (by decide +kernel) rfl⟩
theorem k_L_81 : CkV RL 81 yX9_told cX9_told 2 (some .int) 1 := ⟨kb_X9_told, mg 973 (by decide +kernel) rfl, mg 974 (by decide +kernel) rfl, mg 975 (by decide +kernel) rfl⟩
theorem f_X9_7 : Fl RX9 7 8 0 RX9 TX9 25 tyX9 := ⟨kl_8, by decide, mg 751 (by decide +kernel) rfl⟩
theorem f_X9_13 : Fl RX9 13 8 1 RX9 TX9 25 tyX9 := ⟨kl_8, by decide, mg 752 (by decide +kernel) rfl⟩
theorem f_X9_16 : Fl RX9 16 8 2 RX9 TX9 25 tyX9 := ⟨kl_8, by decide, mg 753 (by decide +kernel) rfl⟩
theorem f_X9_19 : Fl RX9 19 8 3 RX9 TX9 25 tyX9 := ⟨kl_8, by decide, mg 754 (by decide +kernel) rfl⟩
theorem f_X9_22 : Fl RX9 22 8 4 RX9 TX9 25 tyX9 := ⟨kl_8, by decide, mg 755 (by decide +kernel) rfl⟩
theorem f_X9_25 : Fl RX9 25 8 5 RX9 TX9 25 tyX9 := ⟨kl_8, by decide, mg 756 (by decide +kernel) rfl⟩
theorem f_X9_28 : Fl RX9 28 8 6 RX9 TX9 25 tyX9 := ⟨kl_8, by decide, mg 757 (by decide +kernel) rfl⟩
theorem f_X9_31 : Fl RX9 31 8 7 RX9 TX9 25 tyX9 := ⟨kl_8, by decide, mg 758 (by decide +kernel) rfl⟩
theorem f_X9_34 : Fl RX9 34 8 8 RX9 TX9 25 tyX9 := ⟨kl_8, by decide, mg 759 (by decide +kernel) rfl⟩
theorem f_X9_37 : Fl RX9 37 8 9 RX9 TX9 25 tyX9 := ⟨kl_8, by decide, mg 760 (by decide +kernel) rfl⟩
theorem f_X9_40 : Fl RX9 40 8 10 RX9 TX9 25 tyX9 := ⟨kl_8, by decide, mg 761 (by decide +kernel) rfl⟩
theorem f_X9_43 : Fl RX9 43 8 11 RX9 TX9 25 tyX9 := ⟨kl_8, by decide, mg 762 (by decide +kernel) rfl⟩
theorem f_X9_46 : Fl RX9 46 8 12 RX9 TX9 25 tyX9 := ⟨kl_8, by decide, mg 763 (by decide +kernel) rfl⟩
theorem f_X9_49 : Fl RX9 49 8 14 RX9 TX9 25 tyX9 := ⟨kl_8, by decide, mg 765 (by decide +kernel) rfl⟩
theorem f_X9_52 : Fl RX9 52 8 15 RX9 TX9 25 tyX9 := ⟨kl_8, by decide, mg 766 (by decide +kernel) rfl⟩
theorem f_X9_55 : Fl RX9 55 8 16 RX9 TX9 25 tyX9 := ⟨kl_8, by decide, mg 767 (by decide +kernel) rfl⟩
theorem f_X9_58 : Fl RX9 58 8 17 RX9 TX9 25 tyX9 := ⟨kl_8, by decide, mg 768 (by decide +kernel) rfl⟩
theorem f_X9_61 : Fl RX9 61 8 24 RX9 TX9 25 tyX9 := ⟨kl_8, by decide, mg 775 (by decide +kernel) rfl⟩
theorem k_X9_64 : CkV RX9 64 yX9_layTables cX9_layTables 5 none 0 := ⟨kb_X9_layTables, mg 712 (by decide +kernel) rfl, mg 714 (by decide +kernel) rfl, mg 38 (by decide +kernel) rfl⟩
theorem k_X9_69 : CkS RX9 69 yX9_in cX9_in 6 (some .boolean) 3 := ⟨kb_X9_in, mg 738 (by decide +kernel) rfl, mg 739 (by decide +kernel) rfl⟩
theorem k_X9_81 : CkS RX9 81 yX9_calledBy cX9_calledBy 1 (some .int) 1 := ⟨kb_X9_calledBy, mg 723 (by decide +kernel) rfl, mg 724 (by decide +kernel) rfl⟩
theorem k_X9_85 : CkS RX9 85 yX9_argumentsOf cX9_argumentsOf 1 (some .int) 1 := ⟨kb_X9_argumentsOf, mg 716 (by decide +kernel) rfl, mg 717 (by decide +kernel) rfl⟩
theorem k_X9_88 : CkS RX9 88 yX9_isAct cX9_isAct 1 (some .boolean) 1 := ⟨kb_X9_isAct, mg 730 (by decide +kernel) rfl, mg 731 (by decide +kernel) rfl⟩
theorem k_X9_92 : CkS RX9 92 yX9_isArgument cX9_isArgument 1 (some .boolean) 1 := ⟨kb_X9_isArgument, mg 733 (by decide +kernel) rfl, mg 734 (by decide +kernel) rfl⟩
theorem k_X9_99 : CkS RX9 99 yX9_isFunction cX9_isFunction 1 (some .boolean) 1 := ⟨kb_X9_isFunction, mg 841 (by decide +kernel) rfl, mg 842 (by decide +kernel) rfl⟩
theorem k_X9_102 : CkS RX9 102 yX9_partsOf cX9_partsOf 2 (some .int) 2 := ⟨kb_X9_partsOf, mg 845 (by decide +kernel) rfl, mg 846 (by decide +kernel) rfl⟩
theorem k_X9_106 : CkV RX9 106 yX9_fault cX9_fault 6 (some .int) 1 := ⟨kb_X9_fault, mg 854 (by decide +kernel) rfl, mg 838 (by decide +kernel) rfl, mg 839 (by decide +kernel) rfl⟩
theorem k_X9_109 : CkV RX9 109 yX9_isNode cX9_isNode 3 (some .boolean) 2 := ⟨kb_X9_isNode, mg 859 (by decide +kernel) rfl, mg 861 (by decide +kernel) rfl, mg 42 (by decide +kernel) rfl⟩
theorem k_X9_113 : CkV RX9 113 yX9_textOf cX9_textOf 6 (some .int) 3 := ⟨kb_X9_textOf, mg 726 (by decide +kernel) rfl, mg 728 (by decide +kernel) rfl, mg 40 (by decide +kernel) rfl⟩
theorem k_X9_117 : CkS RX9 117 yX9_most cX9_most 2 (some .int) 2 := ⟨kb_X9_most, mg 745 (by decide +kernel) rfl, mg 746 (by decide +kernel) rfl⟩
theorem k_X9_120 : CkS RX9 120 yX9_held cX9_held 1 (some .int) 1 := ⟨kb_X9_held, mg 748 (by decide +kernel) rfl, mg 749 (by decide +kernel) rfl⟩
theorem k_X9_123 : CkV RX9 123 yX9_findMay cX9_findMay 8 none 2 := ⟨kb_X9_findMay, mg 719 (by decide +kernel) rfl, mg 721 (by decide +kernel) rfl, mg 39 (by decide +kernel) rfl⟩
theorem k_X9_127 : CkV RX9 127 yX9_findUses cX9_findUses 8 (some .int) 2 := ⟨kb_X9_findUses, mg 741 (by decide +kernel) rfl, mg 743 (by decide +kernel) rfl, mg 41 (by decide +kernel) rfl⟩
theorem k_X9_130 : CkS RX9 130 yX9_allOf cX9_allOf 1 (some .int) 1 := ⟨kb_X9_allOf, mg 867 (by decide +kernel) rfl, mg 868 (by decide +kernel) rfl⟩
theorem k_X9_133 : CkV RX9 133 yX9_mayCome cX9_mayCome 3 (some .boolean) 2 := ⟨kb_X9_mayCome, mg 878 (by decide +kernel) rfl, mg 880 (by decide +kernel) rfl, mg 44 (by decide +kernel) rfl⟩
theorem k_X9_136 : CkV RX9 136 yX9_isMust cX9_isMust 3 (some .boolean) 2 := ⟨kb_X9_isMust, mg 874 (by decide +kernel) rfl, mg 876 (by decide +kernel) rfl, mg 43 (by decide +kernel) rfl⟩
theorem k_X9_139 : CkV RX9 139 yX9_isJoint cX9_isJoint 5 (some .boolean) 2 := ⟨kb_X9_isJoint, mg 886 (by decide +kernel) rfl, mg 888 (by decide +kernel) rfl, mg 45 (by decide +kernel) rfl⟩
theorem k_X9_142 : CkS RX9 142 yX9_isOf cX9_isOf 2 (some .boolean) 2 := ⟨kb_X9_isOf, mg 894 (by decide +kernel) rfl, mg 895 (by decide +kernel) rfl⟩
theorem f_X9_145 : Fl RX9 145 8 18 RX9 TX9 25 tyX9 := ⟨kl_8, by decide, mg 769 (by decide +kernel) rfl⟩
theorem f_X9_149 : Fl RX9 149 8 21 RX9 TX9 25 tyX9 := ⟨kl_8, by decide, mg 772 (by decide +kernel) rfl⟩
theorem f_X9_152 : Fl RX9 152 8 23 RX9 TX9 25 tyX9 := ⟨kl_8, by decide, mg 774 (by decide +kernel) rfl⟩
theorem f_X9_155 : Fl RX9 155 8 22 RX9 TX9 25 tyX9 := ⟨kl_8, by decide, mg 773 (by decide +kernel) rfl⟩
theorem f_X9_158 : Fl RX9 158 8 19 RX9 TX9 25 tyX9 := ⟨kl_8, by decide, mg 770 (by decide +kernel) rfl⟩
theorem f_X9_161 : Fl RX9 161 8 20 RX9 TX9 25 tyX9 := ⟨kl_8, by decide, mg 771 (by decide +kernel) rfl⟩
theorem k_X9_164 : CkV RX9 164 yX9_beginCall cX9_beginCall 6 none 3 := ⟨kb_X9_beginCall, mg 926 (by decide +kernel) rfl, mg 928 (by decide +kernel) rfl, mg 49 (by decide +kernel) rfl⟩
theorem k_X9_168 : CkV RX9 168 yX9_beginArgument cX9_beginArgument 3 none 2 := ⟨kb_X9_beginArgument, mg 938 (by decide +kernel) rfl, mg 940 (by decide +kernel) rfl, mg 52 (by decide +kernel) rfl⟩
theorem k_X9_171 : CkV RX9 171 yX9_waitFor cX9_waitFor 5 none 4 := ⟨kb_X9_waitFor, mg 934 (by decide +kernel) rfl, mg 936 (by decide +kernel) rfl, mg 51 (by decide +kernel) rfl⟩
theorem k_X9_175 : CkV RX9 175 yX9_come cX9_come 2 none 1 := ⟨kb_X9_come, mg 942 (by decide +kernel) rfl, mg 944 (by decide +kernel) rfl, mg 53 (by decide +kernel) rfl⟩
theorem k_X9_179 : CkV RX9 179 yX9_go cX9_go 3 none 2 := ⟨kb_X9_go, mg 918 (by decide +kernel) rfl, mg 920 (by decide +kernel) rfl, mg 47 (by decide +kernel) rfl⟩
theorem f_X9_182 : Fl RX9 182 8 13 RX9 TX9 25 tyX9 := ⟨kl_8, by decide, mg 764 (by decide +kernel) rfl⟩
theorem k_X9_185 : CkV RX9 185 yX9_goAhead cX9_goAhead 6 none 3 := ⟨kb_X9_goAhead, mg 930 (by decide +kernel) rfl, mg 932 (by decide +kernel) rfl, mg 50 (by decide +kernel) rfl⟩
theorem k_X9_188 : CkS RX9 188 yX9_act cX9_act 3 (some .int) 3 := ⟨kb_X9_act, mg 950 (by decide +kernel) rfl, mg 951 (by decide +kernel) rfl⟩
theorem k_X9_191 : CkS RX9 191 yX9_toldOne cX9_toldOne 5 (some .int) 3 := ⟨kb_X9_toldOne, mg 915 (by decide +kernel) rfl, mg 916 (by decide +kernel) rfl⟩
theorem k_X9_194 : CkV RX9 194 yX9_begin cX9_begin 4 none 1 := ⟨kb_X9_begin, mg 922 (by decide +kernel) rfl, mg 924 (by decide +kernel) rfl, mg 48 (by decide +kernel) rfl⟩
theorem k_X9_197 : CkV RX9 197 yX9_goOn cX9_goOn 5 none 0 := ⟨kb_X9_goOn, mg 946 (by decide +kernel) rfl, mg 948 (by decide +kernel) rfl, mg 54 (by decide +kernel) rfl⟩
theorem k_X9_200 : CkS RX9 200 yX9_rowsOf cX9_rowsOf 1 (some .int) 1 := ⟨kb_X9_rowsOf, mg 905 (by decide +kernel) rfl, mg 906 (by decide +kernel) rfl⟩
theorem k_X9_203 : CkS RX9 203 yX9_isWay cX9_isWay 1 (some .boolean) 1 := ⟨kb_X9_isWay, mg 908 (by decide +kernel) rfl, mg 909 (by decide +kernel) rfl⟩
theorem k_X9_206 : CkV RX9 206 yX9_runIt cX9_runIt 6 none 3 := ⟨kb_X9_runIt, mg 911 (by decide +kernel) rfl, mg 913 (by decide +kernel) rfl, mg 46 (by decide +kernel) rfl⟩
theorem k_X9_211 : CkS RX9 211 yX9_areNumbers cX9_areNumbers 4 (some .boolean) 2 := ⟨kb_X9_areNumbers, mg 958 (by decide +kernel) rfl, mg 959 (by decide +kernel) rfl⟩
/-- the shapes of all cells -/
def SHP : List Shp := [.inr (7, [some (some 1), some (some 3), some (some 5), some (some 12), some (some 16), some (some 20)]), .inr (4, [some (some 2), none]), .inl 30, .inr (5, [some (some 4), none]), .inl 10, .inr (0, [some (some 6), some (some 7), some (some 8), some (some 9), some (some 10), some (some 11)]), .inl 4, .inl 120, .inl 120, .inl 120, .inl 120, .inl 120, .inr (6, [some (some 5), some (some 13), some (some 14), some (some 15)]), .inl 120, .inl 4, .inl 4, .inr (1, [some (some 5), some (some 17), some (some 18), some (some 19)]), .inl 120, .inl 12, .inl 12, .inr (3, [some (some 21), some (some 29)]), .inr (2, [some (some 5), some (some 12), some (some 22), some (some 23), some (some 24), none, some (some 25), some (some 26), some (some 27), none, none, some (some 28), none, none, none, none, none, none]), .inl 903, .inl 903, .inl 903, .inl 300, .inl 300, .inl 300, .inl 4, .inl 3600, .inr (8, [some (some 31), some (some 32), some (some 33), some (some 34), some (some 35), some (some 36), some (some 37), some (some 38), some (some 39), some (some 40), some (some 41), some (some 42), some (some 43), none, some (some 44), some (some 45), some (some 46), some (some 47), none, none, none, none, none, none, some (some 48)]), .inl 150, .inl 150, .inl 150, .inl 5, .inl 32, .inl 32, .inl 4, .inl 12, .inl 30, .inl 302, .inl 906, .inl 906, .inl 906, .inl 1000, .inl 1000, .inl 1000, .inl 1000, .inl 729]
def HsB (sh : List Shp) : Prop := ∀ k, 5 ≤ k → k < 12 → sh[k]? = SHP[k]?
def HsC (sh : List Shp) : Prop := ∀ k, k < 30 → sh[k]? = SHP[k]?
def HsM (sh : List Shp) : Prop := ∀ k, 30 ≤ k → k < 49 → sh[k]? = SHP[k]?
theorem HsC.B {sh : List Shp} (h : HsC sh) : HsB sh := fun k _ h2 => h k (by omega)
theorem hsB_5 {sh : List Shp} (h : HsB sh) : sh[5]? = some (.inr (0, [some (some 6), some (some 7), some (some 8), some (some 9), some (some 10), some (some 11)])) := h 5 (by decide) (by decide)
theorem hsB_6 {sh : List Shp} (h : HsB sh) : sh[6]? = some (.inl 4) := h 6 (by decide) (by decide)
theorem hsB_7 {sh : List Shp} (h : HsB sh) : sh[7]? = some (.inl 120) := h 7 (by decide) (by decide)
theorem hsB_8 {sh : List Shp} (h : HsB sh) : sh[8]? = some (.inl 120) := h 8 (by decide) (by decide)
theorem hsB_9 {sh : List Shp} (h : HsB sh) : sh[9]? = some (.inl 120) := h 9 (by decide) (by decide)
theorem hsB_10 {sh : List Shp} (h : HsB sh) : sh[10]? = some (.inl 120) := h 10 (by decide) (by decide)
theorem hsB_11 {sh : List Shp} (h : HsB sh) : sh[11]? = some (.inl 120) := h 11 (by decide) (by decide)
theorem hsC_0 {sh : List Shp} (h : HsC sh) : sh[0]? = some (.inr (7, [some (some 1), some (some 3), some (some 5), some (some 12), some (some 16), some (some 20)])) := h 0 (by decide)
theorem hsC_1 {sh : List Shp} (h : HsC sh) : sh[1]? = some (.inr (4, [some (some 2), none])) := h 1 (by decide)
theorem hsC_2 {sh : List Shp} (h : HsC sh) : sh[2]? = some (.inl 30) := h 2 (by decide)
theorem hsC_3 {sh : List Shp} (h : HsC sh) : sh[3]? = some (.inr (5, [some (some 4), none])) := h 3 (by decide)
theorem hsC_4 {sh : List Shp} (h : HsC sh) : sh[4]? = some (.inl 10) := h 4 (by decide)
theorem hsC_5 {sh : List Shp} (h : HsC sh) : sh[5]? = some (.inr (0, [some (some 6), some (some 7), some (some 8), some (some 9), some (some 10), some (some 11)])) := h 5 (by decide)
theorem hsC_6 {sh : List Shp} (h : HsC sh) : sh[6]? = some (.inl 4) := h 6 (by decide)
theorem hsC_7 {sh : List Shp} (h : HsC sh) : sh[7]? = some (.inl 120) := h 7 (by decide)
theorem hsC_8 {sh : List Shp} (h : HsC sh) : sh[8]? = some (.inl 120) := h 8 (by decide)
theorem hsC_9 {sh : List Shp} (h : HsC sh) : sh[9]? = some (.inl 120) := h 9 (by decide)
theorem hsC_10 {sh : List Shp} (h : HsC sh) : sh[10]? = some (.inl 120) := h 10 (by decide)
theorem hsC_11 {sh : List Shp} (h : HsC sh) : sh[11]? = some (.inl 120) := h 11 (by decide)
theorem hsC_12 {sh : List Shp} (h : HsC sh) : sh[12]? = some (.inr (6, [some (some 5), some (some 13), some (some 14), some (some 15)])) := h 12 (by decide)
theorem hsC_13 {sh : List Shp} (h : HsC sh) : sh[13]? = some (.inl 120) := h 13 (by decide)
theorem hsC_14 {sh : List Shp} (h : HsC sh) : sh[14]? = some (.inl 4) := h 14 (by decide)
theorem hsC_15 {sh : List Shp} (h : HsC sh) : sh[15]? = some (.inl 4) := h 15 (by decide)
theorem hsC_16 {sh : List Shp} (h : HsC sh) : sh[16]? = some (.inr (1, [some (some 5), some (some 17), some (some 18), some (some 19)])) := h 16 (by decide)
theorem hsC_17 {sh : List Shp} (h : HsC sh) : sh[17]? = some (.inl 120) := h 17 (by decide)
theorem hsC_18 {sh : List Shp} (h : HsC sh) : sh[18]? = some (.inl 12) := h 18 (by decide)
theorem hsC_19 {sh : List Shp} (h : HsC sh) : sh[19]? = some (.inl 12) := h 19 (by decide)
theorem hsC_20 {sh : List Shp} (h : HsC sh) : sh[20]? = some (.inr (3, [some (some 21), some (some 29)])) := h 20 (by decide)
theorem hsC_21 {sh : List Shp} (h : HsC sh) : sh[21]? = some (.inr (2, [some (some 5), some (some 12), some (some 22), some (some 23), some (some 24), none, some (some 25), some (some 26), some (some 27), none, none, some (some 28), none, none, none, none, none, none])) := h 21 (by decide)
theorem hsC_22 {sh : List Shp} (h : HsC sh) : sh[22]? = some (.inl 903) := h 22 (by decide)
theorem hsC_23 {sh : List Shp} (h : HsC sh) : sh[23]? = some (.inl 903) := h 23 (by decide)
theorem hsC_24 {sh : List Shp} (h : HsC sh) : sh[24]? = some (.inl 903) := h 24 (by decide)
theorem hsC_25 {sh : List Shp} (h : HsC sh) : sh[25]? = some (.inl 300) := h 25 (by decide)
theorem hsC_26 {sh : List Shp} (h : HsC sh) : sh[26]? = some (.inl 300) := h 26 (by decide)
theorem hsC_27 {sh : List Shp} (h : HsC sh) : sh[27]? = some (.inl 300) := h 27 (by decide)
theorem hsC_28 {sh : List Shp} (h : HsC sh) : sh[28]? = some (.inl 4) := h 28 (by decide)
theorem hsC_29 {sh : List Shp} (h : HsC sh) : sh[29]? = some (.inl 3600) := h 29 (by decide)
theorem hsM_30 {sh : List Shp} (h : HsM sh) : sh[30]? = some (.inr (8, [some (some 31), some (some 32), some (some 33), some (some 34), some (some 35), some (some 36), some (some 37), some (some 38), some (some 39), some (some 40), some (some 41), some (some 42), some (some 43), none, some (some 44), some (some 45), some (some 46), some (some 47), none, none, none, none, none, none, some (some 48)])) := h 30 (by decide) (by decide)
theorem hsM_31 {sh : List Shp} (h : HsM sh) : sh[31]? = some (.inl 150) := h 31 (by decide) (by decide)
theorem hsM_32 {sh : List Shp} (h : HsM sh) : sh[32]? = some (.inl 150) := h 32 (by decide) (by decide)
theorem hsM_33 {sh : List Shp} (h : HsM sh) : sh[33]? = some (.inl 150) := h 33 (by decide) (by decide)
theorem hsM_34 {sh : List Shp} (h : HsM sh) : sh[34]? = some (.inl 5) := h 34 (by decide) (by decide)
theorem hsM_35 {sh : List Shp} (h : HsM sh) : sh[35]? = some (.inl 32) := h 35 (by decide) (by decide)
theorem hsM_36 {sh : List Shp} (h : HsM sh) : sh[36]? = some (.inl 32) := h 36 (by decide) (by decide)
theorem hsM_37 {sh : List Shp} (h : HsM sh) : sh[37]? = some (.inl 4) := h 37 (by decide) (by decide)
theorem hsM_38 {sh : List Shp} (h : HsM sh) : sh[38]? = some (.inl 12) := h 38 (by decide) (by decide)
theorem hsM_39 {sh : List Shp} (h : HsM sh) : sh[39]? = some (.inl 30) := h 39 (by decide) (by decide)
theorem hsM_40 {sh : List Shp} (h : HsM sh) : sh[40]? = some (.inl 302) := h 40 (by decide) (by decide)
theorem hsM_41 {sh : List Shp} (h : HsM sh) : sh[41]? = some (.inl 906) := h 41 (by decide) (by decide)
theorem hsM_42 {sh : List Shp} (h : HsM sh) : sh[42]? = some (.inl 906) := h 42 (by decide) (by decide)
theorem hsM_43 {sh : List Shp} (h : HsM sh) : sh[43]? = some (.inl 906) := h 43 (by decide) (by decide)
theorem hsM_44 {sh : List Shp} (h : HsM sh) : sh[44]? = some (.inl 1000) := h 44 (by decide) (by decide)
theorem hsM_45 {sh : List Shp} (h : HsM sh) : sh[45]? = some (.inl 1000) := h 45 (by decide) (by decide)
theorem hsM_46 {sh : List Shp} (h : HsM sh) : sh[46]? = some (.inl 1000) := h 46 (by decide) (by decide)
theorem hsM_47 {sh : List Shp} (h : HsM sh) : sh[47]? = some (.inl 1000) := h 47 (by decide) (by decide)
theorem hsM_48 {sh : List Shp} (h : HsM sh) : sh[48]? = some (.inl 729) := h 48 (by decide) (by decide)
end
section
theorem d_X0_init_0 : At cX0_init 0 (.aload_n 0) 1 1 := ⟨by decide +kernel, rfl⟩
theorem d_X0_init_1 : At cX0_init 1 (.invokespecial 3) 3 4 := ⟨by decide +kernel, rfl⟩
theorem d_X0_init_4 : At cX0_init 4 (.aload_n 0) 1 5 := ⟨by decide +kernel, rfl⟩
theorem d_X0_init_5 : At cX0_init 5 (.iconst 4) 1 6 := ⟨by decide +kernel, rfl⟩
theorem d_X0_init_6 : At cX0_init 6 (.newarray .int) 2 8 := ⟨by decide +kernel, rfl⟩
theorem d_X0_init_8 : At cX0_init 8 (.putfield 9) 3 11 := ⟨by decide +kernel, rfl⟩
theorem d_X0_init_11 : At cX0_init 11 (.aload_n 0) 1 12 := ⟨by decide +kernel, rfl⟩
theorem d_X0_init_12 : At cX0_init 12 (.bipush 120) 2 14 := ⟨by decide +kernel, rfl⟩
theorem d_X0_init_14 : At cX0_init 14 (.newarray .int) 2 16 := ⟨by decide +kernel, rfl⟩
theorem d_X0_init_16 : At cX0_init 16 (.putfield 15) 3 19 := ⟨by decide +kernel, rfl⟩
theorem d_X0_init_19 : At cX0_init 19 (.aload_n 0) 1 20 := ⟨by decide +kernel, rfl⟩
theorem d_X0_init_20 : At cX0_init 20 (.bipush 120) 2 22 := ⟨by decide +kernel, rfl⟩
theorem d_X0_init_22 : At cX0_init 22 (.newarray .int) 2 24 := ⟨by decide +kernel, rfl⟩
theorem d_X0_init_24 : At cX0_init 24 (.putfield 18) 3 27 := ⟨by decide +kernel, rfl⟩
theorem d_X0_init_27 : At cX0_init 27 (.aload_n 0) 1 28 := ⟨by decide +kernel, rfl⟩
theorem d_X0_init_28 : At cX0_init 28 (.bipush 120) 2 30 := ⟨by decide +kernel, rfl⟩
theorem d_X0_init_30 : At cX0_init 30 (.newarray .int) 2 32 := ⟨by decide +kernel, rfl⟩
theorem d_X0_init_32 : At cX0_init 32 (.putfield 21) 3 35 := ⟨by decide +kernel, rfl⟩
theorem d_X0_init_35 : At cX0_init 35 (.aload_n 0) 1 36 := ⟨by decide +kernel, rfl⟩
theorem d_X0_init_36 : At cX0_init 36 (.bipush 120) 2 38 := ⟨by decide +kernel, rfl⟩
theorem d_X0_init_38 : At cX0_init 38 (.newarray .int) 2 40 := ⟨by decide +kernel, rfl⟩
theorem d_X0_init_40 : At cX0_init 40 (.putfield 24) 3 43 := ⟨by decide +kernel, rfl⟩
theorem d_X0_init_43 : At cX0_init 43 (.aload_n 0) 1 44 := ⟨by decide +kernel, rfl⟩
theorem d_X0_init_44 : At cX0_init 44 (.bipush 120) 2 46 := ⟨by decide +kernel, rfl⟩
theorem d_X0_init_46 : At cX0_init 46 (.newarray .int) 2 48 := ⟨by decide +kernel, rfl⟩
theorem d_X0_init_48 : At cX0_init 48 (.putfield 27) 3 51 := ⟨by decide +kernel, rfl⟩
theorem d_X0_init_51 : At cX0_init 51 (.iconst 0) 1 52 := ⟨by decide +kernel, rfl⟩
theorem d_X0_init_52 : At cX0_init 52 (.istore_n 1) 1 53 := ⟨by decide +kernel, rfl⟩
theorem d_X0_init_53 : At cX0_init 53 (.iload_n 1) 1 54 := ⟨by decide +kernel, rfl⟩
theorem d_X0_init_54 : At cX0_init 54 (.iconst 4) 1 55 := ⟨by decide +kernel, rfl⟩
theorem d_X0_init_55 : Br cX0_init 55 (.if_icmp .ge 32) (32) 58 87 := ⟨by decide +kernel, rfl, rfl⟩
theorem d_X0_init_58 : At cX0_init 58 (.aload_n 0) 1 59 := ⟨by decide +kernel, rfl⟩
theorem d_X0_init_59 : At cX0_init 59 (.getfield 9) 3 62 := ⟨by decide +kernel, rfl⟩
theorem d_X0_init_62 : At cX0_init 62 (.iload_n 1) 1 63 := ⟨by decide +kernel, rfl⟩
theorem d_X0_init_63 : At cX0_init 63 (.iconst 1) 1 64 := ⟨by decide +kernel, rfl⟩
theorem d_X0_init_64 : At cX0_init 64 (.iastore) 1 65 := ⟨by decide +kernel, rfl⟩
theorem d_X0_init_65 : At cX0_init 65 (.aload_n 0) 1 66 := ⟨by decide +kernel, rfl⟩
theorem d_X0_init_66 : At cX0_init 66 (.aload_n 0) 1 67 := ⟨by decide +kernel, rfl⟩
theorem d_X0_init_67 : At cX0_init 67 (.iload_n 1) 1 68 := ⟨by decide +kernel, rfl⟩
theorem d_X0_init_68 : At cX0_init 68 (.invokevirtual 30) 3 71 := ⟨by decide +kernel, rfl⟩
theorem d_X0_init_71 : At cX0_init 71 (.bipush 33) 2 73 := ⟨by decide +kernel, rfl⟩
theorem d_X0_init_73 : At cX0_init 73 (.invokevirtual 34) 3 76 := ⟨by decide +kernel, rfl⟩
theorem d_X0_init_76 : At cX0_init 76 (.aload_n 0) 1 77 := ⟨by decide +kernel, rfl⟩
theorem d_X0_init_77 : At cX0_init 77 (.iload_n 1) 1 78 := ⟨by decide +kernel, rfl⟩
theorem d_X0_init_78 : At cX0_init 78 (.invokevirtual 38) 3 81 := ⟨by decide +kernel, rfl⟩
theorem d_X0_init_81 : At cX0_init 81 (.iinc 1 1) 3 84 := ⟨by decide +kernel, rfl⟩
theorem d_X0_init_84 : Br cX0_init 84 (.goto (-31)) (-31) 87 53 := ⟨by decide +kernel, rfl, rfl⟩
theorem d_X0_init_87 : Go cX0_init 87 (.return_) 1 := (by decide +kernel : decode cX0_init 87 = .ok (.return_, 1))
theorem d_X0_put_0 : At cX0_put 0 (.iload_n 1) 1 1 := ⟨by decide +kernel, rfl⟩
theorem d_X0_put_1 : At cX0_put 1 (.invokestatic 42) 3 4 := ⟨by decide +kernel, rfl⟩
theorem d_X0_put_4 : Br cX0_put 4 (.ifCond .ne 4) (4) 7 8 := ⟨by decide +kernel, rfl, rfl⟩
theorem d_X0_put_7 : Go cX0_put 7 (.return_) 1 := (by decide +kernel : decode cX0_put 7 = .ok (.return_, 1))
theorem d_X0_put_8 : At cX0_put 8 (.aload_n 0) 1 9 := ⟨by decide +kernel, rfl⟩
theorem d_X0_put_9 : At cX0_put 9 (.getfield 9) 3 12 := ⟨by decide +kernel, rfl⟩
theorem d_X0_put_12 : At cX0_put 12 (.iload_n 1) 1 13 := ⟨by decide +kernel, rfl⟩
theorem d_X0_put_13 : At cX0_put 13 (.aload_n 2) 1 14 := ⟨by decide +kernel, rfl⟩
theorem d_X0_put_14 : At cX0_put 14 (.invokevirtual 46) 3 17 := ⟨by decide +kernel, rfl⟩
theorem d_X0_put_17 : At cX0_put 17 (.iastore) 1 18 := ⟨by decide +kernel, rfl⟩
theorem d_X0_put_18 : At cX0_put 18 (.iconst 0) 1 19 := ⟨by decide +kernel, rfl⟩
theorem d_X0_put_19 : At cX0_put 19 (.istore_n 3) 1 20 := ⟨by decide +kernel, rfl⟩
theorem d_X0_put_20 : At cX0_put 20 (.iload_n 3) 1 21 := ⟨by decide +kernel, rfl⟩
theorem d_X0_put_21 : At cX0_put 21 (.aload_n 2) 1 22 := ⟨by decide +kernel, rfl⟩
theorem d_X0_put_22 : At cX0_put 22 (.invokevirtual 46) 3 25 := ⟨by decide +kernel, rfl⟩
theorem d_X0_put_25 : Br cX0_put 25 (.if_icmp .ge 25) (25) 28 50 := ⟨by decide +kernel, rfl, rfl⟩
theorem d_X0_put_28 : At cX0_put 28 (.aload_n 0) 1 29 := ⟨by decide +kernel, rfl⟩
theorem d_X0_put_29 : At cX0_put 29 (.aload_n 0) 1 30 := ⟨by decide +kernel, rfl⟩
theorem d_X0_put_30 : At cX0_put 30 (.iload_n 1) 1 31 := ⟨by decide +kernel, rfl⟩
theorem d_X0_put_31 : At cX0_put 31 (.invokevirtual 30) 3 34 := ⟨by decide +kernel, rfl⟩
theorem d_X0_put_34 : At cX0_put 34 (.iload_n 3) 1 35 := ⟨by decide +kernel, rfl⟩
theorem d_X0_put_35 : At cX0_put 35 (.iadd) 1 36 := ⟨by decide +kernel, rfl⟩
theorem d_X0_put_36 : At cX0_put 36 (.aload_n 2) 1 37 := ⟨by decide +kernel, rfl⟩
theorem d_X0_put_37 : At cX0_put 37 (.iload_n 3) 1 38 := ⟨by decide +kernel, rfl⟩
theorem d_X0_put_38 : At cX0_put 38 (.invokevirtual 52) 3 41 := ⟨by decide +kernel, rfl⟩
theorem d_X0_put_41 : At cX0_put 41 (.invokevirtual 34) 3 44 := ⟨by decide +kernel, rfl⟩
theorem d_X0_put_44 : At cX0_put 44 (.iinc 3 1) 3 47 := ⟨by decide +kernel, rfl⟩
theorem d_X0_put_47 : Br cX0_put 47 (.goto (-27)) (-27) 50 20 := ⟨by decide +kernel, rfl, rfl⟩
theorem d_X0_put_50 : At cX0_put 50 (.aload_n 0) 1 51 := ⟨by decide +kernel, rfl⟩
theorem d_X0_put_51 : At cX0_put 51 (.iload_n 1) 1 52 := ⟨by decide +kernel, rfl⟩
theorem d_X0_put_52 : At cX0_put 52 (.invokevirtual 38) 3 55 := ⟨by decide +kernel, rfl⟩
theorem d_X0_put_55 : Go cX0_put 55 (.return_) 1 := (by decide +kernel : decode cX0_put 55 = .ok (.return_, 1))
theorem d_X0_setSign_0 : At cX0_setSign 0 (.iload_n 1) 1 1 := ⟨by decide +kernel, rfl⟩
theorem d_X0_setSign_1 : At cX0_setSign 1 (.invokestatic 55) 3 4 := ⟨by decide +kernel, rfl⟩
theorem d_X0_setSign_4 : Br cX0_setSign 4 (.ifCond .eq 30) (30) 7 34 := ⟨by decide +kernel, rfl, rfl⟩
theorem d_X0_setSign_7 : At cX0_setSign 7 (.aload_n 0) 1 8 := ⟨by decide +kernel, rfl⟩
theorem d_X0_setSign_8 : At cX0_setSign 8 (.getfield 15) 3 11 := ⟨by decide +kernel, rfl⟩
theorem d_X0_setSign_11 : At cX0_setSign 11 (.iload_n 1) 1 12 := ⟨by decide +kernel, rfl⟩
theorem d_X0_setSign_12 : At cX0_setSign 12 (.iload_n 2) 1 13 := ⟨by decide +kernel, rfl⟩
theorem d_X0_setSign_13 : At cX0_setSign 13 (.iastore) 1 14 := ⟨by decide +kernel, rfl⟩
theorem d_X0_setSign_14 : At cX0_setSign 14 (.aload_n 0) 1 15 := ⟨by decide +kernel, rfl⟩
theorem d_X0_setSign_15 : At cX0_setSign 15 (.getfield 18) 3 18 := ⟨by decide +kernel, rfl⟩
theorem d_X0_setSign_18 : At cX0_setSign 18 (.iload_n 1) 1 19 := ⟨by decide +kernel, rfl⟩
theorem d_X0_setSign_19 : At cX0_setSign 19 (.iload_n 2) 1 20 := ⟨by decide +kernel, rfl⟩
theorem d_X0_setSign_20 : At cX0_setSign 20 (.invokestatic 58) 3 23 := ⟨by decide +kernel, rfl⟩
theorem d_X0_setSign_23 : At cX0_setSign 23 (.iastore) 1 24 := ⟨by decide +kernel, rfl⟩
theorem d_X0_setSign_24 : At cX0_setSign 24 (.aload_n 0) 1 25 := ⟨by decide +kernel, rfl⟩
theorem d_X0_setSign_25 : At cX0_setSign 25 (.getfield 21) 3 28 := ⟨by decide +kernel, rfl⟩
theorem d_X0_setSign_28 : At cX0_setSign 28 (.iload_n 1) 1 29 := ⟨by decide +kernel, rfl⟩
theorem d_X0_setSign_29 : At cX0_setSign 29 (.iload_n 2) 1 30 := ⟨by decide +kernel, rfl⟩
theorem d_X0_setSign_30 : At cX0_setSign 30 (.invokestatic 63) 3 33 := ⟨by decide +kernel, rfl⟩
theorem d_X0_setSign_33 : At cX0_setSign 33 (.iastore) 1 34 := ⟨by decide +kernel, rfl⟩
theorem d_X0_setSign_34 : Go cX0_setSign 34 (.return_) 1 := (by decide +kernel : decode cX0_setSign 34 = .ok (.return_, 1))
theorem d_X0_measure_0 : At cX0_measure 0 (.aload_n 0) 1 1 := ⟨by decide +kernel, rfl⟩
theorem d_X0_measure_1 : At cX0_measure 1 (.iload_n 1) 1 2 := ⟨by decide +kernel, rfl⟩
theorem d_X0_measure_2 : At cX0_measure 2 (.invokevirtual 30) 3 5 := ⟨by decide +kernel, rfl⟩
theorem d_X0_measure_5 : At cX0_measure 5 (.istore_n 2) 1 6 := ⟨by decide +kernel, rfl⟩
theorem d_X0_measure_6 : At cX0_measure 6 (.iload_n 2) 1 7 := ⟨by decide +kernel, rfl⟩
theorem d_X0_measure_7 : At cX0_measure 7 (.aload_n 0) 1 8 := ⟨by decide +kernel, rfl⟩
theorem d_X0_measure_8 : At cX0_measure 8 (.iload_n 1) 1 9 := ⟨by decide +kernel, rfl⟩
theorem d_X0_measure_9 : At cX0_measure 9 (.invokevirtual 66) 3 12 := ⟨by decide +kernel, rfl⟩
theorem d_X0_measure_12 : At cX0_measure 12 (.iadd) 1 13 := ⟨by decide +kernel, rfl⟩
theorem d_X0_measure_13 : At cX0_measure 13 (.iconst 1) 1 14 := ⟨by decide +kernel, rfl⟩
theorem d_X0_measure_14 : At cX0_measure 14 (.isub) 1 15 := ⟨by decide +kernel, rfl⟩
theorem d_X0_measure_15 : At cX0_measure 15 (.istore_n 3) 1 16 := ⟨by decide +kernel, rfl⟩
theorem d_X0_measure_16 : At cX0_measure 16 (.iload_n 3) 1 17 := ⟨by decide +kernel, rfl⟩
theorem d_X0_measure_17 : At cX0_measure 17 (.iload_n 2) 1 18 := ⟨by decide +kernel, rfl⟩
theorem d_X0_measure_18 : Br cX0_measure 18 (.if_icmp .lt 29) (29) 21 47 := ⟨by decide +kernel, rfl, rfl⟩
theorem d_X0_measure_21 : At cX0_measure 21 (.aload_n 0) 1 22 := ⟨by decide +kernel, rfl⟩
theorem d_X0_measure_22 : At cX0_measure 22 (.iload_n 3) 1 23 := ⟨by decide +kernel, rfl⟩
theorem d_X0_measure_23 : At cX0_measure 23 (.aload_n 0) 1 24 := ⟨by decide +kernel, rfl⟩
theorem d_X0_measure_24 : At cX0_measure 24 (.iload_n 3) 1 25 := ⟨by decide +kernel, rfl⟩
theorem d_X0_measure_25 : At cX0_measure 25 (.aload_n 0) 1 26 := ⟨by decide +kernel, rfl⟩
theorem d_X0_measure_26 : At cX0_measure 26 (.iload_n 3) 1 27 := ⟨by decide +kernel, rfl⟩
theorem d_X0_measure_27 : At cX0_measure 27 (.invokevirtual 68) 3 30 := ⟨by decide +kernel, rfl⟩
theorem d_X0_measure_30 : At cX0_measure 30 (.invokestatic 69) 3 33 := ⟨by decide +kernel, rfl⟩
theorem d_X0_measure_33 : At cX0_measure 33 (.invokevirtual 72) 3 36 := ⟨by decide +kernel, rfl⟩
theorem d_X0_measure_36 : At cX0_measure 36 (.iload_n 3) 1 37 := ⟨by decide +kernel, rfl⟩
theorem d_X0_measure_37 : At cX0_measure 37 (.isub) 1 38 := ⟨by decide +kernel, rfl⟩
theorem d_X0_measure_38 : At cX0_measure 38 (.invokevirtual 76) 3 41 := ⟨by decide +kernel, rfl⟩
theorem d_X0_measure_41 : At cX0_measure 41 (.iinc 3 (-1)) 3 44 := ⟨by decide +kernel, rfl⟩
theorem d_X0_measure_44 : Br cX0_measure 44 (.goto (-28)) (-28) 47 16 := ⟨by decide +kernel, rfl, rfl⟩
theorem d_X0_measure_47 : At cX0_measure 47 (.aload_n 0) 1 48 := ⟨by decide +kernel, rfl⟩
theorem d_X0_measure_48 : At cX0_measure 48 (.iload_n 2) 1 49 := ⟨by decide +kernel, rfl⟩
theorem d_X0_measure_49 : At cX0_measure 49 (.iconst 0) 1 50 := ⟨by decide +kernel, rfl⟩
theorem d_X0_measure_50 : At cX0_measure 50 (.invokevirtual 79) 3 53 := ⟨by decide +kernel, rfl⟩
theorem d_X0_measure_53 : At cX0_measure 53 (.iload_n 2) 1 54 := ⟨by decide +kernel, rfl⟩
theorem d_X0_measure_54 : At cX0_measure 54 (.istore_n 3) 1 55 := ⟨by decide +kernel, rfl⟩
theorem d_X0_measure_55 : At cX0_measure 55 (.iload_n 3) 1 56 := ⟨by decide +kernel, rfl⟩
theorem d_X0_measure_56 : At cX0_measure 56 (.iload_n 2) 1 57 := ⟨by decide +kernel, rfl⟩
theorem d_X0_measure_57 : At cX0_measure 57 (.aload_n 0) 1 58 := ⟨by decide +kernel, rfl⟩
theorem d_X0_measure_58 : At cX0_measure 58 (.iload_n 1) 1 59 := ⟨by decide +kernel, rfl⟩
theorem d_X0_measure_59 : At cX0_measure 59 (.invokevirtual 66) 3 62 := ⟨by decide +kernel, rfl⟩
theorem d_X0_measure_62 : At cX0_measure 62 (.iadd) 1 63 := ⟨by decide +kernel, rfl⟩
theorem d_X0_measure_63 : Br cX0_measure 63 (.if_icmp .ge 53) (53) 66 116 := ⟨by decide +kernel, rfl, rfl⟩
theorem d_X0_measure_66 : At cX0_measure 66 (.aload_n 0) 1 67 := ⟨by decide +kernel, rfl⟩
theorem d_X0_measure_67 : At cX0_measure 67 (.iload_n 3) 1 68 := ⟨by decide +kernel, rfl⟩
theorem d_X0_measure_68 : At cX0_measure 68 (.invokevirtual 68) 3 71 := ⟨by decide +kernel, rfl⟩
theorem d_X0_measure_71 : At cX0_measure 71 (.invokestatic 69) 3 74 := ⟨by decide +kernel, rfl⟩
theorem d_X0_measure_74 : At cX0_measure 74 (.istore 4) 2 76 := ⟨by decide +kernel, rfl⟩
theorem d_X0_measure_76 : At cX0_measure 76 (.iconst 0) 1 77 := ⟨by decide +kernel, rfl⟩
theorem d_X0_measure_77 : At cX0_measure 77 (.istore 5) 2 79 := ⟨by decide +kernel, rfl⟩
theorem d_X0_measure_79 : At cX0_measure 79 (.iload 5) 2 81 := ⟨by decide +kernel, rfl⟩
theorem d_X0_measure_81 : At cX0_measure 81 (.iload 4) 2 83 := ⟨by decide +kernel, rfl⟩
theorem d_X0_measure_83 : Br cX0_measure 83 (.if_icmp .ge 27) (27) 86 110 := ⟨by decide +kernel, rfl, rfl⟩
theorem d_X0_measure_86 : At cX0_measure 86 (.aload_n 0) 1 87 := ⟨by decide +kernel, rfl⟩
theorem d_X0_measure_87 : At cX0_measure 87 (.aload_n 0) 1 88 := ⟨by decide +kernel, rfl⟩
theorem d_X0_measure_88 : At cX0_measure 88 (.iload_n 3) 1 89 := ⟨by decide +kernel, rfl⟩
theorem d_X0_measure_89 : At cX0_measure 89 (.iload 5) 2 91 := ⟨by decide +kernel, rfl⟩
theorem d_X0_measure_91 : At cX0_measure 91 (.invokevirtual 72) 3 94 := ⟨by decide +kernel, rfl⟩
theorem d_X0_measure_94 : At cX0_measure 94 (.aload_n 0) 1 95 := ⟨by decide +kernel, rfl⟩
theorem d_X0_measure_95 : At cX0_measure 95 (.iload_n 3) 1 96 := ⟨by decide +kernel, rfl⟩
theorem d_X0_measure_96 : At cX0_measure 96 (.invokevirtual 82) 3 99 := ⟨by decide +kernel, rfl⟩
theorem d_X0_measure_99 : At cX0_measure 99 (.iconst 1) 1 100 := ⟨by decide +kernel, rfl⟩
theorem d_X0_measure_100 : At cX0_measure 100 (.iadd) 1 101 := ⟨by decide +kernel, rfl⟩
theorem d_X0_measure_101 : At cX0_measure 101 (.invokevirtual 79) 3 104 := ⟨by decide +kernel, rfl⟩
theorem d_X0_measure_104 : At cX0_measure 104 (.iinc 5 1) 3 107 := ⟨by decide +kernel, rfl⟩
theorem d_X0_measure_107 : Br cX0_measure 107 (.goto (-28)) (-28) 110 79 := ⟨by decide +kernel, rfl, rfl⟩
theorem d_X0_measure_110 : At cX0_measure 110 (.iinc 3 1) 3 113 := ⟨by decide +kernel, rfl⟩
theorem d_X0_measure_113 : Br cX0_measure 113 (.goto (-58)) (-58) 116 55 := ⟨by decide +kernel, rfl, rfl⟩
theorem d_X0_measure_116 : Go cX0_measure 116 (.return_) 1 := (by decide +kernel : decode cX0_measure 116 = .ok (.return_, 1))
theorem d_X0_setSpan_0 : At cX0_setSpan 0 (.iload_n 1) 1 1 := ⟨by decide +kernel, rfl⟩
theorem d_X0_setSpan_1 : At cX0_setSpan 1 (.invokestatic 55) 3 4 := ⟨by decide +kernel, rfl⟩
theorem d_X0_setSpan_4 : Br cX0_setSpan 4 (.ifCond .eq 10) (10) 7 14 := ⟨by decide +kernel, rfl, rfl⟩
theorem d_X0_setSpan_7 : At cX0_setSpan 7 (.aload_n 0) 1 8 := ⟨by decide +kernel, rfl⟩
theorem d_X0_setSpan_8 : At cX0_setSpan 8 (.getfield 24) 3 11 := ⟨by decide +kernel, rfl⟩
theorem d_X0_setSpan_11 : At cX0_setSpan 11 (.iload_n 1) 1 12 := ⟨by decide +kernel, rfl⟩
theorem d_X0_setSpan_12 : At cX0_setSpan 12 (.iload_n 2) 1 13 := ⟨by decide +kernel, rfl⟩
theorem d_X0_setSpan_13 : At cX0_setSpan 13 (.iastore) 1 14 := ⟨by decide +kernel, rfl⟩
theorem d_X0_setSpan_14 : Go cX0_setSpan 14 (.return_) 1 := (by decide +kernel : decode cX0_setSpan 14 = .ok (.return_, 1))
theorem d_X0_setDepth_0 : At cX0_setDepth 0 (.iload_n 1) 1 1 := ⟨by decide +kernel, rfl⟩
theorem d_X0_setDepth_1 : At cX0_setDepth 1 (.invokestatic 55) 3 4 := ⟨by decide +kernel, rfl⟩
theorem d_X0_setDepth_4 : Br cX0_setDepth 4 (.ifCond .eq 10) (10) 7 14 := ⟨by decide +kernel, rfl, rfl⟩
theorem d_X0_setDepth_7 : At cX0_setDepth 7 (.aload_n 0) 1 8 := ⟨by decide +kernel, rfl⟩
theorem d_X0_setDepth_8 : At cX0_setDepth 8 (.getfield 27) 3 11 := ⟨by decide +kernel, rfl⟩
theorem d_X0_setDepth_11 : At cX0_setDepth 11 (.iload_n 1) 1 12 := ⟨by decide +kernel, rfl⟩
theorem d_X0_setDepth_12 : At cX0_setDepth 12 (.iload_n 2) 1 13 := ⟨by decide +kernel, rfl⟩
theorem d_X0_setDepth_13 : At cX0_setDepth 13 (.iastore) 1 14 := ⟨by decide +kernel, rfl⟩
theorem d_X0_setDepth_14 : Go cX0_setDepth 14 (.return_) 1 := (by decide +kernel : decode cX0_setDepth 14 = .ok (.return_, 1))
theorem d_X0_count_0 : At cX0_count 0 (.iload_n 1) 1 1 := ⟨by decide +kernel, rfl⟩
theorem d_X0_count_1 : At cX0_count 1 (.invokestatic 42) 3 4 := ⟨by decide +kernel, rfl⟩
theorem d_X0_count_4 : Br cX0_count 4 (.ifCond .eq 12) (12) 7 16 := ⟨by decide +kernel, rfl, rfl⟩
theorem d_X0_count_7 : At cX0_count 7 (.aload_n 0) 1 8 := ⟨by decide +kernel, rfl⟩
theorem d_X0_count_8 : At cX0_count 8 (.getfield 9) 3 11 := ⟨by decide +kernel, rfl⟩
theorem d_X0_count_11 : At cX0_count 11 (.iload_n 1) 1 12 := ⟨by decide +kernel, rfl⟩
theorem d_X0_count_12 : At cX0_count 12 (.iaload) 1 13 := ⟨by decide +kernel, rfl⟩
theorem d_X0_count_13 : Br cX0_count 13 (.goto 4) (4) 16 17 := ⟨by decide +kernel, rfl, rfl⟩
theorem d_X0_count_16 : At cX0_count 16 (.iconst 0) 1 17 := ⟨by decide +kernel, rfl⟩
theorem d_X0_count_17 : Go cX0_count 17 (.ireturn) 1 := (by decide +kernel : decode cX0_count 17 = .ok (.ireturn, 1))
theorem d_X0_root_0 : At cX0_root 0 (.iload_n 1) 1 1 := ⟨by decide +kernel, rfl⟩
theorem d_X0_root_1 : At cX0_root 1 (.invokestatic 42) 3 4 := ⟨by decide +kernel, rfl⟩
theorem d_X0_root_4 : Br cX0_root 4 (.ifCond .eq 10) (10) 7 14 := ⟨by decide +kernel, rfl, rfl⟩
theorem d_X0_root_7 : At cX0_root 7 (.iload_n 1) 1 8 := ⟨by decide +kernel, rfl⟩
theorem d_X0_root_8 : At cX0_root 8 (.bipush 30) 2 10 := ⟨by decide +kernel, rfl⟩
theorem d_X0_root_10 : At cX0_root 10 (.imul) 1 11 := ⟨by decide +kernel, rfl⟩
theorem d_X0_root_11 : Br cX0_root 11 (.goto 4) (4) 14 15 := ⟨by decide +kernel, rfl, rfl⟩
theorem d_X0_root_14 : At cX0_root 14 (.iconst 0) 1 15 := ⟨by decide +kernel, rfl⟩
theorem d_X0_root_15 : Go cX0_root 15 (.ireturn) 1 := (by decide +kernel : decode cX0_root 15 = .ok (.ireturn, 1))
theorem d_X0_textPlace_0 : At cX0_textPlace 0 (.iload_n 1) 1 1 := ⟨by decide +kernel, rfl⟩
theorem d_X0_textPlace_1 : At cX0_textPlace 1 (.iconst 1) 1 2 := ⟨by decide +kernel, rfl⟩
theorem d_X0_textPlace_2 : At cX0_textPlace 2 (.iadd) 1 3 := ⟨by decide +kernel, rfl⟩
theorem d_X0_textPlace_3 : At cX0_textPlace 3 (.istore_n 3) 1 4 := ⟨by decide +kernel, rfl⟩
theorem d_X0_textPlace_4 : At cX0_textPlace 4 (.iconst 0) 1 5 := ⟨by decide +kernel, rfl⟩
theorem d_X0_textPlace_5 : At cX0_textPlace 5 (.istore 4) 2 7 := ⟨by decide +kernel, rfl⟩
theorem d_X0_textPlace_7 : At cX0_textPlace 7 (.iload 4) 2 9 := ⟨by decide +kernel, rfl⟩
theorem d_X0_textPlace_9 : At cX0_textPlace 9 (.iload_n 2) 1 10 := ⟨by decide +kernel, rfl⟩
theorem d_X0_textPlace_10 : Br cX0_textPlace 10 (.if_icmp .ge 28) (28) 13 38 := ⟨by decide +kernel, rfl, rfl⟩
theorem d_X0_textPlace_13 : At cX0_textPlace 13 (.iload_n 3) 1 14 := ⟨by decide +kernel, rfl⟩
theorem d_X0_textPlace_14 : Br cX0_textPlace 14 (.ifCond .lt 24) (24) 17 38 := ⟨by decide +kernel, rfl, rfl⟩
theorem d_X0_textPlace_17 : At cX0_textPlace 17 (.iload_n 3) 1 18 := ⟨by decide +kernel, rfl⟩
theorem d_X0_textPlace_18 : At cX0_textPlace 18 (.bipush 120) 2 20 := ⟨by decide +kernel, rfl⟩
theorem d_X0_textPlace_20 : Br cX0_textPlace 20 (.if_icmp .ge 18) (18) 23 38 := ⟨by decide +kernel, rfl, rfl⟩
theorem d_X0_textPlace_23 : At cX0_textPlace 23 (.iload_n 3) 1 24 := ⟨by decide +kernel, rfl⟩
theorem d_X0_textPlace_24 : At cX0_textPlace 24 (.aload_n 0) 1 25 := ⟨by decide +kernel, rfl⟩
theorem d_X0_textPlace_25 : At cX0_textPlace 25 (.getfield 24) 3 28 := ⟨by decide +kernel, rfl⟩
theorem d_X0_textPlace_28 : At cX0_textPlace 28 (.iload_n 3) 1 29 := ⟨by decide +kernel, rfl⟩
theorem d_X0_textPlace_29 : At cX0_textPlace 29 (.iaload) 1 30 := ⟨by decide +kernel, rfl⟩
theorem d_X0_textPlace_30 : At cX0_textPlace 30 (.iadd) 1 31 := ⟨by decide +kernel, rfl⟩
theorem d_X0_textPlace_31 : At cX0_textPlace 31 (.istore_n 3) 1 32 := ⟨by decide +kernel, rfl⟩
theorem d_X0_textPlace_32 : At cX0_textPlace 32 (.iinc 4 1) 3 35 := ⟨by decide +kernel, rfl⟩
theorem d_X0_textPlace_35 : Br cX0_textPlace 35 (.goto (-28)) (-28) 38 7 := ⟨by decide +kernel, rfl, rfl⟩
theorem d_X0_textPlace_38 : At cX0_textPlace 38 (.iload_n 3) 1 39 := ⟨by decide +kernel, rfl⟩
theorem d_X0_textPlace_39 : Go cX0_textPlace 39 (.ireturn) 1 := (by decide +kernel : decode cX0_textPlace 39 = .ok (.ireturn, 1))
theorem d_X0_signAt_0 : At cX0_signAt 0 (.iload_n 1) 1 1 := ⟨by decide +kernel, rfl⟩
theorem d_X0_signAt_1 : At cX0_signAt 1 (.invokestatic 55) 3 4 := ⟨by decide +kernel, rfl⟩
theorem d_X0_signAt_4 : Br cX0_signAt 4 (.ifCond .eq 12) (12) 7 16 := ⟨by decide +kernel, rfl, rfl⟩
theorem d_X0_signAt_7 : At cX0_signAt 7 (.aload_n 0) 1 8 := ⟨by decide +kernel, rfl⟩
theorem d_X0_signAt_8 : At cX0_signAt 8 (.getfield 15) 3 11 := ⟨by decide +kernel, rfl⟩
theorem d_X0_signAt_11 : At cX0_signAt 11 (.iload_n 1) 1 12 := ⟨by decide +kernel, rfl⟩
theorem d_X0_signAt_12 : At cX0_signAt 12 (.iaload) 1 13 := ⟨by decide +kernel, rfl⟩
theorem d_X0_signAt_13 : Br cX0_signAt 13 (.goto 5) (5) 16 18 := ⟨by decide +kernel, rfl, rfl⟩
theorem d_X0_signAt_16 : At cX0_signAt 16 (.bipush 33) 2 18 := ⟨by decide +kernel, rfl⟩
theorem d_X0_signAt_18 : Go cX0_signAt 18 (.ireturn) 1 := (by decide +kernel : decode cX0_signAt 18 = .ok (.ireturn, 1))
theorem d_X0_kindAt_0 : At cX0_kindAt 0 (.iload_n 1) 1 1 := ⟨by decide +kernel, rfl⟩
theorem d_X0_kindAt_1 : At cX0_kindAt 1 (.invokestatic 55) 3 4 := ⟨by decide +kernel, rfl⟩
theorem d_X0_kindAt_4 : Br cX0_kindAt 4 (.ifCond .eq 12) (12) 7 16 := ⟨by decide +kernel, rfl, rfl⟩
theorem d_X0_kindAt_7 : At cX0_kindAt 7 (.aload_n 0) 1 8 := ⟨by decide +kernel, rfl⟩
theorem d_X0_kindAt_8 : At cX0_kindAt 8 (.getfield 18) 3 11 := ⟨by decide +kernel, rfl⟩
theorem d_X0_kindAt_11 : At cX0_kindAt 11 (.iload_n 1) 1 12 := ⟨by decide +kernel, rfl⟩
theorem d_X0_kindAt_12 : At cX0_kindAt 12 (.iaload) 1 13 := ⟨by decide +kernel, rfl⟩
theorem d_X0_kindAt_13 : Br cX0_kindAt 13 (.goto 4) (4) 16 17 := ⟨by decide +kernel, rfl, rfl⟩
theorem d_X0_kindAt_16 : At cX0_kindAt 16 (.iconst 2) 1 17 := ⟨by decide +kernel, rfl⟩
theorem d_X0_kindAt_17 : Go cX0_kindAt 17 (.ireturn) 1 := (by decide +kernel : decode cX0_kindAt 17 = .ok (.ireturn, 1))
theorem d_X0_worthAt_0 : At cX0_worthAt 0 (.iload_n 1) 1 1 := ⟨by decide +kernel, rfl⟩
theorem d_X0_worthAt_1 : At cX0_worthAt 1 (.invokestatic 55) 3 4 := ⟨by decide +kernel, rfl⟩
theorem d_X0_worthAt_4 : Br cX0_worthAt 4 (.ifCond .eq 12) (12) 7 16 := ⟨by decide +kernel, rfl, rfl⟩
theorem d_X0_worthAt_7 : At cX0_worthAt 7 (.aload_n 0) 1 8 := ⟨by decide +kernel, rfl⟩
theorem d_X0_worthAt_8 : At cX0_worthAt 8 (.getfield 21) 3 11 := ⟨by decide +kernel, rfl⟩
theorem d_X0_worthAt_11 : At cX0_worthAt 11 (.iload_n 1) 1 12 := ⟨by decide +kernel, rfl⟩
theorem d_X0_worthAt_12 : At cX0_worthAt 12 (.iaload) 1 13 := ⟨by decide +kernel, rfl⟩
theorem d_X0_worthAt_13 : Br cX0_worthAt 13 (.goto 4) (4) 16 17 := ⟨by decide +kernel, rfl, rfl⟩
theorem d_X0_worthAt_16 : At cX0_worthAt 16 (.iconst 0) 1 17 := ⟨by decide +kernel, rfl⟩
theorem d_X0_worthAt_17 : Go cX0_worthAt 17 (.ireturn) 1 := (by decide +kernel : decode cX0_worthAt 17 = .ok (.ireturn, 1))
theorem d_X0_spanAt_0 : At cX0_spanAt 0 (.iload_n 1) 1 1 := ⟨by decide +kernel, rfl⟩
theorem d_X0_spanAt_1 : At cX0_spanAt 1 (.invokestatic 55) 3 4 := ⟨by decide +kernel, rfl⟩
theorem d_X0_spanAt_4 : Br cX0_spanAt 4 (.ifCond .eq 12) (12) 7 16 := ⟨by decide +kernel, rfl, rfl⟩
theorem d_X0_spanAt_7 : At cX0_spanAt 7 (.aload_n 0) 1 8 := ⟨by decide +kernel, rfl⟩
theorem d_X0_spanAt_8 : At cX0_spanAt 8 (.getfield 24) 3 11 := ⟨by decide +kernel, rfl⟩
theorem d_X0_spanAt_11 : At cX0_spanAt 11 (.iload_n 1) 1 12 := ⟨by decide +kernel, rfl⟩
theorem d_X0_spanAt_12 : At cX0_spanAt 12 (.iaload) 1 13 := ⟨by decide +kernel, rfl⟩
theorem d_X0_spanAt_13 : Br cX0_spanAt 13 (.goto 4) (4) 16 17 := ⟨by decide +kernel, rfl, rfl⟩
theorem d_X0_spanAt_16 : At cX0_spanAt 16 (.iconst 1) 1 17 := ⟨by decide +kernel, rfl⟩
theorem d_X0_spanAt_17 : Go cX0_spanAt 17 (.ireturn) 1 := (by decide +kernel : decode cX0_spanAt 17 = .ok (.ireturn, 1))
theorem d_X0_depthAt_0 : At cX0_depthAt 0 (.iload_n 1) 1 1 := ⟨by decide +kernel, rfl⟩
theorem d_X0_depthAt_1 : At cX0_depthAt 1 (.invokestatic 55) 3 4 := ⟨by decide +kernel, rfl⟩
theorem d_X0_depthAt_4 : Br cX0_depthAt 4 (.ifCond .eq 12) (12) 7 16 := ⟨by decide +kernel, rfl, rfl⟩
theorem d_X0_depthAt_7 : At cX0_depthAt 7 (.aload_n 0) 1 8 := ⟨by decide +kernel, rfl⟩
theorem d_X0_depthAt_8 : At cX0_depthAt 8 (.getfield 27) 3 11 := ⟨by decide +kernel, rfl⟩
theorem d_X0_depthAt_11 : At cX0_depthAt 11 (.iload_n 1) 1 12 := ⟨by decide +kernel, rfl⟩
theorem d_X0_depthAt_12 : At cX0_depthAt 12 (.iaload) 1 13 := ⟨by decide +kernel, rfl⟩
theorem d_X0_depthAt_13 : Br cX0_depthAt 13 (.goto 4) (4) 16 17 := ⟨by decide +kernel, rfl, rfl⟩
theorem d_X0_depthAt_16 : At cX0_depthAt 16 (.iconst 0) 1 17 := ⟨by decide +kernel, rfl⟩
theorem d_X0_depthAt_17 : Go cX0_depthAt 17 (.ireturn) 1 := (by decide +kernel : decode cX0_depthAt 17 = .ok (.ireturn, 1))
theorem d_X1_init_0 : At cX1_init 0 (.aload_n 0) 1 1 := ⟨by decide +kernel, rfl⟩
theorem d_X1_init_1 : At cX1_init 1 (.invokespecial 5) 3 4 := ⟨by decide +kernel, rfl⟩
theorem d_X1_init_4 : At cX1_init 4 (.aload_n 0) 1 5 := ⟨by decide +kernel, rfl⟩
theorem d_X1_init_5 : At cX1_init 5 (.bipush 120) 2 7 := ⟨by decide +kernel, rfl⟩
theorem d_X1_init_7 : At cX1_init 7 (.newarray .int) 2 9 := ⟨by decide +kernel, rfl⟩
theorem d_X1_init_9 : At cX1_init 9 (.putfield 11) 3 12 := ⟨by decide +kernel, rfl⟩
theorem d_X1_init_12 : At cX1_init 12 (.aload_n 0) 1 13 := ⟨by decide +kernel, rfl⟩
theorem d_X1_init_13 : At cX1_init 13 (.bipush 12) 2 15 := ⟨by decide +kernel, rfl⟩
theorem d_X1_init_15 : At cX1_init 15 (.newarray .int) 2 17 := ⟨by decide +kernel, rfl⟩
theorem d_X1_init_17 : At cX1_init 17 (.putfield 15) 3 20 := ⟨by decide +kernel, rfl⟩
theorem d_X1_init_20 : At cX1_init 20 (.aload_n 0) 1 21 := ⟨by decide +kernel, rfl⟩
theorem d_X1_init_21 : At cX1_init 21 (.bipush 12) 2 23 := ⟨by decide +kernel, rfl⟩
theorem d_X1_init_23 : At cX1_init 23 (.newarray .int) 2 25 := ⟨by decide +kernel, rfl⟩
theorem d_X1_init_25 : At cX1_init 25 (.putfield 18) 3 28 := ⟨by decide +kernel, rfl⟩
theorem d_X1_init_28 : At cX1_init 28 (.aload_n 0) 1 29 := ⟨by decide +kernel, rfl⟩
theorem d_X1_init_29 : At cX1_init 29 (.aload_n 1) 1 30 := ⟨by decide +kernel, rfl⟩
theorem d_X1_init_30 : At cX1_init 30 (.putfield 21) 3 33 := ⟨by decide +kernel, rfl⟩
theorem d_X1_init_33 : Go cX1_init 33 (.return_) 1 := (by decide +kernel : decode cX1_init 33 = .ok (.return_, 1))
theorem d_X1_renew_0 : At cX1_renew 0 (.aload_n 0) 1 1 := ⟨by decide +kernel, rfl⟩
theorem d_X1_renew_1 : At cX1_renew 1 (.getfield 15) 3 4 := ⟨by decide +kernel, rfl⟩
theorem d_X1_renew_4 : At cX1_renew 4 (.iconst 0) 1 5 := ⟨by decide +kernel, rfl⟩
theorem d_X1_renew_5 : At cX1_renew 5 (.invokestatic 25) 3 8 := ⟨by decide +kernel, rfl⟩
theorem d_X1_renew_8 : At cX1_renew 8 (.iconst 1) 1 9 := ⟨by decide +kernel, rfl⟩
theorem d_X1_renew_9 : At cX1_renew 9 (.istore_n 1) 1 10 := ⟨by decide +kernel, rfl⟩
theorem d_X1_renew_10 : At cX1_renew 10 (.iconst 0) 1 11 := ⟨by decide +kernel, rfl⟩
theorem d_X1_renew_11 : At cX1_renew 11 (.istore_n 2) 1 12 := ⟨by decide +kernel, rfl⟩
theorem d_X1_renew_12 : At cX1_renew 12 (.iload_n 1) 1 13 := ⟨by decide +kernel, rfl⟩
theorem d_X1_renew_13 : Br cX1_renew 13 (.ifCond .eq 50) (50) 16 63 := ⟨by decide +kernel, rfl, rfl⟩
theorem d_X1_renew_16 : At cX1_renew 16 (.iload_n 2) 1 17 := ⟨by decide +kernel, rfl⟩
theorem d_X1_renew_17 : At cX1_renew 17 (.bipush 25) 2 19 := ⟨by decide +kernel, rfl⟩
theorem d_X1_renew_19 : Br cX1_renew 19 (.if_icmp .ge 44) (44) 22 63 := ⟨by decide +kernel, rfl, rfl⟩
theorem d_X1_renew_22 : At cX1_renew 22 (.iconst 0) 1 23 := ⟨by decide +kernel, rfl⟩
theorem d_X1_renew_23 : At cX1_renew 23 (.istore_n 3) 1 24 := ⟨by decide +kernel, rfl⟩
theorem d_X1_renew_24 : At cX1_renew 24 (.iload_n 3) 1 25 := ⟨by decide +kernel, rfl⟩
theorem d_X1_renew_25 : At cX1_renew 25 (.bipush 12) 2 27 := ⟨by decide +kernel, rfl⟩
theorem d_X1_renew_27 : Br cX1_renew 27 (.if_icmp .ge 25) (25) 30 52 := ⟨by decide +kernel, rfl, rfl⟩
theorem d_X1_renew_30 : At cX1_renew 30 (.aload_n 0) 1 31 := ⟨by decide +kernel, rfl⟩
theorem d_X1_renew_31 : At cX1_renew 31 (.getfield 18) 3 34 := ⟨by decide +kernel, rfl⟩
theorem d_X1_renew_34 : At cX1_renew 34 (.iload_n 3) 1 35 := ⟨by decide +kernel, rfl⟩
theorem d_X1_renew_35 : At cX1_renew 35 (.aload_n 0) 1 36 := ⟨by decide +kernel, rfl⟩
theorem d_X1_renew_36 : At cX1_renew 36 (.iload_n 3) 1 37 := ⟨by decide +kernel, rfl⟩
theorem d_X1_renew_37 : At cX1_renew 37 (.iconst 3) 1 38 := ⟨by decide +kernel, rfl⟩
theorem d_X1_renew_38 : At cX1_renew 38 (.idiv) 1 39 := ⟨by decide +kernel, rfl⟩
theorem d_X1_renew_39 : At cX1_renew 39 (.iload_n 3) 1 40 := ⟨by decide +kernel, rfl⟩
theorem d_X1_renew_40 : At cX1_renew 40 (.iconst 3) 1 41 := ⟨by decide +kernel, rfl⟩
theorem d_X1_renew_41 : At cX1_renew 41 (.irem) 1 42 := ⟨by decide +kernel, rfl⟩
theorem d_X1_renew_42 : At cX1_renew 42 (.invokevirtual 31) 3 45 := ⟨by decide +kernel, rfl⟩
theorem d_X1_renew_45 : At cX1_renew 45 (.iastore) 1 46 := ⟨by decide +kernel, rfl⟩
theorem d_X1_renew_46 : At cX1_renew 46 (.iinc 3 1) 3 49 := ⟨by decide +kernel, rfl⟩
theorem d_X1_renew_49 : Br cX1_renew 49 (.goto (-25)) (-25) 52 24 := ⟨by decide +kernel, rfl, rfl⟩
theorem d_X1_renew_52 : At cX1_renew 52 (.aload_n 0) 1 53 := ⟨by decide +kernel, rfl⟩
theorem d_X1_renew_53 : At cX1_renew 53 (.invokevirtual 35) 3 56 := ⟨by decide +kernel, rfl⟩
theorem d_X1_renew_56 : At cX1_renew 56 (.istore_n 1) 1 57 := ⟨by decide +kernel, rfl⟩
theorem d_X1_renew_57 : At cX1_renew 57 (.iinc 2 1) 3 60 := ⟨by decide +kernel, rfl⟩
theorem d_X1_renew_60 : Br cX1_renew 60 (.goto (-48)) (-48) 63 12 := ⟨by decide +kernel, rfl, rfl⟩
theorem d_X1_renew_63 : Go cX1_renew 63 (.return_) 1 := (by decide +kernel : decode cX1_renew 63 = .ok (.return_, 1))
theorem d_X1_takeNext_0 : At cX1_takeNext 0 (.iconst 0) 1 1 := ⟨by decide +kernel, rfl⟩
theorem d_X1_takeNext_1 : At cX1_takeNext 1 (.istore_n 1) 1 2 := ⟨by decide +kernel, rfl⟩
theorem d_X1_takeNext_2 : At cX1_takeNext 2 (.iconst 0) 1 3 := ⟨by decide +kernel, rfl⟩
theorem d_X1_takeNext_3 : At cX1_takeNext 3 (.istore_n 2) 1 4 := ⟨by decide +kernel, rfl⟩
theorem d_X1_takeNext_4 : At cX1_takeNext 4 (.iload_n 2) 1 5 := ⟨by decide +kernel, rfl⟩
theorem d_X1_takeNext_5 : At cX1_takeNext 5 (.bipush 12) 2 7 := ⟨by decide +kernel, rfl⟩
theorem d_X1_takeNext_7 : Br cX1_takeNext 7 (.if_icmp .ge 46) (46) 10 53 := ⟨by decide +kernel, rfl, rfl⟩
theorem d_X1_takeNext_10 : At cX1_takeNext 10 (.iload_n 1) 1 11 := ⟨by decide +kernel, rfl⟩
theorem d_X1_takeNext_11 : Br cX1_takeNext 11 (.ifCond .ne 18) (18) 14 29 := ⟨by decide +kernel, rfl, rfl⟩
theorem d_X1_takeNext_14 : At cX1_takeNext 14 (.aload_n 0) 1 15 := ⟨by decide +kernel, rfl⟩
theorem d_X1_takeNext_15 : At cX1_takeNext 15 (.getfield 18) 3 18 := ⟨by decide +kernel, rfl⟩
theorem d_X1_takeNext_18 : At cX1_takeNext 18 (.iload_n 2) 1 19 := ⟨by decide +kernel, rfl⟩
theorem d_X1_takeNext_19 : At cX1_takeNext 19 (.iaload) 1 20 := ⟨by decide +kernel, rfl⟩
theorem d_X1_takeNext_20 : At cX1_takeNext 20 (.aload_n 0) 1 21 := ⟨by decide +kernel, rfl⟩
theorem d_X1_takeNext_21 : At cX1_takeNext 21 (.getfield 15) 3 24 := ⟨by decide +kernel, rfl⟩
theorem d_X1_takeNext_24 : At cX1_takeNext 24 (.iload_n 2) 1 25 := ⟨by decide +kernel, rfl⟩
theorem d_X1_takeNext_25 : At cX1_takeNext 25 (.iaload) 1 26 := ⟨by decide +kernel, rfl⟩
theorem d_X1_takeNext_26 : Br cX1_takeNext 26 (.if_icmp .eq 7) (7) 29 33 := ⟨by decide +kernel, rfl, rfl⟩
theorem d_X1_takeNext_29 : At cX1_takeNext 29 (.iconst 1) 1 30 := ⟨by decide +kernel, rfl⟩
theorem d_X1_takeNext_30 : Br cX1_takeNext 30 (.goto 4) (4) 33 34 := ⟨by decide +kernel, rfl, rfl⟩
theorem d_X1_takeNext_33 : At cX1_takeNext 33 (.iconst 0) 1 34 := ⟨by decide +kernel, rfl⟩
theorem d_X1_takeNext_34 : At cX1_takeNext 34 (.istore_n 1) 1 35 := ⟨by decide +kernel, rfl⟩
theorem d_X1_takeNext_35 : At cX1_takeNext 35 (.aload_n 0) 1 36 := ⟨by decide +kernel, rfl⟩
theorem d_X1_takeNext_36 : At cX1_takeNext 36 (.getfield 15) 3 39 := ⟨by decide +kernel, rfl⟩
theorem d_X1_takeNext_39 : At cX1_takeNext 39 (.iload_n 2) 1 40 := ⟨by decide +kernel, rfl⟩
theorem d_X1_takeNext_40 : At cX1_takeNext 40 (.aload_n 0) 1 41 := ⟨by decide +kernel, rfl⟩
theorem d_X1_takeNext_41 : At cX1_takeNext 41 (.getfield 18) 3 44 := ⟨by decide +kernel, rfl⟩
theorem d_X1_takeNext_44 : At cX1_takeNext 44 (.iload_n 2) 1 45 := ⟨by decide +kernel, rfl⟩
theorem d_X1_takeNext_45 : At cX1_takeNext 45 (.iaload) 1 46 := ⟨by decide +kernel, rfl⟩
theorem d_X1_takeNext_46 : At cX1_takeNext 46 (.iastore) 1 47 := ⟨by decide +kernel, rfl⟩
theorem d_X1_takeNext_47 : At cX1_takeNext 47 (.iinc 2 1) 3 50 := ⟨by decide +kernel, rfl⟩
theorem d_X1_takeNext_50 : Br cX1_takeNext 50 (.goto (-46)) (-46) 53 4 := ⟨by decide +kernel, rfl, rfl⟩
theorem d_X1_takeNext_53 : At cX1_takeNext 53 (.iload_n 1) 1 54 := ⟨by decide +kernel, rfl⟩
theorem d_X1_takeNext_54 : Go cX1_takeNext 54 (.ireturn) 1 := (by decide +kernel : decode cX1_takeNext 54 = .ok (.ireturn, 1))
theorem d_X1_countIn_0 : At cX1_countIn 0 (.aload_n 0) 1 1 := ⟨by decide +kernel, rfl⟩
theorem d_X1_countIn_1 : At cX1_countIn 1 (.getfield 21) 3 4 := ⟨by decide +kernel, rfl⟩
theorem d_X1_countIn_4 : At cX1_countIn 4 (.iload_n 1) 1 5 := ⟨by decide +kernel, rfl⟩
theorem d_X1_countIn_5 : At cX1_countIn 5 (.invokevirtual 39) 3 8 := ⟨by decide +kernel, rfl⟩
theorem d_X1_countIn_8 : At cX1_countIn 8 (.istore_n 3) 1 9 := ⟨by decide +kernel, rfl⟩
theorem d_X1_countIn_9 : At cX1_countIn 9 (.iload_n 3) 1 10 := ⟨by decide +kernel, rfl⟩
theorem d_X1_countIn_10 : At cX1_countIn 10 (.aload_n 0) 1 11 := ⟨by decide +kernel, rfl⟩
theorem d_X1_countIn_11 : At cX1_countIn 11 (.getfield 21) 3 14 := ⟨by decide +kernel, rfl⟩
theorem d_X1_countIn_14 : At cX1_countIn 14 (.iload_n 1) 1 15 := ⟨by decide +kernel, rfl⟩
theorem d_X1_countIn_15 : At cX1_countIn 15 (.invokevirtual 45) 3 18 := ⟨by decide +kernel, rfl⟩
theorem d_X1_countIn_18 : At cX1_countIn 18 (.iadd) 1 19 := ⟨by decide +kernel, rfl⟩
theorem d_X1_countIn_19 : At cX1_countIn 19 (.iconst 1) 1 20 := ⟨by decide +kernel, rfl⟩
theorem d_X1_countIn_20 : At cX1_countIn 20 (.isub) 1 21 := ⟨by decide +kernel, rfl⟩
theorem d_X1_countIn_21 : At cX1_countIn 21 (.istore 4) 2 23 := ⟨by decide +kernel, rfl⟩
theorem d_X1_countIn_23 : At cX1_countIn 23 (.iload 4) 2 25 := ⟨by decide +kernel, rfl⟩
theorem d_X1_countIn_25 : At cX1_countIn 25 (.iload_n 3) 1 26 := ⟨by decide +kernel, rfl⟩
theorem d_X1_countIn_26 : Br cX1_countIn 26 (.if_icmp .lt 22) (22) 29 48 := ⟨by decide +kernel, rfl, rfl⟩
theorem d_X1_countIn_29 : At cX1_countIn 29 (.aload_n 0) 1 30 := ⟨by decide +kernel, rfl⟩
theorem d_X1_countIn_30 : At cX1_countIn 30 (.iload 4) 2 32 := ⟨by decide +kernel, rfl⟩
theorem d_X1_countIn_32 : At cX1_countIn 32 (.aload_n 0) 1 33 := ⟨by decide +kernel, rfl⟩
theorem d_X1_countIn_33 : At cX1_countIn 33 (.iload 4) 2 35 := ⟨by decide +kernel, rfl⟩
theorem d_X1_countIn_35 : At cX1_countIn 35 (.iload_n 2) 1 36 := ⟨by decide +kernel, rfl⟩
theorem d_X1_countIn_36 : At cX1_countIn 36 (.invokevirtual 48) 3 39 := ⟨by decide +kernel, rfl⟩
theorem d_X1_countIn_39 : At cX1_countIn 39 (.invokevirtual 51) 3 42 := ⟨by decide +kernel, rfl⟩
theorem d_X1_countIn_42 : At cX1_countIn 42 (.iinc 4 (-1)) 3 45 := ⟨by decide +kernel, rfl⟩
theorem d_X1_countIn_45 : Br cX1_countIn 45 (.goto (-22)) (-22) 48 23 := ⟨by decide +kernel, rfl, rfl⟩
theorem d_X1_countIn_48 : At cX1_countIn 48 (.aload_n 0) 1 49 := ⟨by decide +kernel, rfl⟩
theorem d_X1_countIn_49 : At cX1_countIn 49 (.iload_n 3) 1 50 := ⟨by decide +kernel, rfl⟩
theorem d_X1_countIn_50 : At cX1_countIn 50 (.invokevirtual 55) 3 53 := ⟨by decide +kernel, rfl⟩
theorem d_X1_countIn_53 : Go cX1_countIn 53 (.ireturn) 1 := (by decide +kernel : decode cX1_countIn 53 = .ok (.ireturn, 1))
theorem d_X1_countOf_0 : At cX1_countOf 0 (.aload_n 0) 1 1 := ⟨by decide +kernel, rfl⟩
theorem d_X1_countOf_1 : At cX1_countOf 1 (.getfield 21) 3 4 := ⟨by decide +kernel, rfl⟩
theorem d_X1_countOf_4 : At cX1_countOf 4 (.iload_n 1) 1 5 := ⟨by decide +kernel, rfl⟩
theorem d_X1_countOf_5 : At cX1_countOf 5 (.invokevirtual 58) 3 8 := ⟨by decide +kernel, rfl⟩
theorem d_X1_countOf_8 : Go cX1_countOf 8 (.tableswitch 111 3 6 #[32, 50, 68, 97]) 32 := (by decide +kernel : decode cX1_countOf 8 = .ok (.tableswitch 111 3 6 #[32, 50, 68, 97], 32))
theorem d_X1_countOf_40 : At cX1_countOf 40 (.aload_n 0) 1 41 := ⟨by decide +kernel, rfl⟩
theorem d_X1_countOf_41 : At cX1_countOf 41 (.getfield 21) 3 44 := ⟨by decide +kernel, rfl⟩
theorem d_X1_countOf_44 : At cX1_countOf 44 (.iload_n 1) 1 45 := ⟨by decide +kernel, rfl⟩
theorem d_X1_countOf_45 : At cX1_countOf 45 (.invokevirtual 61) 3 48 := ⟨by decide +kernel, rfl⟩
theorem d_X1_countOf_48 : At cX1_countOf 48 (.iload_n 2) 1 49 := ⟨by decide +kernel, rfl⟩
theorem d_X1_countOf_49 : Br cX1_countOf 49 (.if_icmp .ne 7) (7) 52 56 := ⟨by decide +kernel, rfl, rfl⟩
theorem d_X1_countOf_52 : At cX1_countOf 52 (.iconst 1) 1 53 := ⟨by decide +kernel, rfl⟩
theorem d_X1_countOf_53 : Br cX1_countOf 53 (.goto 4) (4) 56 57 := ⟨by decide +kernel, rfl, rfl⟩
theorem d_X1_countOf_56 : At cX1_countOf 56 (.iconst 0) 1 57 := ⟨by decide +kernel, rfl⟩
theorem d_X1_countOf_57 : Go cX1_countOf 57 (.ireturn) 1 := (by decide +kernel : decode cX1_countOf 57 = .ok (.ireturn, 1))
theorem d_X1_countOf_58 : At cX1_countOf 58 (.iconst 2) 1 59 := ⟨by decide +kernel, rfl⟩
theorem d_X1_countOf_59 : At cX1_countOf 59 (.aload_n 0) 1 60 := ⟨by decide +kernel, rfl⟩
theorem d_X1_countOf_60 : At cX1_countOf 60 (.iload_n 1) 1 61 := ⟨by decide +kernel, rfl⟩
theorem d_X1_countOf_61 : At cX1_countOf 61 (.iconst 0) 1 62 := ⟨by decide +kernel, rfl⟩
theorem d_X1_countOf_62 : At cX1_countOf 62 (.invokevirtual 64) 3 65 := ⟨by decide +kernel, rfl⟩
theorem d_X1_countOf_65 : At cX1_countOf 65 (.aload_n 0) 1 66 := ⟨by decide +kernel, rfl⟩
theorem d_X1_countOf_66 : At cX1_countOf 66 (.iload_n 1) 1 67 := ⟨by decide +kernel, rfl⟩
theorem d_X1_countOf_67 : At cX1_countOf 67 (.iconst 1) 1 68 := ⟨by decide +kernel, rfl⟩
theorem d_X1_countOf_68 : At cX1_countOf 68 (.invokevirtual 64) 3 71 := ⟨by decide +kernel, rfl⟩
theorem d_X1_countOf_71 : At cX1_countOf 71 (.iadd) 1 72 := ⟨by decide +kernel, rfl⟩
theorem d_X1_countOf_72 : At cX1_countOf 72 (.invokestatic 67) 3 75 := ⟨by decide +kernel, rfl⟩
theorem d_X1_countOf_75 : Go cX1_countOf 75 (.ireturn) 1 := (by decide +kernel : decode cX1_countOf 75 = .ok (.ireturn, 1))
theorem d_X1_countOf_76 : At cX1_countOf 76 (.aload_n 0) 1 77 := ⟨by decide +kernel, rfl⟩
theorem d_X1_countOf_77 : At cX1_countOf 77 (.iload_n 1) 1 78 := ⟨by decide +kernel, rfl⟩
theorem d_X1_countOf_78 : At cX1_countOf 78 (.iconst 1) 1 79 := ⟨by decide +kernel, rfl⟩
theorem d_X1_countOf_79 : At cX1_countOf 79 (.invokevirtual 64) 3 82 := ⟨by decide +kernel, rfl⟩
theorem d_X1_countOf_82 : At cX1_countOf 82 (.aload_n 0) 1 83 := ⟨by decide +kernel, rfl⟩
theorem d_X1_countOf_83 : At cX1_countOf 83 (.iload_n 1) 1 84 := ⟨by decide +kernel, rfl⟩
theorem d_X1_countOf_84 : At cX1_countOf 84 (.iconst 2) 1 85 := ⟨by decide +kernel, rfl⟩
theorem d_X1_countOf_85 : At cX1_countOf 85 (.invokevirtual 64) 3 88 := ⟨by decide +kernel, rfl⟩
theorem d_X1_countOf_88 : At cX1_countOf 88 (.invokestatic 72) 3 91 := ⟨by decide +kernel, rfl⟩
theorem d_X1_countOf_91 : At cX1_countOf 91 (.istore_n 3) 1 92 := ⟨by decide +kernel, rfl⟩
theorem d_X1_countOf_92 : At cX1_countOf 92 (.iconst 2) 1 93 := ⟨by decide +kernel, rfl⟩
theorem d_X1_countOf_93 : At cX1_countOf 93 (.aload_n 0) 1 94 := ⟨by decide +kernel, rfl⟩
theorem d_X1_countOf_94 : At cX1_countOf 94 (.iload_n 1) 1 95 := ⟨by decide +kernel, rfl⟩
theorem d_X1_countOf_95 : At cX1_countOf 95 (.iconst 0) 1 96 := ⟨by decide +kernel, rfl⟩
theorem d_X1_countOf_96 : At cX1_countOf 96 (.invokevirtual 64) 3 99 := ⟨by decide +kernel, rfl⟩
theorem d_X1_countOf_99 : At cX1_countOf 99 (.iload_n 3) 1 100 := ⟨by decide +kernel, rfl⟩
theorem d_X1_countOf_100 : At cX1_countOf 100 (.iadd) 1 101 := ⟨by decide +kernel, rfl⟩
theorem d_X1_countOf_101 : At cX1_countOf 101 (.invokestatic 67) 3 104 := ⟨by decide +kernel, rfl⟩
theorem d_X1_countOf_104 : Go cX1_countOf 104 (.ireturn) 1 := (by decide +kernel : decode cX1_countOf 104 = .ok (.ireturn, 1))
theorem d_X1_countOf_105 : At cX1_countOf 105 (.aload_n 0) 1 106 := ⟨by decide +kernel, rfl⟩
theorem d_X1_countOf_106 : At cX1_countOf 106 (.iload_n 1) 1 107 := ⟨by decide +kernel, rfl⟩
theorem d_X1_countOf_107 : At cX1_countOf 107 (.aload_n 0) 1 108 := ⟨by decide +kernel, rfl⟩
theorem d_X1_countOf_108 : At cX1_countOf 108 (.getfield 21) 3 111 := ⟨by decide +kernel, rfl⟩
theorem d_X1_countOf_111 : At cX1_countOf 111 (.iload_n 1) 1 112 := ⟨by decide +kernel, rfl⟩
theorem d_X1_countOf_112 : At cX1_countOf 112 (.invokevirtual 61) 3 115 := ⟨by decide +kernel, rfl⟩
theorem d_X1_countOf_115 : At cX1_countOf 115 (.invokevirtual 75) 3 118 := ⟨by decide +kernel, rfl⟩
theorem d_X1_countOf_118 : Go cX1_countOf 118 (.ireturn) 1 := (by decide +kernel : decode cX1_countOf 118 = .ok (.ireturn, 1))
theorem d_X1_countOf_119 : At cX1_countOf 119 (.iconst 0) 1 120 := ⟨by decide +kernel, rfl⟩
theorem d_X1_countOf_120 : Go cX1_countOf 120 (.ireturn) 1 := (by decide +kernel : decode cX1_countOf 120 = .ok (.ireturn, 1))
theorem d_X1_callCount_0 : At cX1_callCount 0 (.iconst 0) 1 1 := ⟨by decide +kernel, rfl⟩
theorem d_X1_callCount_1 : At cX1_callCount 1 (.istore_n 3) 1 2 := ⟨by decide +kernel, rfl⟩
theorem d_X1_callCount_2 : At cX1_callCount 2 (.iconst 0) 1 3 := ⟨by decide +kernel, rfl⟩
theorem d_X1_callCount_3 : At cX1_callCount 3 (.istore 4) 2 5 := ⟨by decide +kernel, rfl⟩
theorem d_X1_callCount_5 : At cX1_callCount 5 (.iload 4) 2 7 := ⟨by decide +kernel, rfl⟩
theorem d_X1_callCount_7 : At cX1_callCount 7 (.iload_n 2) 1 8 := ⟨by decide +kernel, rfl⟩
theorem d_X1_callCount_8 : At cX1_callCount 8 (.invokestatic 78) 3 11 := ⟨by decide +kernel, rfl⟩
theorem d_X1_callCount_11 : Br cX1_callCount 11 (.if_icmp .ge 27) (27) 14 38 := ⟨by decide +kernel, rfl, rfl⟩
theorem d_X1_callCount_14 : At cX1_callCount 14 (.iload_n 3) 1 15 := ⟨by decide +kernel, rfl⟩
theorem d_X1_callCount_15 : At cX1_callCount 15 (.aload_n 0) 1 16 := ⟨by decide +kernel, rfl⟩
theorem d_X1_callCount_16 : At cX1_callCount 16 (.iload_n 2) 1 17 := ⟨by decide +kernel, rfl⟩
theorem d_X1_callCount_17 : At cX1_callCount 17 (.iload 4) 2 19 := ⟨by decide +kernel, rfl⟩
theorem d_X1_callCount_19 : At cX1_callCount 19 (.invokevirtual 81) 3 22 := ⟨by decide +kernel, rfl⟩
theorem d_X1_callCount_22 : At cX1_callCount 22 (.aload_n 0) 1 23 := ⟨by decide +kernel, rfl⟩
theorem d_X1_callCount_23 : At cX1_callCount 23 (.iload_n 1) 1 24 := ⟨by decide +kernel, rfl⟩
theorem d_X1_callCount_24 : At cX1_callCount 24 (.iload 4) 2 26 := ⟨by decide +kernel, rfl⟩
theorem d_X1_callCount_26 : At cX1_callCount 26 (.invokevirtual 64) 3 29 := ⟨by decide +kernel, rfl⟩
theorem d_X1_callCount_29 : At cX1_callCount 29 (.imul) 1 30 := ⟨by decide +kernel, rfl⟩
theorem d_X1_callCount_30 : At cX1_callCount 30 (.iadd) 1 31 := ⟨by decide +kernel, rfl⟩
theorem d_X1_callCount_31 : At cX1_callCount 31 (.istore_n 3) 1 32 := ⟨by decide +kernel, rfl⟩
theorem d_X1_callCount_32 : At cX1_callCount 32 (.iinc 4 1) 3 35 := ⟨by decide +kernel, rfl⟩
theorem d_X1_callCount_35 : Br cX1_callCount 35 (.goto (-30)) (-30) 38 5 := ⟨by decide +kernel, rfl, rfl⟩
theorem d_X1_callCount_38 : At cX1_callCount 38 (.iconst 2) 1 39 := ⟨by decide +kernel, rfl⟩
theorem d_X1_callCount_39 : At cX1_callCount 39 (.iload_n 3) 1 40 := ⟨by decide +kernel, rfl⟩
theorem d_X1_callCount_40 : At cX1_callCount 40 (.invokestatic 67) 3 43 := ⟨by decide +kernel, rfl⟩
theorem d_X1_callCount_43 : Go cX1_callCount 43 (.ireturn) 1 := (by decide +kernel : decode cX1_callCount 43 = .ok (.ireturn, 1))
theorem d_X1_textCount_0 : At cX1_textCount 0 (.aload_n 0) 1 1 := ⟨by decide +kernel, rfl⟩
theorem d_X1_textCount_1 : At cX1_textCount 1 (.aload_n 0) 1 2 := ⟨by decide +kernel, rfl⟩
theorem d_X1_textCount_2 : At cX1_textCount 2 (.getfield 21) 3 5 := ⟨by decide +kernel, rfl⟩
theorem d_X1_textCount_5 : At cX1_textCount 5 (.iload_n 1) 1 6 := ⟨by decide +kernel, rfl⟩
theorem d_X1_textCount_6 : At cX1_textCount 6 (.iload_n 2) 1 7 := ⟨by decide +kernel, rfl⟩
theorem d_X1_textCount_7 : At cX1_textCount 7 (.invokevirtual 84) 3 10 := ⟨by decide +kernel, rfl⟩
theorem d_X1_textCount_10 : At cX1_textCount 10 (.invokevirtual 55) 3 13 := ⟨by decide +kernel, rfl⟩
theorem d_X1_textCount_13 : Go cX1_textCount 13 (.ireturn) 1 := (by decide +kernel : decode cX1_textCount 13 = .ok (.ireturn, 1))
theorem d_X1_countAt_0 : At cX1_countAt 0 (.iload_n 1) 1 1 := ⟨by decide +kernel, rfl⟩
theorem d_X1_countAt_1 : At cX1_countAt 1 (.invokestatic 87) 3 4 := ⟨by decide +kernel, rfl⟩
theorem d_X1_countAt_4 : Br cX1_countAt 4 (.ifCond .eq 12) (12) 7 16 := ⟨by decide +kernel, rfl, rfl⟩
theorem d_X1_countAt_7 : At cX1_countAt 7 (.aload_n 0) 1 8 := ⟨by decide +kernel, rfl⟩
theorem d_X1_countAt_8 : At cX1_countAt 8 (.getfield 11) 3 11 := ⟨by decide +kernel, rfl⟩
theorem d_X1_countAt_11 : At cX1_countAt 11 (.iload_n 1) 1 12 := ⟨by decide +kernel, rfl⟩
theorem d_X1_countAt_12 : At cX1_countAt 12 (.iaload) 1 13 := ⟨by decide +kernel, rfl⟩
theorem d_X1_countAt_13 : Br cX1_countAt 13 (.goto 4) (4) 16 17 := ⟨by decide +kernel, rfl, rfl⟩
theorem d_X1_countAt_16 : At cX1_countAt 16 (.iconst 0) 1 17 := ⟨by decide +kernel, rfl⟩
theorem d_X1_countAt_17 : Go cX1_countAt 17 (.ireturn) 1 := (by decide +kernel : decode cX1_countAt 17 = .ok (.ireturn, 1))
theorem d_X1_setCount_0 : At cX1_setCount 0 (.iload_n 1) 1 1 := ⟨by decide +kernel, rfl⟩
theorem d_X1_setCount_1 : At cX1_setCount 1 (.invokestatic 87) 3 4 := ⟨by decide +kernel, rfl⟩
theorem d_X1_setCount_4 : Br cX1_setCount 4 (.ifCond .eq 10) (10) 7 14 := ⟨by decide +kernel, rfl, rfl⟩
theorem d_X1_setCount_7 : At cX1_setCount 7 (.aload_n 0) 1 8 := ⟨by decide +kernel, rfl⟩
theorem d_X1_setCount_8 : At cX1_setCount 8 (.getfield 11) 3 11 := ⟨by decide +kernel, rfl⟩
theorem d_X1_setCount_11 : At cX1_setCount 11 (.iload_n 1) 1 12 := ⟨by decide +kernel, rfl⟩
theorem d_X1_setCount_12 : At cX1_setCount 12 (.iload_n 2) 1 13 := ⟨by decide +kernel, rfl⟩
theorem d_X1_setCount_13 : At cX1_setCount 13 (.iastore) 1 14 := ⟨by decide +kernel, rfl⟩
theorem d_X1_setCount_14 : Go cX1_setCount 14 (.return_) 1 := (by decide +kernel : decode cX1_setCount 14 = .ok (.return_, 1))
theorem d_X1_of_0 : At cX1_of 0 (.iload_n 1) 1 1 := ⟨by decide +kernel, rfl⟩
theorem d_X1_of_1 : At cX1_of 1 (.iload_n 2) 1 2 := ⟨by decide +kernel, rfl⟩
theorem d_X1_of_2 : At cX1_of 2 (.invokestatic 91) 3 5 := ⟨by decide +kernel, rfl⟩
theorem d_X1_of_5 : Br cX1_of 5 (.ifCond .eq 16) (16) 8 21 := ⟨by decide +kernel, rfl, rfl⟩
theorem d_X1_of_8 : At cX1_of 8 (.aload_n 0) 1 9 := ⟨by decide +kernel, rfl⟩
theorem d_X1_of_9 : At cX1_of 9 (.getfield 15) 3 12 := ⟨by decide +kernel, rfl⟩
theorem d_X1_of_12 : At cX1_of 12 (.iload_n 1) 1 13 := ⟨by decide +kernel, rfl⟩
theorem d_X1_of_13 : At cX1_of 13 (.iconst 3) 1 14 := ⟨by decide +kernel, rfl⟩
theorem d_X1_of_14 : At cX1_of 14 (.imul) 1 15 := ⟨by decide +kernel, rfl⟩
theorem d_X1_of_15 : At cX1_of 15 (.iload_n 2) 1 16 := ⟨by decide +kernel, rfl⟩
theorem d_X1_of_16 : At cX1_of 16 (.iadd) 1 17 := ⟨by decide +kernel, rfl⟩
theorem d_X1_of_17 : At cX1_of 17 (.iaload) 1 18 := ⟨by decide +kernel, rfl⟩
theorem d_X1_of_18 : Br cX1_of 18 (.goto 4) (4) 21 22 := ⟨by decide +kernel, rfl, rfl⟩
theorem d_X1_of_21 : At cX1_of 21 (.iconst 0) 1 22 := ⟨by decide +kernel, rfl⟩
theorem d_X1_of_22 : Go cX1_of 22 (.ireturn) 1 := (by decide +kernel : decode cX1_of 22 = .ok (.ireturn, 1))
theorem d_X2_init_0 : At cX2_init 0 (.aload_n 0) 1 1 := ⟨by decide +kernel, rfl⟩
theorem d_X2_init_1 : At cX2_init 1 (.invokespecial 5) 3 4 := ⟨by decide +kernel, rfl⟩
theorem d_X2_init_4 : At cX2_init 4 (.aload_n 0) 1 5 := ⟨by decide +kernel, rfl⟩
theorem d_X2_init_5 : At cX2_init 5 (.sipush 903) 3 8 := ⟨by decide +kernel, rfl⟩
theorem d_X2_init_8 : At cX2_init 8 (.newarray .int) 2 10 := ⟨by decide +kernel, rfl⟩
theorem d_X2_init_10 : At cX2_init 10 (.putfield 11) 3 13 := ⟨by decide +kernel, rfl⟩
theorem d_X2_init_13 : At cX2_init 13 (.aload_n 0) 1 14 := ⟨by decide +kernel, rfl⟩
theorem d_X2_init_14 : At cX2_init 14 (.sipush 903) 3 17 := ⟨by decide +kernel, rfl⟩
theorem d_X2_init_17 : At cX2_init 17 (.newarray .int) 2 19 := ⟨by decide +kernel, rfl⟩
theorem d_X2_init_19 : At cX2_init 19 (.putfield 15) 3 22 := ⟨by decide +kernel, rfl⟩
theorem d_X2_init_22 : At cX2_init 22 (.aload_n 0) 1 23 := ⟨by decide +kernel, rfl⟩
theorem d_X2_init_23 : At cX2_init 23 (.sipush 903) 3 26 := ⟨by decide +kernel, rfl⟩
theorem d_X2_init_26 : At cX2_init 26 (.newarray .int) 2 28 := ⟨by decide +kernel, rfl⟩
theorem d_X2_init_28 : At cX2_init 28 (.putfield 18) 3 31 := ⟨by decide +kernel, rfl⟩
theorem d_X2_init_31 : At cX2_init 31 (.aload_n 0) 1 32 := ⟨by decide +kernel, rfl⟩
theorem d_X2_init_32 : At cX2_init 32 (.sipush 300) 3 35 := ⟨by decide +kernel, rfl⟩
theorem d_X2_init_35 : At cX2_init 35 (.newarray .int) 2 37 := ⟨by decide +kernel, rfl⟩
theorem d_X2_init_37 : At cX2_init 37 (.putfield 21) 3 40 := ⟨by decide +kernel, rfl⟩
theorem d_X2_init_40 : At cX2_init 40 (.aload_n 0) 1 41 := ⟨by decide +kernel, rfl⟩
theorem d_X2_init_41 : At cX2_init 41 (.sipush 300) 3 44 := ⟨by decide +kernel, rfl⟩
theorem d_X2_init_44 : At cX2_init 44 (.newarray .int) 2 46 := ⟨by decide +kernel, rfl⟩
theorem d_X2_init_46 : At cX2_init 46 (.putfield 24) 3 49 := ⟨by decide +kernel, rfl⟩
theorem d_X2_init_49 : At cX2_init 49 (.aload_n 0) 1 50 := ⟨by decide +kernel, rfl⟩
theorem d_X2_init_50 : At cX2_init 50 (.sipush 300) 3 53 := ⟨by decide +kernel, rfl⟩
theorem d_X2_init_53 : At cX2_init 53 (.newarray .int) 2 55 := ⟨by decide +kernel, rfl⟩
theorem d_X2_init_55 : At cX2_init 55 (.putfield 27) 3 58 := ⟨by decide +kernel, rfl⟩
theorem d_X2_init_58 : At cX2_init 58 (.aload_n 0) 1 59 := ⟨by decide +kernel, rfl⟩
theorem d_X2_init_59 : At cX2_init 59 (.iconst 4) 1 60 := ⟨by decide +kernel, rfl⟩
theorem d_X2_init_60 : At cX2_init 60 (.newarray .int) 2 62 := ⟨by decide +kernel, rfl⟩
theorem d_X2_init_62 : At cX2_init 62 (.putfield 30) 3 65 := ⟨by decide +kernel, rfl⟩
theorem d_X2_init_65 : At cX2_init 65 (.aload_n 0) 1 66 := ⟨by decide +kernel, rfl⟩
theorem d_X2_init_66 : At cX2_init 66 (.aload_n 1) 1 67 := ⟨by decide +kernel, rfl⟩
theorem d_X2_init_67 : At cX2_init 67 (.putfield 33) 3 70 := ⟨by decide +kernel, rfl⟩
theorem d_X2_init_70 : At cX2_init 70 (.aload_n 0) 1 71 := ⟨by decide +kernel, rfl⟩
theorem d_X2_init_71 : At cX2_init 71 (.aload_n 2) 1 72 := ⟨by decide +kernel, rfl⟩
theorem d_X2_init_72 : At cX2_init 72 (.putfield 37) 3 75 := ⟨by decide +kernel, rfl⟩
theorem d_X2_init_75 : Go cX2_init 75 (.return_) 1 := (by decide +kernel : decode cX2_init 75 = .ok (.return_, 1))
theorem d_X2_end_0 : At cX2_end 0 (.aload_n 0) 1 1 := ⟨by decide +kernel, rfl⟩
theorem d_X2_end_1 : At cX2_end 1 (.getfield 41) 3 4 := ⟨by decide +kernel, rfl⟩
theorem d_X2_end_4 : Go cX2_end 4 (.ireturn) 1 := (by decide +kernel : decode cX2_end 4 = .ok (.ireturn, 1))
theorem d_X2_taken_0 : At cX2_taken 0 (.aload_n 0) 1 1 := ⟨by decide +kernel, rfl⟩
theorem d_X2_taken_1 : At cX2_taken 1 (.getfield 45) 3 4 := ⟨by decide +kernel, rfl⟩
theorem d_X2_taken_4 : Go cX2_taken 4 (.ireturn) 1 := (by decide +kernel : decode cX2_taken 4 = .ok (.ireturn, 1))
theorem d_X2_play_0 : At cX2_play 0 (.aload_n 0) 1 1 := ⟨by decide +kernel, rfl⟩
theorem d_X2_play_1 : At cX2_play 1 (.iload_n 3) 1 2 := ⟨by decide +kernel, rfl⟩
theorem d_X2_play_2 : At cX2_play 2 (.putfield 48) 3 5 := ⟨by decide +kernel, rfl⟩
theorem d_X2_play_5 : At cX2_play 5 (.aload_n 0) 1 6 := ⟨by decide +kernel, rfl⟩
theorem d_X2_play_6 : At cX2_play 6 (.iconst (-1)) 1 7 := ⟨by decide +kernel, rfl⟩
theorem d_X2_play_7 : At cX2_play 7 (.putfield 41) 3 10 := ⟨by decide +kernel, rfl⟩
theorem d_X2_play_10 : At cX2_play 10 (.aload_n 0) 1 11 := ⟨by decide +kernel, rfl⟩
theorem d_X2_play_11 : At cX2_play 11 (.iconst 0) 1 12 := ⟨by decide +kernel, rfl⟩
theorem d_X2_play_12 : At cX2_play 12 (.putfield 45) 3 15 := ⟨by decide +kernel, rfl⟩
theorem d_X2_play_15 : At cX2_play 15 (.aload_n 0) 1 16 := ⟨by decide +kernel, rfl⟩
theorem d_X2_play_16 : At cX2_play 16 (.iconst 0) 1 17 := ⟨by decide +kernel, rfl⟩
theorem d_X2_play_17 : At cX2_play 17 (.putfield 51) 3 20 := ⟨by decide +kernel, rfl⟩
theorem d_X2_play_20 : At cX2_play 20 (.aload_n 0) 1 21 := ⟨by decide +kernel, rfl⟩
theorem d_X2_play_21 : At cX2_play 21 (.iconst 1) 1 22 := ⟨by decide +kernel, rfl⟩
theorem d_X2_play_22 : At cX2_play 22 (.putfield 54) 3 25 := ⟨by decide +kernel, rfl⟩
theorem d_X2_play_25 : At cX2_play 25 (.aload_n 0) 1 26 := ⟨by decide +kernel, rfl⟩
theorem d_X2_play_26 : At cX2_play 26 (.invokevirtual 57) 3 29 := ⟨by decide +kernel, rfl⟩
theorem d_X2_play_29 : At cX2_play 29 (.aload_n 0) 1 30 := ⟨by decide +kernel, rfl⟩
theorem d_X2_play_30 : At cX2_play 30 (.iload_n 1) 1 31 := ⟨by decide +kernel, rfl⟩
theorem d_X2_play_31 : At cX2_play 31 (.iload_n 2) 1 32 := ⟨by decide +kernel, rfl⟩
theorem d_X2_play_32 : At cX2_play 32 (.invokevirtual 60) 3 35 := ⟨by decide +kernel, rfl⟩
theorem d_X2_play_35 : At cX2_play 35 (.aload_n 0) 1 36 := ⟨by decide +kernel, rfl⟩
theorem d_X2_play_36 : At cX2_play 36 (.aload_n 0) 1 37 := ⟨by decide +kernel, rfl⟩
theorem d_X2_play_37 : At cX2_play 37 (.getfield 33) 3 40 := ⟨by decide +kernel, rfl⟩
theorem d_X2_play_40 : At cX2_play 40 (.iload_n 1) 1 41 := ⟨by decide +kernel, rfl⟩
theorem d_X2_play_41 : At cX2_play 41 (.invokevirtual 64) 3 44 := ⟨by decide +kernel, rfl⟩
theorem d_X2_play_44 : At cX2_play 44 (.iconst 0) 1 45 := ⟨by decide +kernel, rfl⟩
theorem d_X2_play_45 : At cX2_play 45 (.invokevirtual 70) 3 48 := ⟨by decide +kernel, rfl⟩
theorem d_X2_play_48 : At cX2_play 48 (.iconst 0) 1 49 := ⟨by decide +kernel, rfl⟩
theorem d_X2_play_49 : At cX2_play 49 (.istore 4) 2 51 := ⟨by decide +kernel, rfl⟩
theorem d_X2_play_51 : At cX2_play 51 (.aload_n 0) 1 52 := ⟨by decide +kernel, rfl⟩
theorem d_X2_play_52 : At cX2_play 52 (.getfield 41) 3 55 := ⟨by decide +kernel, rfl⟩
theorem d_X2_play_55 : At cX2_play 55 (.iconst (-1)) 1 56 := ⟨by decide +kernel, rfl⟩
theorem d_X2_play_56 : Br cX2_play 56 (.if_icmp .ne 35) (35) 59 91 := ⟨by decide +kernel, rfl, rfl⟩
theorem d_X2_play_59 : At cX2_play 59 (.iload 4) 2 61 := ⟨by decide +kernel, rfl⟩
theorem d_X2_play_61 : At cX2_play 61 (.sipush 3000) 3 64 := ⟨by decide +kernel, rfl⟩
theorem d_X2_play_64 : Br cX2_play 64 (.if_icmp .ge 27) (27) 67 91 := ⟨by decide +kernel, rfl, rfl⟩
theorem d_X2_play_67 : At cX2_play 67 (.aload_n 0) 1 68 := ⟨by decide +kernel, rfl⟩
theorem d_X2_play_68 : At cX2_play 68 (.getfield 73) 3 71 := ⟨by decide +kernel, rfl⟩
theorem d_X2_play_71 : Br cX2_play 71 (.ifCond .eq 10) (10) 74 81 := ⟨by decide +kernel, rfl, rfl⟩
theorem d_X2_play_74 : At cX2_play 74 (.aload_n 0) 1 75 := ⟨by decide +kernel, rfl⟩
theorem d_X2_play_75 : At cX2_play 75 (.invokevirtual 77) 3 78 := ⟨by decide +kernel, rfl⟩
theorem d_X2_play_78 : Br cX2_play 78 (.goto 7) (7) 81 85 := ⟨by decide +kernel, rfl, rfl⟩
theorem d_X2_play_81 : At cX2_play 81 (.aload_n 0) 1 82 := ⟨by decide +kernel, rfl⟩
theorem d_X2_play_82 : At cX2_play 82 (.invokevirtual 80) 3 85 := ⟨by decide +kernel, rfl⟩
theorem d_X2_play_85 : At cX2_play 85 (.iinc 4 1) 3 88 := ⟨by decide +kernel, rfl⟩
theorem d_X2_play_88 : Br cX2_play 88 (.goto (-37)) (-37) 91 51 := ⟨by decide +kernel, rfl, rfl⟩
theorem d_X2_play_91 : At cX2_play 91 (.aload_n 0) 1 92 := ⟨by decide +kernel, rfl⟩
theorem d_X2_play_92 : At cX2_play 92 (.getfield 41) 3 95 := ⟨by decide +kernel, rfl⟩
theorem d_X2_play_95 : At cX2_play 95 (.iconst (-1)) 1 96 := ⟨by decide +kernel, rfl⟩
theorem d_X2_play_96 : Br cX2_play 96 (.if_icmp .ne 9) (9) 99 105 := ⟨by decide +kernel, rfl, rfl⟩
theorem d_X2_play_99 : At cX2_play 99 (.aload_n 0) 1 100 := ⟨by decide +kernel, rfl⟩
theorem d_X2_play_100 : At cX2_play 100 (.bipush 9) 2 102 := ⟨by decide +kernel, rfl⟩
theorem d_X2_play_102 : At cX2_play 102 (.putfield 41) 3 105 := ⟨by decide +kernel, rfl⟩
theorem d_X2_play_105 : Go cX2_play 105 (.return_) 1 := (by decide +kernel : decode cX2_play 105 = .ok (.return_, 1))
theorem d_X2_chooseAhead_0 : At cX2_chooseAhead 0 (.iconst 0) 1 1 := ⟨by decide +kernel, rfl⟩
theorem d_X2_chooseAhead_1 : At cX2_chooseAhead 1 (.istore_n 1) 1 2 := ⟨by decide +kernel, rfl⟩
theorem d_X2_chooseAhead_2 : At cX2_chooseAhead 2 (.iload_n 1) 1 3 := ⟨by decide +kernel, rfl⟩
theorem d_X2_chooseAhead_3 : At cX2_chooseAhead 3 (.iconst 4) 1 4 := ⟨by decide +kernel, rfl⟩
theorem d_X2_chooseAhead_4 : Br cX2_chooseAhead 4 (.if_icmp .ge 56) (56) 7 60 := ⟨by decide +kernel, rfl, rfl⟩
theorem d_X2_chooseAhead_7 : At cX2_chooseAhead 7 (.aload_n 0) 1 8 := ⟨by decide +kernel, rfl⟩
theorem d_X2_chooseAhead_8 : At cX2_chooseAhead 8 (.getfield 48) 3 11 := ⟨by decide +kernel, rfl⟩
theorem d_X2_chooseAhead_11 : At cX2_chooseAhead 11 (.iconst 2) 1 12 := ⟨by decide +kernel, rfl⟩
theorem d_X2_chooseAhead_12 : Br cX2_chooseAhead 12 (.if_icmp .ne 16) (16) 15 28 := ⟨by decide +kernel, rfl, rfl⟩
theorem d_X2_chooseAhead_15 : At cX2_chooseAhead 15 (.aload_n 0) 1 16 := ⟨by decide +kernel, rfl⟩
theorem d_X2_chooseAhead_16 : At cX2_chooseAhead 16 (.getfield 30) 3 19 := ⟨by decide +kernel, rfl⟩
theorem d_X2_chooseAhead_19 : At cX2_chooseAhead 19 (.iload_n 1) 1 20 := ⟨by decide +kernel, rfl⟩
theorem d_X2_chooseAhead_20 : At cX2_chooseAhead 20 (.iload_n 1) 1 21 := ⟨by decide +kernel, rfl⟩
theorem d_X2_chooseAhead_21 : At cX2_chooseAhead 21 (.invokestatic 83) 3 24 := ⟨by decide +kernel, rfl⟩
theorem d_X2_chooseAhead_24 : At cX2_chooseAhead 24 (.iastore) 1 25 := ⟨by decide +kernel, rfl⟩
theorem d_X2_chooseAhead_25 : Br cX2_chooseAhead 25 (.goto 29) (29) 28 54 := ⟨by decide +kernel, rfl, rfl⟩
theorem d_X2_chooseAhead_28 : At cX2_chooseAhead 28 (.aload_n 0) 1 29 := ⟨by decide +kernel, rfl⟩
theorem d_X2_chooseAhead_29 : At cX2_chooseAhead 29 (.getfield 30) 3 32 := ⟨by decide +kernel, rfl⟩
theorem d_X2_chooseAhead_32 : At cX2_chooseAhead 32 (.iload_n 1) 1 33 := ⟨by decide +kernel, rfl⟩
theorem d_X2_chooseAhead_33 : At cX2_chooseAhead 33 (.aload_n 0) 1 34 := ⟨by decide +kernel, rfl⟩
theorem d_X2_chooseAhead_34 : At cX2_chooseAhead 34 (.getfield 48) 3 37 := ⟨by decide +kernel, rfl⟩
theorem d_X2_chooseAhead_37 : At cX2_chooseAhead 37 (.iconst 3) 1 38 := ⟨by decide +kernel, rfl⟩
theorem d_X2_chooseAhead_38 : Br cX2_chooseAhead 38 (.if_icmp .ne 14) (14) 41 52 := ⟨by decide +kernel, rfl, rfl⟩
theorem d_X2_chooseAhead_41 : At cX2_chooseAhead 41 (.aload_n 0) 1 42 := ⟨by decide +kernel, rfl⟩
theorem d_X2_chooseAhead_42 : At cX2_chooseAhead 42 (.getfield 37) 3 45 := ⟨by decide +kernel, rfl⟩
theorem d_X2_chooseAhead_45 : At cX2_chooseAhead 45 (.iload_n 1) 1 46 := ⟨by decide +kernel, rfl⟩
theorem d_X2_chooseAhead_46 : At cX2_chooseAhead 46 (.invokevirtual 86) 3 49 := ⟨by decide +kernel, rfl⟩
theorem d_X2_chooseAhead_49 : Br cX2_chooseAhead 49 (.goto 4) (4) 52 53 := ⟨by decide +kernel, rfl, rfl⟩
theorem d_X2_chooseAhead_52 : At cX2_chooseAhead 52 (.iconst 0) 1 53 := ⟨by decide +kernel, rfl⟩
theorem d_X2_chooseAhead_53 : At cX2_chooseAhead 53 (.iastore) 1 54 := ⟨by decide +kernel, rfl⟩
theorem d_X2_chooseAhead_54 : At cX2_chooseAhead 54 (.iinc 1 1) 3 57 := ⟨by decide +kernel, rfl⟩
theorem d_X2_chooseAhead_57 : Br cX2_chooseAhead 57 (.goto (-55)) (-55) 60 2 := ⟨by decide +kernel, rfl, rfl⟩
theorem d_X2_chooseAhead_60 : Go cX2_chooseAhead 60 (.return_) 1 := (by decide +kernel : decode cX2_chooseAhead 60 = .ok (.return_, 1))
theorem d_X2_takeTold_0 : At cX2_takeTold 0 (.iload_n 2) 1 1 := ⟨by decide +kernel, rfl⟩
theorem d_X2_takeTold_1 : At cX2_takeTold 1 (.istore_n 3) 1 2 := ⟨by decide +kernel, rfl⟩
theorem d_X2_takeTold_2 : At cX2_takeTold 2 (.iload_n 1) 1 3 := ⟨by decide +kernel, rfl⟩
theorem d_X2_takeTold_3 : At cX2_takeTold 3 (.invokestatic 91) 3 6 := ⟨by decide +kernel, rfl⟩
theorem d_X2_takeTold_6 : At cX2_takeTold 6 (.iconst 1) 1 7 := ⟨by decide +kernel, rfl⟩
theorem d_X2_takeTold_7 : At cX2_takeTold 7 (.isub) 1 8 := ⟨by decide +kernel, rfl⟩
theorem d_X2_takeTold_8 : At cX2_takeTold 8 (.istore 4) 2 10 := ⟨by decide +kernel, rfl⟩
theorem d_X2_takeTold_10 : At cX2_takeTold 10 (.iload 4) 2 12 := ⟨by decide +kernel, rfl⟩
theorem d_X2_takeTold_12 : Br cX2_takeTold 12 (.ifCond .lt 51) (51) 15 63 := ⟨by decide +kernel, rfl, rfl⟩
theorem d_X2_takeTold_15 : At cX2_takeTold 15 (.aload_n 0) 1 16 := ⟨by decide +kernel, rfl⟩
theorem d_X2_takeTold_16 : At cX2_takeTold 16 (.iload 4) 2 18 := ⟨by decide +kernel, rfl⟩
theorem d_X2_takeTold_18 : At cX2_takeTold 18 (.iload_n 3) 1 19 := ⟨by decide +kernel, rfl⟩
theorem d_X2_takeTold_19 : At cX2_takeTold 19 (.bipush 9) 2 21 := ⟨by decide +kernel, rfl⟩
theorem d_X2_takeTold_21 : At cX2_takeTold 21 (.irem) 1 22 := ⟨by decide +kernel, rfl⟩
theorem d_X2_takeTold_22 : At cX2_takeTold 22 (.invokevirtual 94) 3 25 := ⟨by decide +kernel, rfl⟩
theorem d_X2_takeTold_25 : At cX2_takeTold 25 (.aload_n 0) 1 26 := ⟨by decide +kernel, rfl⟩
theorem d_X2_takeTold_26 : At cX2_takeTold 26 (.iload 4) 2 28 := ⟨by decide +kernel, rfl⟩
theorem d_X2_takeTold_28 : At cX2_takeTold 28 (.invokevirtual 97) 3 31 := ⟨by decide +kernel, rfl⟩
theorem d_X2_takeTold_31 : At cX2_takeTold 31 (.bipush 8) 2 33 := ⟨by decide +kernel, rfl⟩
theorem d_X2_takeTold_33 : Br cX2_takeTold 33 (.if_icmp .ne 19) (19) 36 52 := ⟨by decide +kernel, rfl, rfl⟩
theorem d_X2_takeTold_36 : At cX2_takeTold 36 (.aload_n 0) 1 37 := ⟨by decide +kernel, rfl⟩
theorem d_X2_takeTold_37 : At cX2_takeTold 37 (.iload_n 1) 1 38 := ⟨by decide +kernel, rfl⟩
theorem d_X2_takeTold_38 : At cX2_takeTold 38 (.iload 4) 2 40 := ⟨by decide +kernel, rfl⟩
theorem d_X2_takeTold_40 : At cX2_takeTold 40 (.invokevirtual 100) 3 43 := ⟨by decide +kernel, rfl⟩
theorem d_X2_takeTold_43 : Br cX2_takeTold 43 (.ifCond .eq 9) (9) 46 52 := ⟨by decide +kernel, rfl, rfl⟩
theorem d_X2_takeTold_46 : At cX2_takeTold 46 (.aload_n 0) 1 47 := ⟨by decide +kernel, rfl⟩
theorem d_X2_takeTold_47 : At cX2_takeTold 47 (.bipush 8) 2 49 := ⟨by decide +kernel, rfl⟩
theorem d_X2_takeTold_49 : At cX2_takeTold 49 (.putfield 41) 3 52 := ⟨by decide +kernel, rfl⟩
theorem d_X2_takeTold_52 : At cX2_takeTold 52 (.iload_n 3) 1 53 := ⟨by decide +kernel, rfl⟩
theorem d_X2_takeTold_53 : At cX2_takeTold 53 (.bipush 9) 2 55 := ⟨by decide +kernel, rfl⟩
theorem d_X2_takeTold_55 : At cX2_takeTold 55 (.idiv) 1 56 := ⟨by decide +kernel, rfl⟩
theorem d_X2_takeTold_56 : At cX2_takeTold 56 (.istore_n 3) 1 57 := ⟨by decide +kernel, rfl⟩
theorem d_X2_takeTold_57 : At cX2_takeTold 57 (.iinc 4 (-1)) 3 60 := ⟨by decide +kernel, rfl⟩
theorem d_X2_takeTold_60 : Br cX2_takeTold 60 (.goto (-50)) (-50) 63 10 := ⟨by decide +kernel, rfl, rfl⟩
theorem d_X2_takeTold_63 : Go cX2_takeTold 63 (.return_) 1 := (by decide +kernel : decode cX2_takeTold 63 = .ok (.return_, 1))
theorem d_X2_isAhead_0 : At cX2_isAhead 0 (.iload_n 1) 1 1 := ⟨by decide +kernel, rfl⟩
theorem d_X2_isAhead_1 : At cX2_isAhead 1 (.invokestatic 104) 3 4 := ⟨by decide +kernel, rfl⟩
theorem d_X2_isAhead_4 : Br cX2_isAhead 4 (.ifCond .eq 21) (21) 7 25 := ⟨by decide +kernel, rfl, rfl⟩
theorem d_X2_isAhead_7 : At cX2_isAhead 7 (.aload_n 0) 1 8 := ⟨by decide +kernel, rfl⟩
theorem d_X2_isAhead_8 : At cX2_isAhead 8 (.getfield 30) 3 11 := ⟨by decide +kernel, rfl⟩
theorem d_X2_isAhead_11 : At cX2_isAhead 11 (.iload_n 1) 1 12 := ⟨by decide +kernel, rfl⟩
theorem d_X2_isAhead_12 : At cX2_isAhead 12 (.iaload) 1 13 := ⟨by decide +kernel, rfl⟩
theorem d_X2_isAhead_13 : At cX2_isAhead 13 (.iload_n 2) 1 14 := ⟨by decide +kernel, rfl⟩
theorem d_X2_isAhead_14 : At cX2_isAhead 14 (.ishr) 1 15 := ⟨by decide +kernel, rfl⟩
theorem d_X2_isAhead_15 : At cX2_isAhead 15 (.iconst 1) 1 16 := ⟨by decide +kernel, rfl⟩
theorem d_X2_isAhead_16 : At cX2_isAhead 16 (.iand) 1 17 := ⟨by decide +kernel, rfl⟩
theorem d_X2_isAhead_17 : At cX2_isAhead 17 (.iconst 1) 1 18 := ⟨by decide +kernel, rfl⟩
theorem d_X2_isAhead_18 : Br cX2_isAhead 18 (.if_icmp .ne 7) (7) 21 25 := ⟨by decide +kernel, rfl, rfl⟩
theorem d_X2_isAhead_21 : At cX2_isAhead 21 (.iconst 1) 1 22 := ⟨by decide +kernel, rfl⟩
theorem d_X2_isAhead_22 : Br cX2_isAhead 22 (.goto 4) (4) 25 26 := ⟨by decide +kernel, rfl, rfl⟩
theorem d_X2_isAhead_25 : At cX2_isAhead 25 (.iconst 0) 1 26 := ⟨by decide +kernel, rfl⟩
theorem d_X2_isAhead_26 : Go cX2_isAhead 26 (.ireturn) 1 := (by decide +kernel : decode cX2_isAhead 26 = .ok (.ireturn, 1))
theorem d_X2_begin_0 : At cX2_begin 0 (.aload_n 0) 1 1 := ⟨by decide +kernel, rfl⟩
theorem d_X2_begin_1 : At cX2_begin 1 (.getfield 45) 3 4 := ⟨by decide +kernel, rfl⟩
theorem d_X2_begin_4 : At cX2_begin 4 (.sipush 300) 3 7 := ⟨by decide +kernel, rfl⟩
theorem d_X2_begin_7 : Br cX2_begin 7 (.if_icmp .lt 10) (10) 10 17 := ⟨by decide +kernel, rfl, rfl⟩
theorem d_X2_begin_10 : At cX2_begin 10 (.aload_n 0) 1 11 := ⟨by decide +kernel, rfl⟩
theorem d_X2_begin_11 : At cX2_begin 11 (.bipush 9) 2 13 := ⟨by decide +kernel, rfl⟩
theorem d_X2_begin_13 : At cX2_begin 13 (.putfield 41) 3 16 := ⟨by decide +kernel, rfl⟩
theorem d_X2_begin_16 : Go cX2_begin 16 (.return_) 1 := (by decide +kernel : decode cX2_begin 16 = .ok (.return_, 1))
theorem d_X2_begin_17 : At cX2_begin 17 (.aload_n 0) 1 18 := ⟨by decide +kernel, rfl⟩
theorem d_X2_begin_18 : At cX2_begin 18 (.dup) 1 19 := ⟨by decide +kernel, rfl⟩
theorem d_X2_begin_19 : At cX2_begin 19 (.getfield 45) 3 22 := ⟨by decide +kernel, rfl⟩
theorem d_X2_begin_22 : At cX2_begin 22 (.iconst 1) 1 23 := ⟨by decide +kernel, rfl⟩
theorem d_X2_begin_23 : At cX2_begin 23 (.iadd) 1 24 := ⟨by decide +kernel, rfl⟩
theorem d_X2_begin_24 : At cX2_begin 24 (.putfield 45) 3 27 := ⟨by decide +kernel, rfl⟩
theorem d_X2_begin_27 : At cX2_begin 27 (.aload_n 0) 1 28 := ⟨by decide +kernel, rfl⟩
theorem d_X2_begin_28 : At cX2_begin 28 (.getfield 33) 3 31 := ⟨by decide +kernel, rfl⟩
theorem d_X2_begin_31 : At cX2_begin 31 (.aload_n 0) 1 32 := ⟨by decide +kernel, rfl⟩
theorem d_X2_begin_32 : At cX2_begin 32 (.getfield 108) 3 35 := ⟨by decide +kernel, rfl⟩
theorem d_X2_begin_35 : At cX2_begin 35 (.invokevirtual 111) 3 38 := ⟨by decide +kernel, rfl⟩
theorem d_X2_begin_38 : Go cX2_begin 38 (.tableswitch 129 1 6 #[38, 129, 56, 81, 81, 111]) 38 := (by decide +kernel : decode cX2_begin 38 = .ok (.tableswitch 129 1 6 #[38, 129, 56, 81, 81, 111], 38))
theorem d_X2_begin_76 : At cX2_begin 76 (.aload_n 0) 1 77 := ⟨by decide +kernel, rfl⟩
theorem d_X2_begin_77 : At cX2_begin 77 (.aload_n 0) 1 78 := ⟨by decide +kernel, rfl⟩
theorem d_X2_begin_78 : At cX2_begin 78 (.getfield 33) 3 81 := ⟨by decide +kernel, rfl⟩
theorem d_X2_begin_81 : At cX2_begin 81 (.aload_n 0) 1 82 := ⟨by decide +kernel, rfl⟩
theorem d_X2_begin_82 : At cX2_begin 82 (.getfield 108) 3 85 := ⟨by decide +kernel, rfl⟩
theorem d_X2_begin_85 : At cX2_begin 85 (.invokevirtual 114) 3 88 := ⟨by decide +kernel, rfl⟩
theorem d_X2_begin_88 : At cX2_begin 88 (.invokevirtual 117) 3 91 := ⟨by decide +kernel, rfl⟩
theorem d_X2_begin_91 : Br cX2_begin 91 (.goto 82) (82) 94 173 := ⟨by decide +kernel, rfl, rfl⟩
theorem d_X2_begin_94 : At cX2_begin 94 (.aload_n 0) 1 95 := ⟨by decide +kernel, rfl⟩
theorem d_X2_begin_95 : At cX2_begin 95 (.aload_n 0) 1 96 := ⟨by decide +kernel, rfl⟩
theorem d_X2_begin_96 : At cX2_begin 96 (.getfield 121) 3 99 := ⟨by decide +kernel, rfl⟩
theorem d_X2_begin_99 : At cX2_begin 99 (.aload_n 0) 1 100 := ⟨by decide +kernel, rfl⟩
theorem d_X2_begin_100 : At cX2_begin 100 (.getfield 33) 3 103 := ⟨by decide +kernel, rfl⟩
theorem d_X2_begin_103 : At cX2_begin 103 (.aload_n 0) 1 104 := ⟨by decide +kernel, rfl⟩
theorem d_X2_begin_104 : At cX2_begin 104 (.getfield 108) 3 107 := ⟨by decide +kernel, rfl⟩
theorem d_X2_begin_107 : At cX2_begin 107 (.invokevirtual 114) 3 110 := ⟨by decide +kernel, rfl⟩
theorem d_X2_begin_110 : At cX2_begin 110 (.invokestatic 124) 3 113 := ⟨by decide +kernel, rfl⟩
theorem d_X2_begin_113 : At cX2_begin 113 (.invokevirtual 128) 3 116 := ⟨by decide +kernel, rfl⟩
theorem d_X2_begin_116 : Br cX2_begin 116 (.goto 57) (57) 119 173 := ⟨by decide +kernel, rfl, rfl⟩
theorem d_X2_begin_119 : At cX2_begin 119 (.aload_n 0) 1 120 := ⟨by decide +kernel, rfl⟩
theorem d_X2_begin_120 : At cX2_begin 120 (.aload_n 0) 1 121 := ⟨by decide +kernel, rfl⟩
theorem d_X2_begin_121 : At cX2_begin 121 (.getfield 108) 3 124 := ⟨by decide +kernel, rfl⟩
theorem d_X2_begin_124 : At cX2_begin 124 (.aload_n 0) 1 125 := ⟨by decide +kernel, rfl⟩
theorem d_X2_begin_125 : At cX2_begin 125 (.getfield 121) 3 128 := ⟨by decide +kernel, rfl⟩
theorem d_X2_begin_128 : At cX2_begin 128 (.iconst (-1)) 1 129 := ⟨by decide +kernel, rfl⟩
theorem d_X2_begin_129 : At cX2_begin 129 (.invokevirtual 131) 3 132 := ⟨by decide +kernel, rfl⟩
theorem d_X2_begin_132 : At cX2_begin 132 (.aload_n 0) 1 133 := ⟨by decide +kernel, rfl⟩
theorem d_X2_begin_133 : At cX2_begin 133 (.aload_n 0) 1 134 := ⟨by decide +kernel, rfl⟩
theorem d_X2_begin_134 : At cX2_begin 134 (.getfield 108) 3 137 := ⟨by decide +kernel, rfl⟩
theorem d_X2_begin_137 : At cX2_begin 137 (.iconst 1) 1 138 := ⟨by decide +kernel, rfl⟩
theorem d_X2_begin_138 : At cX2_begin 138 (.iadd) 1 139 := ⟨by decide +kernel, rfl⟩
theorem d_X2_begin_139 : At cX2_begin 139 (.aload_n 0) 1 140 := ⟨by decide +kernel, rfl⟩
theorem d_X2_begin_140 : At cX2_begin 140 (.getfield 121) 3 143 := ⟨by decide +kernel, rfl⟩
theorem d_X2_begin_143 : At cX2_begin 143 (.invokevirtual 70) 3 146 := ⟨by decide +kernel, rfl⟩
theorem d_X2_begin_146 : Br cX2_begin 146 (.goto 27) (27) 149 173 := ⟨by decide +kernel, rfl, rfl⟩
theorem d_X2_begin_149 : At cX2_begin 149 (.aload_n 0) 1 150 := ⟨by decide +kernel, rfl⟩
theorem d_X2_begin_150 : At cX2_begin 150 (.aload_n 0) 1 151 := ⟨by decide +kernel, rfl⟩
theorem d_X2_begin_151 : At cX2_begin 151 (.getfield 33) 3 154 := ⟨by decide +kernel, rfl⟩
theorem d_X2_begin_154 : At cX2_begin 154 (.aload_n 0) 1 155 := ⟨by decide +kernel, rfl⟩
theorem d_X2_begin_155 : At cX2_begin 155 (.getfield 108) 3 158 := ⟨by decide +kernel, rfl⟩
theorem d_X2_begin_158 : At cX2_begin 158 (.invokevirtual 114) 3 161 := ⟨by decide +kernel, rfl⟩
theorem d_X2_begin_161 : At cX2_begin 161 (.invokevirtual 135) 3 164 := ⟨by decide +kernel, rfl⟩
theorem d_X2_begin_164 : Br cX2_begin 164 (.goto 9) (9) 167 173 := ⟨by decide +kernel, rfl, rfl⟩
theorem d_X2_begin_167 : At cX2_begin 167 (.aload_n 0) 1 168 := ⟨by decide +kernel, rfl⟩
theorem d_X2_begin_168 : At cX2_begin 168 (.bipush 8) 2 170 := ⟨by decide +kernel, rfl⟩
theorem d_X2_begin_170 : At cX2_begin 170 (.putfield 41) 3 173 := ⟨by decide +kernel, rfl⟩
theorem d_X2_begin_173 : Go cX2_begin 173 (.return_) 1 := (by decide +kernel : decode cX2_begin 173 = .ok (.return_, 1))
theorem d_X2_beginArgument_0 : At cX2_beginArgument 0 (.aload_n 0) 1 1 := ⟨by decide +kernel, rfl⟩
theorem d_X2_beginArgument_1 : At cX2_beginArgument 1 (.iload_n 1) 1 2 := ⟨by decide +kernel, rfl⟩
theorem d_X2_beginArgument_2 : At cX2_beginArgument 2 (.invokevirtual 97) 3 5 := ⟨by decide +kernel, rfl⟩
theorem d_X2_beginArgument_5 : At cX2_beginArgument 5 (.istore_n 2) 1 6 := ⟨by decide +kernel, rfl⟩
theorem d_X2_beginArgument_6 : At cX2_beginArgument 6 (.iload_n 2) 1 7 := ⟨by decide +kernel, rfl⟩
theorem d_X2_beginArgument_7 : At cX2_beginArgument 7 (.bipush 8) 2 9 := ⟨by decide +kernel, rfl⟩
theorem d_X2_beginArgument_9 : Br cX2_beginArgument 9 (.if_icmp .ne 12) (12) 12 21 := ⟨by decide +kernel, rfl, rfl⟩
theorem d_X2_beginArgument_12 : At cX2_beginArgument 12 (.aload_n 0) 1 13 := ⟨by decide +kernel, rfl⟩
theorem d_X2_beginArgument_13 : At cX2_beginArgument 13 (.bipush 8) 2 15 := ⟨by decide +kernel, rfl⟩
theorem d_X2_beginArgument_15 : At cX2_beginArgument 15 (.putfield 41) 3 18 := ⟨by decide +kernel, rfl⟩
theorem d_X2_beginArgument_18 : Br cX2_beginArgument 18 (.goto 41) (41) 21 59 := ⟨by decide +kernel, rfl, rfl⟩
theorem d_X2_beginArgument_21 : At cX2_beginArgument 21 (.iload_n 2) 1 22 := ⟨by decide +kernel, rfl⟩
theorem d_X2_beginArgument_22 : At cX2_beginArgument 22 (.iconst (-1)) 1 23 := ⟨by decide +kernel, rfl⟩
theorem d_X2_beginArgument_23 : Br cX2_beginArgument 23 (.if_icmp .eq 11) (11) 26 34 := ⟨by decide +kernel, rfl, rfl⟩
theorem d_X2_beginArgument_26 : At cX2_beginArgument 26 (.aload_n 0) 1 27 := ⟨by decide +kernel, rfl⟩
theorem d_X2_beginArgument_27 : At cX2_beginArgument 27 (.iload_n 2) 1 28 := ⟨by decide +kernel, rfl⟩
theorem d_X2_beginArgument_28 : At cX2_beginArgument 28 (.invokevirtual 117) 3 31 := ⟨by decide +kernel, rfl⟩
theorem d_X2_beginArgument_31 : Br cX2_beginArgument 31 (.goto 28) (28) 34 59 := ⟨by decide +kernel, rfl, rfl⟩
theorem d_X2_beginArgument_34 : At cX2_beginArgument 34 (.aload_n 0) 1 35 := ⟨by decide +kernel, rfl⟩
theorem d_X2_beginArgument_35 : At cX2_beginArgument 35 (.getfield 48) 3 38 := ⟨by decide +kernel, rfl⟩
theorem d_X2_beginArgument_38 : Br cX2_beginArgument 38 (.ifCond .eq 16) (16) 41 54 := ⟨by decide +kernel, rfl, rfl⟩
theorem d_X2_beginArgument_41 : At cX2_beginArgument 41 (.aload_n 0) 1 42 := ⟨by decide +kernel, rfl⟩
theorem d_X2_beginArgument_42 : At cX2_beginArgument 42 (.aload_n 0) 1 43 := ⟨by decide +kernel, rfl⟩
theorem d_X2_beginArgument_43 : At cX2_beginArgument 43 (.getfield 108) 3 46 := ⟨by decide +kernel, rfl⟩
theorem d_X2_beginArgument_46 : At cX2_beginArgument 46 (.aload_n 0) 1 47 := ⟨by decide +kernel, rfl⟩
theorem d_X2_beginArgument_47 : At cX2_beginArgument 47 (.getfield 121) 3 50 := ⟨by decide +kernel, rfl⟩
theorem d_X2_beginArgument_50 : At cX2_beginArgument 50 (.iconst (-1)) 1 51 := ⟨by decide +kernel, rfl⟩
theorem d_X2_beginArgument_51 : At cX2_beginArgument 51 (.invokevirtual 131) 3 54 := ⟨by decide +kernel, rfl⟩
theorem d_X2_beginArgument_54 : At cX2_beginArgument 54 (.aload_n 0) 1 55 := ⟨by decide +kernel, rfl⟩
theorem d_X2_beginArgument_55 : At cX2_beginArgument 55 (.iload_n 1) 1 56 := ⟨by decide +kernel, rfl⟩
theorem d_X2_beginArgument_56 : At cX2_beginArgument 56 (.invokevirtual 138) 3 59 := ⟨by decide +kernel, rfl⟩
theorem d_X2_beginArgument_59 : Go cX2_beginArgument 59 (.return_) 1 := (by decide +kernel : decode cX2_beginArgument 59 = .ok (.return_, 1))
theorem d_X2_beginCall_0 : At cX2_beginCall 0 (.aload_n 0) 1 1 := ⟨by decide +kernel, rfl⟩
theorem d_X2_beginCall_1 : At cX2_beginCall 1 (.getfield 54) 3 4 := ⟨by decide +kernel, rfl⟩
theorem d_X2_beginCall_4 : At cX2_beginCall 4 (.sipush 301) 3 7 := ⟨by decide +kernel, rfl⟩
theorem d_X2_beginCall_7 : Br cX2_beginCall 7 (.if_icmp .lt 10) (10) 10 17 := ⟨by decide +kernel, rfl, rfl⟩
theorem d_X2_beginCall_10 : At cX2_beginCall 10 (.aload_n 0) 1 11 := ⟨by decide +kernel, rfl⟩
theorem d_X2_beginCall_11 : At cX2_beginCall 11 (.bipush 9) 2 13 := ⟨by decide +kernel, rfl⟩
theorem d_X2_beginCall_13 : At cX2_beginCall 13 (.putfield 41) 3 16 := ⟨by decide +kernel, rfl⟩
theorem d_X2_beginCall_16 : Go cX2_beginCall 16 (.return_) 1 := (by decide +kernel : decode cX2_beginCall 16 = .ok (.return_, 1))
theorem d_X2_beginCall_17 : At cX2_beginCall 17 (.aload_n 0) 1 18 := ⟨by decide +kernel, rfl⟩
theorem d_X2_beginCall_18 : At cX2_beginCall 18 (.getfield 54) 3 21 := ⟨by decide +kernel, rfl⟩
theorem d_X2_beginCall_21 : At cX2_beginCall 21 (.istore_n 2) 1 22 := ⟨by decide +kernel, rfl⟩
theorem d_X2_beginCall_22 : At cX2_beginCall 22 (.aload_n 0) 1 23 := ⟨by decide +kernel, rfl⟩
theorem d_X2_beginCall_23 : At cX2_beginCall 23 (.dup) 1 24 := ⟨by decide +kernel, rfl⟩
theorem d_X2_beginCall_24 : At cX2_beginCall 24 (.getfield 54) 3 27 := ⟨by decide +kernel, rfl⟩
theorem d_X2_beginCall_27 : At cX2_beginCall 27 (.iconst 1) 1 28 := ⟨by decide +kernel, rfl⟩
theorem d_X2_beginCall_28 : At cX2_beginCall 28 (.iadd) 1 29 := ⟨by decide +kernel, rfl⟩
theorem d_X2_beginCall_29 : At cX2_beginCall 29 (.putfield 54) 3 32 := ⟨by decide +kernel, rfl⟩
theorem d_X2_beginCall_32 : At cX2_beginCall 32 (.iconst 0) 1 33 := ⟨by decide +kernel, rfl⟩
theorem d_X2_beginCall_33 : At cX2_beginCall 33 (.istore_n 3) 1 34 := ⟨by decide +kernel, rfl⟩
theorem d_X2_beginCall_34 : At cX2_beginCall 34 (.iload_n 3) 1 35 := ⟨by decide +kernel, rfl⟩
theorem d_X2_beginCall_35 : At cX2_beginCall 35 (.iload_n 1) 1 36 := ⟨by decide +kernel, rfl⟩
theorem d_X2_beginCall_36 : At cX2_beginCall 36 (.invokestatic 91) 3 39 := ⟨by decide +kernel, rfl⟩
theorem d_X2_beginCall_39 : Br cX2_beginCall 39 (.if_icmp .ge 34) (34) 42 73 := ⟨by decide +kernel, rfl, rfl⟩
theorem d_X2_beginCall_42 : At cX2_beginCall 42 (.aload_n 0) 1 43 := ⟨by decide +kernel, rfl⟩
theorem d_X2_beginCall_43 : At cX2_beginCall 43 (.iload_n 2) 1 44 := ⟨by decide +kernel, rfl⟩
theorem d_X2_beginCall_44 : At cX2_beginCall 44 (.iload_n 3) 1 45 := ⟨by decide +kernel, rfl⟩
theorem d_X2_beginCall_45 : At cX2_beginCall 45 (.invokestatic 124) 3 48 := ⟨by decide +kernel, rfl⟩
theorem d_X2_beginCall_48 : At cX2_beginCall 48 (.aload_n 0) 1 49 := ⟨by decide +kernel, rfl⟩
theorem d_X2_beginCall_49 : At cX2_beginCall 49 (.getfield 33) 3 52 := ⟨by decide +kernel, rfl⟩
theorem d_X2_beginCall_52 : At cX2_beginCall 52 (.aload_n 0) 1 53 := ⟨by decide +kernel, rfl⟩
theorem d_X2_beginCall_53 : At cX2_beginCall 53 (.getfield 108) 3 56 := ⟨by decide +kernel, rfl⟩
theorem d_X2_beginCall_56 : At cX2_beginCall 56 (.iload_n 3) 1 57 := ⟨by decide +kernel, rfl⟩
theorem d_X2_beginCall_57 : At cX2_beginCall 57 (.invokevirtual 141) 3 60 := ⟨by decide +kernel, rfl⟩
theorem d_X2_beginCall_60 : At cX2_beginCall 60 (.aload_n 0) 1 61 := ⟨by decide +kernel, rfl⟩
theorem d_X2_beginCall_61 : At cX2_beginCall 61 (.getfield 121) 3 64 := ⟨by decide +kernel, rfl⟩
theorem d_X2_beginCall_64 : At cX2_beginCall 64 (.invokevirtual 144) 3 67 := ⟨by decide +kernel, rfl⟩
theorem d_X2_beginCall_67 : At cX2_beginCall 67 (.iinc 3 1) 3 70 := ⟨by decide +kernel, rfl⟩
theorem d_X2_beginCall_70 : Br cX2_beginCall 70 (.goto (-36)) (-36) 73 34 := ⟨by decide +kernel, rfl, rfl⟩
theorem d_X2_beginCall_73 : At cX2_beginCall 73 (.aload_n 0) 1 74 := ⟨by decide +kernel, rfl⟩
theorem d_X2_beginCall_74 : At cX2_beginCall 74 (.aload_n 0) 1 75 := ⟨by decide +kernel, rfl⟩
theorem d_X2_beginCall_75 : At cX2_beginCall 75 (.getfield 108) 3 78 := ⟨by decide +kernel, rfl⟩
theorem d_X2_beginCall_78 : At cX2_beginCall 78 (.iload_n 2) 1 79 := ⟨by decide +kernel, rfl⟩
theorem d_X2_beginCall_79 : At cX2_beginCall 79 (.iconst 0) 1 80 := ⟨by decide +kernel, rfl⟩
theorem d_X2_beginCall_80 : At cX2_beginCall 80 (.invokevirtual 147) 3 83 := ⟨by decide +kernel, rfl⟩
theorem d_X2_beginCall_83 : Go cX2_beginCall 83 (.return_) 1 := (by decide +kernel : decode cX2_beginCall 83 = .ok (.return_, 1))
theorem d_X2_goOnCalling_0 : At cX2_goOnCalling 0 (.aload_n 0) 1 1 := ⟨by decide +kernel, rfl⟩
theorem d_X2_goOnCalling_1 : At cX2_goOnCalling 1 (.getfield 33) 3 4 := ⟨by decide +kernel, rfl⟩
theorem d_X2_goOnCalling_4 : At cX2_goOnCalling 4 (.iload_n 1) 1 5 := ⟨by decide +kernel, rfl⟩
theorem d_X2_goOnCalling_5 : At cX2_goOnCalling 5 (.invokevirtual 114) 3 8 := ⟨by decide +kernel, rfl⟩
theorem d_X2_goOnCalling_8 : At cX2_goOnCalling 8 (.istore 4) 2 10 := ⟨by decide +kernel, rfl⟩
theorem d_X2_goOnCalling_10 : At cX2_goOnCalling 10 (.iload_n 3) 1 11 := ⟨by decide +kernel, rfl⟩
theorem d_X2_goOnCalling_11 : At cX2_goOnCalling 11 (.istore 5) 2 13 := ⟨by decide +kernel, rfl⟩
theorem d_X2_goOnCalling_13 : At cX2_goOnCalling 13 (.iload 5) 2 15 := ⟨by decide +kernel, rfl⟩
theorem d_X2_goOnCalling_15 : At cX2_goOnCalling 15 (.iload 4) 2 17 := ⟨by decide +kernel, rfl⟩
theorem d_X2_goOnCalling_17 : At cX2_goOnCalling 17 (.invokestatic 91) 3 20 := ⟨by decide +kernel, rfl⟩
theorem d_X2_goOnCalling_20 : Br cX2_goOnCalling 20 (.if_icmp .ge 39) (39) 23 59 := ⟨by decide +kernel, rfl, rfl⟩
theorem d_X2_goOnCalling_23 : At cX2_goOnCalling 23 (.aload_n 0) 1 24 := ⟨by decide +kernel, rfl⟩
theorem d_X2_goOnCalling_24 : At cX2_goOnCalling 24 (.iload 4) 2 26 := ⟨by decide +kernel, rfl⟩
theorem d_X2_goOnCalling_26 : At cX2_goOnCalling 26 (.iload 5) 2 28 := ⟨by decide +kernel, rfl⟩
theorem d_X2_goOnCalling_28 : At cX2_goOnCalling 28 (.invokevirtual 100) 3 31 := ⟨by decide +kernel, rfl⟩
theorem d_X2_goOnCalling_31 : Br cX2_goOnCalling 31 (.ifCond .eq 22) (22) 34 53 := ⟨by decide +kernel, rfl, rfl⟩
theorem d_X2_goOnCalling_34 : At cX2_goOnCalling 34 (.aload_n 0) 1 35 := ⟨by decide +kernel, rfl⟩
theorem d_X2_goOnCalling_35 : At cX2_goOnCalling 35 (.iload_n 1) 1 36 := ⟨by decide +kernel, rfl⟩
theorem d_X2_goOnCalling_36 : At cX2_goOnCalling 36 (.iload_n 2) 1 37 := ⟨by decide +kernel, rfl⟩
theorem d_X2_goOnCalling_37 : At cX2_goOnCalling 37 (.iload 5) 2 39 := ⟨by decide +kernel, rfl⟩
theorem d_X2_goOnCalling_39 : At cX2_goOnCalling 39 (.invokevirtual 131) 3 42 := ⟨by decide +kernel, rfl⟩
theorem d_X2_goOnCalling_42 : At cX2_goOnCalling 42 (.aload_n 0) 1 43 := ⟨by decide +kernel, rfl⟩
theorem d_X2_goOnCalling_43 : At cX2_goOnCalling 43 (.iload_n 2) 1 44 := ⟨by decide +kernel, rfl⟩
theorem d_X2_goOnCalling_44 : At cX2_goOnCalling 44 (.iload 5) 2 46 := ⟨by decide +kernel, rfl⟩
theorem d_X2_goOnCalling_46 : At cX2_goOnCalling 46 (.invokestatic 124) 3 49 := ⟨by decide +kernel, rfl⟩
theorem d_X2_goOnCalling_49 : At cX2_goOnCalling 49 (.invokevirtual 138) 3 52 := ⟨by decide +kernel, rfl⟩
theorem d_X2_goOnCalling_52 : Go cX2_goOnCalling 52 (.return_) 1 := (by decide +kernel : decode cX2_goOnCalling 52 = .ok (.return_, 1))
theorem d_X2_goOnCalling_53 : At cX2_goOnCalling 53 (.iinc 5 1) 3 56 := ⟨by decide +kernel, rfl⟩
theorem d_X2_goOnCalling_56 : Br cX2_goOnCalling 56 (.goto (-43)) (-43) 59 13 := ⟨by decide +kernel, rfl, rfl⟩
theorem d_X2_goOnCalling_59 : At cX2_goOnCalling 59 (.aload_n 0) 1 60 := ⟨by decide +kernel, rfl⟩
theorem d_X2_goOnCalling_60 : At cX2_goOnCalling 60 (.aload_n 0) 1 61 := ⟨by decide +kernel, rfl⟩
theorem d_X2_goOnCalling_61 : At cX2_goOnCalling 61 (.getfield 33) 3 64 := ⟨by decide +kernel, rfl⟩
theorem d_X2_goOnCalling_64 : At cX2_goOnCalling 64 (.iload 4) 2 66 := ⟨by decide +kernel, rfl⟩
theorem d_X2_goOnCalling_66 : At cX2_goOnCalling 66 (.invokevirtual 64) 3 69 := ⟨by decide +kernel, rfl⟩
theorem d_X2_goOnCalling_69 : At cX2_goOnCalling 69 (.iload_n 2) 1 70 := ⟨by decide +kernel, rfl⟩
theorem d_X2_goOnCalling_70 : At cX2_goOnCalling 70 (.invokevirtual 70) 3 73 := ⟨by decide +kernel, rfl⟩
theorem d_X2_goOnCalling_73 : Go cX2_goOnCalling 73 (.return_) 1 := (by decide +kernel : decode cX2_goOnCalling 73 = .ok (.return_, 1))
theorem d_X2_giveBack_0 : At cX2_giveBack 0 (.aload_n 0) 1 1 := ⟨by decide +kernel, rfl⟩
theorem d_X2_giveBack_1 : At cX2_giveBack 1 (.getfield 51) 3 4 := ⟨by decide +kernel, rfl⟩
theorem d_X2_giveBack_4 : Br cX2_giveBack 4 (.ifCond .le 13) (13) 7 17 := ⟨by decide +kernel, rfl, rfl⟩
theorem d_X2_giveBack_7 : At cX2_giveBack 7 (.aload_n 0) 1 8 := ⟨by decide +kernel, rfl⟩
theorem d_X2_giveBack_8 : At cX2_giveBack 8 (.getfield 51) 3 11 := ⟨by decide +kernel, rfl⟩
theorem d_X2_giveBack_11 : At cX2_giveBack 11 (.sipush 300) 3 14 := ⟨by decide +kernel, rfl⟩
theorem d_X2_giveBack_14 : Br cX2_giveBack 14 (.if_icmp .le 12) (12) 17 26 := ⟨by decide +kernel, rfl, rfl⟩
theorem d_X2_giveBack_17 : At cX2_giveBack 17 (.aload_n 0) 1 18 := ⟨by decide +kernel, rfl⟩
theorem d_X2_giveBack_18 : At cX2_giveBack 18 (.aload_n 0) 1 19 := ⟨by decide +kernel, rfl⟩
theorem d_X2_giveBack_19 : At cX2_giveBack 19 (.getfield 150) 3 22 := ⟨by decide +kernel, rfl⟩
theorem d_X2_giveBack_22 : At cX2_giveBack 22 (.putfield 41) 3 25 := ⟨by decide +kernel, rfl⟩
theorem d_X2_giveBack_25 : Go cX2_giveBack 25 (.return_) 1 := (by decide +kernel : decode cX2_giveBack 25 = .ok (.return_, 1))
theorem d_X2_giveBack_26 : At cX2_giveBack 26 (.aload_n 0) 1 27 := ⟨by decide +kernel, rfl⟩
theorem d_X2_giveBack_27 : At cX2_giveBack 27 (.dup) 1 28 := ⟨by decide +kernel, rfl⟩
theorem d_X2_giveBack_28 : At cX2_giveBack 28 (.getfield 51) 3 31 := ⟨by decide +kernel, rfl⟩
theorem d_X2_giveBack_31 : At cX2_giveBack 31 (.iconst 1) 1 32 := ⟨by decide +kernel, rfl⟩
theorem d_X2_giveBack_32 : At cX2_giveBack 32 (.isub) 1 33 := ⟨by decide +kernel, rfl⟩
theorem d_X2_giveBack_33 : At cX2_giveBack 33 (.putfield 51) 3 36 := ⟨by decide +kernel, rfl⟩
theorem d_X2_giveBack_36 : At cX2_giveBack 36 (.aload_n 0) 1 37 := ⟨by decide +kernel, rfl⟩
theorem d_X2_giveBack_37 : At cX2_giveBack 37 (.getfield 21) 3 40 := ⟨by decide +kernel, rfl⟩
theorem d_X2_giveBack_40 : At cX2_giveBack 40 (.aload_n 0) 1 41 := ⟨by decide +kernel, rfl⟩
theorem d_X2_giveBack_41 : At cX2_giveBack 41 (.getfield 51) 3 44 := ⟨by decide +kernel, rfl⟩
theorem d_X2_giveBack_44 : At cX2_giveBack 44 (.iaload) 1 45 := ⟨by decide +kernel, rfl⟩
theorem d_X2_giveBack_45 : At cX2_giveBack 45 (.istore_n 1) 1 46 := ⟨by decide +kernel, rfl⟩
theorem d_X2_giveBack_46 : At cX2_giveBack 46 (.aload_n 0) 1 47 := ⟨by decide +kernel, rfl⟩
theorem d_X2_giveBack_47 : At cX2_giveBack 47 (.getfield 24) 3 50 := ⟨by decide +kernel, rfl⟩
theorem d_X2_giveBack_50 : At cX2_giveBack 50 (.aload_n 0) 1 51 := ⟨by decide +kernel, rfl⟩
theorem d_X2_giveBack_51 : At cX2_giveBack 51 (.getfield 51) 3 54 := ⟨by decide +kernel, rfl⟩
theorem d_X2_giveBack_54 : At cX2_giveBack 54 (.iaload) 1 55 := ⟨by decide +kernel, rfl⟩
theorem d_X2_giveBack_55 : At cX2_giveBack 55 (.istore_n 2) 1 56 := ⟨by decide +kernel, rfl⟩
theorem d_X2_giveBack_56 : At cX2_giveBack 56 (.aload_n 0) 1 57 := ⟨by decide +kernel, rfl⟩
theorem d_X2_giveBack_57 : At cX2_giveBack 57 (.getfield 27) 3 60 := ⟨by decide +kernel, rfl⟩
theorem d_X2_giveBack_60 : At cX2_giveBack 60 (.aload_n 0) 1 61 := ⟨by decide +kernel, rfl⟩
theorem d_X2_giveBack_61 : At cX2_giveBack 61 (.getfield 51) 3 64 := ⟨by decide +kernel, rfl⟩
theorem d_X2_giveBack_64 : At cX2_giveBack 64 (.iaload) 1 65 := ⟨by decide +kernel, rfl⟩
theorem d_X2_giveBack_65 : At cX2_giveBack 65 (.istore_n 3) 1 66 := ⟨by decide +kernel, rfl⟩
theorem d_X2_giveBack_66 : At cX2_giveBack 66 (.aload_n 0) 1 67 := ⟨by decide +kernel, rfl⟩
theorem d_X2_giveBack_67 : At cX2_giveBack 67 (.getfield 33) 3 70 := ⟨by decide +kernel, rfl⟩
theorem d_X2_giveBack_70 : At cX2_giveBack 70 (.iload_n 1) 1 71 := ⟨by decide +kernel, rfl⟩
theorem d_X2_giveBack_71 : At cX2_giveBack 71 (.invokevirtual 111) 3 74 := ⟨by decide +kernel, rfl⟩
theorem d_X2_giveBack_74 : Go cX2_giveBack 74 (.tableswitch 116 3 6 #[68, 30, 40, 91]) 30 := (by decide +kernel : decode cX2_giveBack 74 = .ok (.tableswitch 116 3 6 #[68, 30, 40, 91], 30))
theorem d_X2_giveBack_104 : At cX2_giveBack 104 (.aload_n 0) 1 105 := ⟨by decide +kernel, rfl⟩
theorem d_X2_giveBack_105 : At cX2_giveBack 105 (.iload_n 1) 1 106 := ⟨by decide +kernel, rfl⟩
theorem d_X2_giveBack_106 : At cX2_giveBack 106 (.iload_n 2) 1 107 := ⟨by decide +kernel, rfl⟩
theorem d_X2_giveBack_107 : At cX2_giveBack 107 (.iload_n 3) 1 108 := ⟨by decide +kernel, rfl⟩
theorem d_X2_giveBack_108 : At cX2_giveBack 108 (.invokevirtual 153) 3 111 := ⟨by decide +kernel, rfl⟩
theorem d_X2_giveBack_111 : Br cX2_giveBack 111 (.goto 85) (85) 114 196 := ⟨by decide +kernel, rfl, rfl⟩
theorem d_X2_giveBack_114 : At cX2_giveBack 114 (.aload_n 0) 1 115 := ⟨by decide +kernel, rfl⟩
theorem d_X2_giveBack_115 : At cX2_giveBack 115 (.aload_n 0) 1 116 := ⟨by decide +kernel, rfl⟩
theorem d_X2_giveBack_116 : At cX2_giveBack 116 (.getfield 33) 3 119 := ⟨by decide +kernel, rfl⟩
theorem d_X2_giveBack_119 : At cX2_giveBack 119 (.iload_n 1) 1 120 := ⟨by decide +kernel, rfl⟩
theorem d_X2_giveBack_120 : At cX2_giveBack 120 (.aload_n 0) 1 121 := ⟨by decide +kernel, rfl⟩
theorem d_X2_giveBack_121 : At cX2_giveBack 121 (.getfield 150) 3 124 := ⟨by decide +kernel, rfl⟩
theorem d_X2_giveBack_124 : Br cX2_giveBack 124 (.ifCond .ne 7) (7) 127 131 := ⟨by decide +kernel, rfl, rfl⟩
theorem d_X2_giveBack_127 : At cX2_giveBack 127 (.iconst 1) 1 128 := ⟨by decide +kernel, rfl⟩
theorem d_X2_giveBack_128 : Br cX2_giveBack 128 (.goto 4) (4) 131 132 := ⟨by decide +kernel, rfl, rfl⟩
theorem d_X2_giveBack_131 : At cX2_giveBack 131 (.iconst 2) 1 132 := ⟨by decide +kernel, rfl⟩
theorem d_X2_giveBack_132 : At cX2_giveBack 132 (.invokevirtual 141) 3 135 := ⟨by decide +kernel, rfl⟩
theorem d_X2_giveBack_135 : At cX2_giveBack 135 (.iload_n 2) 1 136 := ⟨by decide +kernel, rfl⟩
theorem d_X2_giveBack_136 : At cX2_giveBack 136 (.invokevirtual 70) 3 139 := ⟨by decide +kernel, rfl⟩
theorem d_X2_giveBack_139 : Br cX2_giveBack 139 (.goto 57) (57) 142 196 := ⟨by decide +kernel, rfl, rfl⟩
theorem d_X2_giveBack_142 : At cX2_giveBack 142 (.aload_n 0) 1 143 := ⟨by decide +kernel, rfl⟩
theorem d_X2_giveBack_143 : At cX2_giveBack 143 (.iload_n 2) 1 144 := ⟨by decide +kernel, rfl⟩
theorem d_X2_giveBack_144 : At cX2_giveBack 144 (.aload_n 0) 1 145 := ⟨by decide +kernel, rfl⟩
theorem d_X2_giveBack_145 : At cX2_giveBack 145 (.getfield 33) 3 148 := ⟨by decide +kernel, rfl⟩
theorem d_X2_giveBack_148 : At cX2_giveBack 148 (.iload_n 1) 1 149 := ⟨by decide +kernel, rfl⟩
theorem d_X2_giveBack_149 : At cX2_giveBack 149 (.invokevirtual 114) 3 152 := ⟨by decide +kernel, rfl⟩
theorem d_X2_giveBack_152 : At cX2_giveBack 152 (.invokestatic 124) 3 155 := ⟨by decide +kernel, rfl⟩
theorem d_X2_giveBack_155 : At cX2_giveBack 155 (.aload_n 0) 1 156 := ⟨by decide +kernel, rfl⟩
theorem d_X2_giveBack_156 : At cX2_giveBack 156 (.getfield 150) 3 159 := ⟨by decide +kernel, rfl⟩
theorem d_X2_giveBack_159 : At cX2_giveBack 159 (.invokevirtual 94) 3 162 := ⟨by decide +kernel, rfl⟩
theorem d_X2_giveBack_162 : Br cX2_giveBack 162 (.goto 34) (34) 165 196 := ⟨by decide +kernel, rfl, rfl⟩
theorem d_X2_giveBack_165 : At cX2_giveBack 165 (.aload_n 0) 1 166 := ⟨by decide +kernel, rfl⟩
theorem d_X2_giveBack_166 : At cX2_giveBack 166 (.iload_n 2) 1 167 := ⟨by decide +kernel, rfl⟩
theorem d_X2_giveBack_167 : At cX2_giveBack 167 (.iload_n 3) 1 168 := ⟨by decide +kernel, rfl⟩
theorem d_X2_giveBack_168 : At cX2_giveBack 168 (.invokestatic 124) 3 171 := ⟨by decide +kernel, rfl⟩
theorem d_X2_giveBack_171 : At cX2_giveBack 171 (.aload_n 0) 1 172 := ⟨by decide +kernel, rfl⟩
theorem d_X2_giveBack_172 : At cX2_giveBack 172 (.getfield 150) 3 175 := ⟨by decide +kernel, rfl⟩
theorem d_X2_giveBack_175 : At cX2_giveBack 175 (.invokevirtual 94) 3 178 := ⟨by decide +kernel, rfl⟩
theorem d_X2_giveBack_178 : At cX2_giveBack 178 (.aload_n 0) 1 179 := ⟨by decide +kernel, rfl⟩
theorem d_X2_giveBack_179 : At cX2_giveBack 179 (.iload_n 1) 1 180 := ⟨by decide +kernel, rfl⟩
theorem d_X2_giveBack_180 : At cX2_giveBack 180 (.iload_n 2) 1 181 := ⟨by decide +kernel, rfl⟩
theorem d_X2_giveBack_181 : At cX2_giveBack 181 (.iload_n 3) 1 182 := ⟨by decide +kernel, rfl⟩
theorem d_X2_giveBack_182 : At cX2_giveBack 182 (.iconst 1) 1 183 := ⟨by decide +kernel, rfl⟩
theorem d_X2_giveBack_183 : At cX2_giveBack 183 (.iadd) 1 184 := ⟨by decide +kernel, rfl⟩
theorem d_X2_giveBack_184 : At cX2_giveBack 184 (.invokevirtual 147) 3 187 := ⟨by decide +kernel, rfl⟩
theorem d_X2_giveBack_187 : Br cX2_giveBack 187 (.goto 9) (9) 190 196 := ⟨by decide +kernel, rfl, rfl⟩
theorem d_X2_giveBack_190 : At cX2_giveBack 190 (.aload_n 0) 1 191 := ⟨by decide +kernel, rfl⟩
theorem d_X2_giveBack_191 : At cX2_giveBack 191 (.bipush 8) 2 193 := ⟨by decide +kernel, rfl⟩
theorem d_X2_giveBack_193 : At cX2_giveBack 193 (.putfield 41) 3 196 := ⟨by decide +kernel, rfl⟩
theorem d_X2_giveBack_196 : Go cX2_giveBack 196 (.return_) 1 := (by decide +kernel : decode cX2_giveBack 196 = .ok (.return_, 1))
theorem d_X2_goOnActing_0 : At cX2_goOnActing 0 (.iload_n 3) 1 1 := ⟨by decide +kernel, rfl⟩
theorem d_X2_goOnActing_1 : At cX2_goOnActing 1 (.iconst (-1)) 1 2 := ⟨by decide +kernel, rfl⟩
theorem d_X2_goOnActing_2 : Br cX2_goOnActing 2 (.if_icmp .ne 30) (30) 5 32 := ⟨by decide +kernel, rfl, rfl⟩
theorem d_X2_goOnActing_5 : At cX2_goOnActing 5 (.aload_n 0) 1 6 := ⟨by decide +kernel, rfl⟩
theorem d_X2_goOnActing_6 : At cX2_goOnActing 6 (.iload_n 1) 1 7 := ⟨by decide +kernel, rfl⟩
theorem d_X2_goOnActing_7 : At cX2_goOnActing 7 (.iload_n 2) 1 8 := ⟨by decide +kernel, rfl⟩
theorem d_X2_goOnActing_8 : At cX2_goOnActing 8 (.aload_n 0) 1 9 := ⟨by decide +kernel, rfl⟩
theorem d_X2_goOnActing_9 : At cX2_goOnActing 9 (.getfield 150) 3 12 := ⟨by decide +kernel, rfl⟩
theorem d_X2_goOnActing_12 : At cX2_goOnActing 12 (.invokevirtual 131) 3 15 := ⟨by decide +kernel, rfl⟩
theorem d_X2_goOnActing_15 : At cX2_goOnActing 15 (.aload_n 0) 1 16 := ⟨by decide +kernel, rfl⟩
theorem d_X2_goOnActing_16 : At cX2_goOnActing 16 (.aload_n 0) 1 17 := ⟨by decide +kernel, rfl⟩
theorem d_X2_goOnActing_17 : At cX2_goOnActing 17 (.getfield 33) 3 20 := ⟨by decide +kernel, rfl⟩
theorem d_X2_goOnActing_20 : At cX2_goOnActing 20 (.iload_n 1) 1 21 := ⟨by decide +kernel, rfl⟩
theorem d_X2_goOnActing_21 : At cX2_goOnActing 21 (.iconst 1) 1 22 := ⟨by decide +kernel, rfl⟩
theorem d_X2_goOnActing_22 : At cX2_goOnActing 22 (.invokevirtual 141) 3 25 := ⟨by decide +kernel, rfl⟩
theorem d_X2_goOnActing_25 : At cX2_goOnActing 25 (.iload_n 2) 1 26 := ⟨by decide +kernel, rfl⟩
theorem d_X2_goOnActing_26 : At cX2_goOnActing 26 (.invokevirtual 70) 3 29 := ⟨by decide +kernel, rfl⟩
theorem d_X2_goOnActing_29 : Br cX2_goOnActing 29 (.goto 23) (23) 32 52 := ⟨by decide +kernel, rfl, rfl⟩
theorem d_X2_goOnActing_32 : At cX2_goOnActing 32 (.aload_n 0) 1 33 := ⟨by decide +kernel, rfl⟩
theorem d_X2_goOnActing_33 : At cX2_goOnActing 33 (.aload_n 0) 1 34 := ⟨by decide +kernel, rfl⟩
theorem d_X2_goOnActing_34 : At cX2_goOnActing 34 (.getfield 33) 3 37 := ⟨by decide +kernel, rfl⟩
theorem d_X2_goOnActing_37 : At cX2_goOnActing 37 (.iload_n 1) 1 38 := ⟨by decide +kernel, rfl⟩
theorem d_X2_goOnActing_38 : At cX2_goOnActing 38 (.invokevirtual 114) 3 41 := ⟨by decide +kernel, rfl⟩
theorem d_X2_goOnActing_41 : At cX2_goOnActing 41 (.iload_n 3) 1 42 := ⟨by decide +kernel, rfl⟩
theorem d_X2_goOnActing_42 : At cX2_goOnActing 42 (.aload_n 0) 1 43 := ⟨by decide +kernel, rfl⟩
theorem d_X2_goOnActing_43 : At cX2_goOnActing 43 (.getfield 150) 3 46 := ⟨by decide +kernel, rfl⟩
theorem d_X2_goOnActing_46 : At cX2_goOnActing 46 (.invokestatic 156) 3 49 := ⟨by decide +kernel, rfl⟩
theorem d_X2_goOnActing_49 : At cX2_goOnActing 49 (.invokevirtual 117) 3 52 := ⟨by decide +kernel, rfl⟩
theorem d_X2_goOnActing_52 : Go cX2_goOnActing 52 (.return_) 1 := (by decide +kernel : decode cX2_goOnActing 52 = .ok (.return_, 1))
theorem d_X2_acted_0 : At cX2_acted 0 (.iload_n 0) 1 1 := ⟨by decide +kernel, rfl⟩
theorem d_X2_acted_1 : Go cX2_acted 1 (.tableswitch 52 42 45 #[45, 31, 52, 38]) 31 := (by decide +kernel : decode cX2_acted 1 = .ok (.tableswitch 52 42 45 #[45, 31, 52, 38], 31))
theorem d_X2_acted_32 : At cX2_acted 32 (.iload_n 1) 1 33 := ⟨by decide +kernel, rfl⟩
theorem d_X2_acted_33 : At cX2_acted 33 (.iload_n 2) 1 34 := ⟨by decide +kernel, rfl⟩
theorem d_X2_acted_34 : At cX2_acted 34 (.iadd) 1 35 := ⟨by decide +kernel, rfl⟩
theorem d_X2_acted_35 : At cX2_acted 35 (.bipush 7) 2 37 := ⟨by decide +kernel, rfl⟩
theorem d_X2_acted_37 : At cX2_acted 37 (.iand) 1 38 := ⟨by decide +kernel, rfl⟩
theorem d_X2_acted_38 : Go cX2_acted 38 (.ireturn) 1 := (by decide +kernel : decode cX2_acted 38 = .ok (.ireturn, 1))
theorem d_X2_acted_39 : At cX2_acted 39 (.iload_n 1) 1 40 := ⟨by decide +kernel, rfl⟩
theorem d_X2_acted_40 : At cX2_acted 40 (.iload_n 2) 1 41 := ⟨by decide +kernel, rfl⟩
theorem d_X2_acted_41 : At cX2_acted 41 (.isub) 1 42 := ⟨by decide +kernel, rfl⟩
theorem d_X2_acted_42 : At cX2_acted 42 (.bipush 7) 2 44 := ⟨by decide +kernel, rfl⟩
theorem d_X2_acted_44 : At cX2_acted 44 (.iand) 1 45 := ⟨by decide +kernel, rfl⟩
theorem d_X2_acted_45 : Go cX2_acted 45 (.ireturn) 1 := (by decide +kernel : decode cX2_acted 45 = .ok (.ireturn, 1))
theorem d_X2_acted_46 : At cX2_acted 46 (.iload_n 1) 1 47 := ⟨by decide +kernel, rfl⟩
theorem d_X2_acted_47 : At cX2_acted 47 (.iload_n 2) 1 48 := ⟨by decide +kernel, rfl⟩
theorem d_X2_acted_48 : At cX2_acted 48 (.imul) 1 49 := ⟨by decide +kernel, rfl⟩
theorem d_X2_acted_49 : At cX2_acted 49 (.bipush 7) 2 51 := ⟨by decide +kernel, rfl⟩
theorem d_X2_acted_51 : At cX2_acted 51 (.iand) 1 52 := ⟨by decide +kernel, rfl⟩
theorem d_X2_acted_52 : Go cX2_acted 52 (.ireturn) 1 := (by decide +kernel : decode cX2_acted 52 = .ok (.ireturn, 1))
theorem d_X2_acted_53 : At cX2_acted 53 (.iload_n 1) 1 54 := ⟨by decide +kernel, rfl⟩
theorem d_X2_acted_54 : At cX2_acted 54 (.iload_n 2) 1 55 := ⟨by decide +kernel, rfl⟩
theorem d_X2_acted_55 : At cX2_acted 55 (.invokestatic 160) 3 58 := ⟨by decide +kernel, rfl⟩
theorem d_X2_acted_58 : Go cX2_acted 58 (.ireturn) 1 := (by decide +kernel : decode cX2_acted 58 = .ok (.ireturn, 1))
theorem d_X2_give_0 : At cX2_give 0 (.aload_n 0) 1 1 := ⟨by decide +kernel, rfl⟩
theorem d_X2_give_1 : At cX2_give 1 (.iconst 1) 1 2 := ⟨by decide +kernel, rfl⟩
theorem d_X2_give_2 : At cX2_give 2 (.putfield 73) 3 5 := ⟨by decide +kernel, rfl⟩
theorem d_X2_give_5 : At cX2_give 5 (.aload_n 0) 1 6 := ⟨by decide +kernel, rfl⟩
theorem d_X2_give_6 : At cX2_give 6 (.iload_n 1) 1 7 := ⟨by decide +kernel, rfl⟩
theorem d_X2_give_7 : At cX2_give 7 (.putfield 150) 3 10 := ⟨by decide +kernel, rfl⟩
theorem d_X2_give_10 : Go cX2_give 10 (.return_) 1 := (by decide +kernel : decode cX2_give 10 = .ok (.return_, 1))
theorem d_X2_goTo_0 : At cX2_goTo 0 (.aload_n 0) 1 1 := ⟨by decide +kernel, rfl⟩
theorem d_X2_goTo_1 : At cX2_goTo 1 (.iconst 0) 1 2 := ⟨by decide +kernel, rfl⟩
theorem d_X2_goTo_2 : At cX2_goTo 2 (.putfield 73) 3 5 := ⟨by decide +kernel, rfl⟩
theorem d_X2_goTo_5 : At cX2_goTo 5 (.aload_n 0) 1 6 := ⟨by decide +kernel, rfl⟩
theorem d_X2_goTo_6 : At cX2_goTo 6 (.iload_n 1) 1 7 := ⟨by decide +kernel, rfl⟩
theorem d_X2_goTo_7 : At cX2_goTo 7 (.putfield 108) 3 10 := ⟨by decide +kernel, rfl⟩
theorem d_X2_goTo_10 : At cX2_goTo 10 (.aload_n 0) 1 11 := ⟨by decide +kernel, rfl⟩
theorem d_X2_goTo_11 : At cX2_goTo 11 (.iload_n 2) 1 12 := ⟨by decide +kernel, rfl⟩
theorem d_X2_goTo_12 : At cX2_goTo 12 (.putfield 121) 3 15 := ⟨by decide +kernel, rfl⟩
theorem d_X2_goTo_15 : Go cX2_goTo 15 (.return_) 1 := (by decide +kernel : decode cX2_goTo 15 = .ok (.return_, 1))
theorem d_X2_await_0 : At cX2_await 0 (.aload_n 0) 1 1 := ⟨by decide +kernel, rfl⟩
theorem d_X2_await_1 : At cX2_await 1 (.getfield 51) 3 4 := ⟨by decide +kernel, rfl⟩
theorem d_X2_await_4 : Br cX2_await 4 (.ifCond .lt 13) (13) 7 17 := ⟨by decide +kernel, rfl, rfl⟩
theorem d_X2_await_7 : At cX2_await 7 (.aload_n 0) 1 8 := ⟨by decide +kernel, rfl⟩
theorem d_X2_await_8 : At cX2_await 8 (.getfield 51) 3 11 := ⟨by decide +kernel, rfl⟩
theorem d_X2_await_11 : At cX2_await 11 (.sipush 300) 3 14 := ⟨by decide +kernel, rfl⟩
theorem d_X2_await_14 : Br cX2_await 14 (.if_icmp .lt 10) (10) 17 24 := ⟨by decide +kernel, rfl, rfl⟩
theorem d_X2_await_17 : At cX2_await 17 (.aload_n 0) 1 18 := ⟨by decide +kernel, rfl⟩
theorem d_X2_await_18 : At cX2_await 18 (.bipush 9) 2 20 := ⟨by decide +kernel, rfl⟩
theorem d_X2_await_20 : At cX2_await 20 (.putfield 41) 3 23 := ⟨by decide +kernel, rfl⟩
theorem d_X2_await_23 : Go cX2_await 23 (.return_) 1 := (by decide +kernel : decode cX2_await 23 = .ok (.return_, 1))
theorem d_X2_await_24 : At cX2_await 24 (.aload_n 0) 1 25 := ⟨by decide +kernel, rfl⟩
theorem d_X2_await_25 : At cX2_await 25 (.getfield 21) 3 28 := ⟨by decide +kernel, rfl⟩
theorem d_X2_await_28 : At cX2_await 28 (.aload_n 0) 1 29 := ⟨by decide +kernel, rfl⟩
theorem d_X2_await_29 : At cX2_await 29 (.getfield 51) 3 32 := ⟨by decide +kernel, rfl⟩
theorem d_X2_await_32 : At cX2_await 32 (.iload_n 1) 1 33 := ⟨by decide +kernel, rfl⟩
theorem d_X2_await_33 : At cX2_await 33 (.iastore) 1 34 := ⟨by decide +kernel, rfl⟩
theorem d_X2_await_34 : At cX2_await 34 (.aload_n 0) 1 35 := ⟨by decide +kernel, rfl⟩
theorem d_X2_await_35 : At cX2_await 35 (.getfield 24) 3 38 := ⟨by decide +kernel, rfl⟩
theorem d_X2_await_38 : At cX2_await 38 (.aload_n 0) 1 39 := ⟨by decide +kernel, rfl⟩
theorem d_X2_await_39 : At cX2_await 39 (.getfield 51) 3 42 := ⟨by decide +kernel, rfl⟩
theorem d_X2_await_42 : At cX2_await 42 (.iload_n 2) 1 43 := ⟨by decide +kernel, rfl⟩
theorem d_X2_await_43 : At cX2_await 43 (.iastore) 1 44 := ⟨by decide +kernel, rfl⟩
theorem d_X2_await_44 : At cX2_await 44 (.aload_n 0) 1 45 := ⟨by decide +kernel, rfl⟩
theorem d_X2_await_45 : At cX2_await 45 (.getfield 27) 3 48 := ⟨by decide +kernel, rfl⟩
theorem d_X2_await_48 : At cX2_await 48 (.aload_n 0) 1 49 := ⟨by decide +kernel, rfl⟩
theorem d_X2_await_49 : At cX2_await 49 (.getfield 51) 3 52 := ⟨by decide +kernel, rfl⟩
theorem d_X2_await_52 : At cX2_await 52 (.iload_n 3) 1 53 := ⟨by decide +kernel, rfl⟩
theorem d_X2_await_53 : At cX2_await 53 (.iastore) 1 54 := ⟨by decide +kernel, rfl⟩
theorem d_X2_await_54 : At cX2_await 54 (.aload_n 0) 1 55 := ⟨by decide +kernel, rfl⟩
theorem d_X2_await_55 : At cX2_await 55 (.dup) 1 56 := ⟨by decide +kernel, rfl⟩
theorem d_X2_await_56 : At cX2_await 56 (.getfield 51) 3 59 := ⟨by decide +kernel, rfl⟩
theorem d_X2_await_59 : At cX2_await 59 (.iconst 1) 1 60 := ⟨by decide +kernel, rfl⟩
theorem d_X2_await_60 : At cX2_await 60 (.iadd) 1 61 := ⟨by decide +kernel, rfl⟩
theorem d_X2_await_61 : At cX2_await 61 (.putfield 51) 3 64 := ⟨by decide +kernel, rfl⟩
theorem d_X2_await_64 : Go cX2_await 64 (.return_) 1 := (by decide +kernel : decode cX2_await 64 = .ok (.return_, 1))
theorem d_X2_slotOf_0 : At cX2_slotOf 0 (.iload_n 0) 1 1 := ⟨by decide +kernel, rfl⟩
theorem d_X2_slotOf_1 : At cX2_slotOf 1 (.iconst 3) 1 2 := ⟨by decide +kernel, rfl⟩
theorem d_X2_slotOf_2 : At cX2_slotOf 2 (.imul) 1 3 := ⟨by decide +kernel, rfl⟩
theorem d_X2_slotOf_3 : At cX2_slotOf 3 (.iload_n 1) 1 4 := ⟨by decide +kernel, rfl⟩
theorem d_X2_slotOf_4 : At cX2_slotOf 4 (.iadd) 1 5 := ⟨by decide +kernel, rfl⟩
theorem d_X2_slotOf_5 : Go cX2_slotOf 5 (.ireturn) 1 := (by decide +kernel : decode cX2_slotOf 5 = .ok (.ireturn, 1))
theorem d_X2_isSlot_0 : At cX2_isSlot 0 (.iload_n 0) 1 1 := ⟨by decide +kernel, rfl⟩
theorem d_X2_isSlot_1 : Br cX2_isSlot 1 (.ifCond .lt 14) (14) 4 15 := ⟨by decide +kernel, rfl, rfl⟩
theorem d_X2_isSlot_4 : At cX2_isSlot 4 (.iload_n 0) 1 5 := ⟨by decide +kernel, rfl⟩
theorem d_X2_isSlot_5 : At cX2_isSlot 5 (.sipush 903) 3 8 := ⟨by decide +kernel, rfl⟩
theorem d_X2_isSlot_8 : Br cX2_isSlot 8 (.if_icmp .ge 7) (7) 11 15 := ⟨by decide +kernel, rfl, rfl⟩
theorem d_X2_isSlot_11 : At cX2_isSlot 11 (.iconst 1) 1 12 := ⟨by decide +kernel, rfl⟩
theorem d_X2_isSlot_12 : Br cX2_isSlot 12 (.goto 4) (4) 15 16 := ⟨by decide +kernel, rfl, rfl⟩
theorem d_X2_isSlot_15 : At cX2_isSlot 15 (.iconst 0) 1 16 := ⟨by decide +kernel, rfl⟩
theorem d_X2_isSlot_16 : Go cX2_isSlot 16 (.ireturn) 1 := (by decide +kernel : decode cX2_isSlot 16 = .ok (.ireturn, 1))
theorem d_X2_heldIn_0 : At cX2_heldIn 0 (.iload_n 1) 1 1 := ⟨by decide +kernel, rfl⟩
theorem d_X2_heldIn_1 : At cX2_heldIn 1 (.invokestatic 165) 3 4 := ⟨by decide +kernel, rfl⟩
theorem d_X2_heldIn_4 : Br cX2_heldIn 4 (.ifCond .eq 12) (12) 7 16 := ⟨by decide +kernel, rfl, rfl⟩
theorem d_X2_heldIn_7 : At cX2_heldIn 7 (.aload_n 0) 1 8 := ⟨by decide +kernel, rfl⟩
theorem d_X2_heldIn_8 : At cX2_heldIn 8 (.getfield 11) 3 11 := ⟨by decide +kernel, rfl⟩
theorem d_X2_heldIn_11 : At cX2_heldIn 11 (.iload_n 1) 1 12 := ⟨by decide +kernel, rfl⟩
theorem d_X2_heldIn_12 : At cX2_heldIn 12 (.iaload) 1 13 := ⟨by decide +kernel, rfl⟩
theorem d_X2_heldIn_13 : Br cX2_heldIn 13 (.goto 5) (5) 16 18 := ⟨by decide +kernel, rfl, rfl⟩
theorem d_X2_heldIn_16 : At cX2_heldIn 16 (.bipush 8) 2 18 := ⟨by decide +kernel, rfl⟩
theorem d_X2_heldIn_18 : Go cX2_heldIn 18 (.ireturn) 1 := (by decide +kernel : decode cX2_heldIn 18 = .ok (.ireturn, 1))
theorem d_X2_setSlot_0 : At cX2_setSlot 0 (.iload_n 1) 1 1 := ⟨by decide +kernel, rfl⟩
theorem d_X2_setSlot_1 : At cX2_setSlot 1 (.invokestatic 165) 3 4 := ⟨by decide +kernel, rfl⟩
theorem d_X2_setSlot_4 : Br cX2_setSlot 4 (.ifCond .eq 10) (10) 7 14 := ⟨by decide +kernel, rfl, rfl⟩
theorem d_X2_setSlot_7 : At cX2_setSlot 7 (.aload_n 0) 1 8 := ⟨by decide +kernel, rfl⟩
theorem d_X2_setSlot_8 : At cX2_setSlot 8 (.getfield 11) 3 11 := ⟨by decide +kernel, rfl⟩
theorem d_X2_setSlot_11 : At cX2_setSlot 11 (.iload_n 1) 1 12 := ⟨by decide +kernel, rfl⟩
theorem d_X2_setSlot_12 : At cX2_setSlot 12 (.iload_n 2) 1 13 := ⟨by decide +kernel, rfl⟩
theorem d_X2_setSlot_13 : At cX2_setSlot 13 (.iastore) 1 14 := ⟨by decide +kernel, rfl⟩
theorem d_X2_setSlot_14 : Go cX2_setSlot 14 (.return_) 1 := (by decide +kernel : decode cX2_setSlot 14 = .ok (.return_, 1))
theorem d_X2_hang_0 : At cX2_hang 0 (.iload_n 1) 1 1 := ⟨by decide +kernel, rfl⟩
theorem d_X2_hang_1 : At cX2_hang 1 (.invokestatic 165) 3 4 := ⟨by decide +kernel, rfl⟩
theorem d_X2_hang_4 : Br cX2_hang 4 (.ifCond .eq 24) (24) 7 28 := ⟨by decide +kernel, rfl, rfl⟩
theorem d_X2_hang_7 : At cX2_hang 7 (.aload_n 0) 1 8 := ⟨by decide +kernel, rfl⟩
theorem d_X2_hang_8 : At cX2_hang 8 (.getfield 11) 3 11 := ⟨by decide +kernel, rfl⟩
theorem d_X2_hang_11 : At cX2_hang 11 (.iload_n 1) 1 12 := ⟨by decide +kernel, rfl⟩
theorem d_X2_hang_12 : At cX2_hang 12 (.iconst (-1)) 1 13 := ⟨by decide +kernel, rfl⟩
theorem d_X2_hang_13 : At cX2_hang 13 (.iastore) 1 14 := ⟨by decide +kernel, rfl⟩
theorem d_X2_hang_14 : At cX2_hang 14 (.aload_n 0) 1 15 := ⟨by decide +kernel, rfl⟩
theorem d_X2_hang_15 : At cX2_hang 15 (.getfield 15) 3 18 := ⟨by decide +kernel, rfl⟩
theorem d_X2_hang_18 : At cX2_hang 18 (.iload_n 1) 1 19 := ⟨by decide +kernel, rfl⟩
theorem d_X2_hang_19 : At cX2_hang 19 (.iload_n 2) 1 20 := ⟨by decide +kernel, rfl⟩
theorem d_X2_hang_20 : At cX2_hang 20 (.iastore) 1 21 := ⟨by decide +kernel, rfl⟩
theorem d_X2_hang_21 : At cX2_hang 21 (.aload_n 0) 1 22 := ⟨by decide +kernel, rfl⟩
theorem d_X2_hang_22 : At cX2_hang 22 (.getfield 18) 3 25 := ⟨by decide +kernel, rfl⟩
theorem d_X2_hang_25 : At cX2_hang 25 (.iload_n 1) 1 26 := ⟨by decide +kernel, rfl⟩
theorem d_X2_hang_26 : At cX2_hang 26 (.iload_n 3) 1 27 := ⟨by decide +kernel, rfl⟩
theorem d_X2_hang_27 : At cX2_hang 27 (.iastore) 1 28 := ⟨by decide +kernel, rfl⟩
theorem d_X2_hang_28 : Go cX2_hang 28 (.return_) 1 := (by decide +kernel : decode cX2_hang 28 = .ok (.return_, 1))
theorem d_X2_goToSlot_0 : At cX2_goToSlot 0 (.iload_n 1) 1 1 := ⟨by decide +kernel, rfl⟩
theorem d_X2_goToSlot_1 : At cX2_goToSlot 1 (.invokestatic 165) 3 4 := ⟨by decide +kernel, rfl⟩
theorem d_X2_goToSlot_4 : Br cX2_goToSlot 4 (.ifCond .eq 19) (19) 7 23 := ⟨by decide +kernel, rfl, rfl⟩
theorem d_X2_goToSlot_7 : At cX2_goToSlot 7 (.aload_n 0) 1 8 := ⟨by decide +kernel, rfl⟩
theorem d_X2_goToSlot_8 : At cX2_goToSlot 8 (.aload_n 0) 1 9 := ⟨by decide +kernel, rfl⟩
theorem d_X2_goToSlot_9 : At cX2_goToSlot 9 (.getfield 15) 3 12 := ⟨by decide +kernel, rfl⟩
theorem d_X2_goToSlot_12 : At cX2_goToSlot 12 (.iload_n 1) 1 13 := ⟨by decide +kernel, rfl⟩
theorem d_X2_goToSlot_13 : At cX2_goToSlot 13 (.iaload) 1 14 := ⟨by decide +kernel, rfl⟩
theorem d_X2_goToSlot_14 : At cX2_goToSlot 14 (.aload_n 0) 1 15 := ⟨by decide +kernel, rfl⟩
theorem d_X2_goToSlot_15 : At cX2_goToSlot 15 (.getfield 18) 3 18 := ⟨by decide +kernel, rfl⟩
theorem d_X2_goToSlot_18 : At cX2_goToSlot 18 (.iload_n 1) 1 19 := ⟨by decide +kernel, rfl⟩
theorem d_X2_goToSlot_19 : At cX2_goToSlot 19 (.iaload) 1 20 := ⟨by decide +kernel, rfl⟩
theorem d_X2_goToSlot_20 : At cX2_goToSlot 20 (.invokevirtual 70) 3 23 := ⟨by decide +kernel, rfl⟩
theorem d_X2_goToSlot_23 : Go cX2_goToSlot 23 (.return_) 1 := (by decide +kernel : decode cX2_goToSlot 23 = .ok (.return_, 1))
theorem d_X3_init_0 : At cX3_init 0 (.aload_n 0) 1 1 := ⟨by decide +kernel, rfl⟩
theorem d_X3_init_1 : At cX3_init 1 (.invokespecial 3) 3 4 := ⟨by decide +kernel, rfl⟩
theorem d_X3_init_4 : At cX3_init 4 (.aload_n 0) 1 5 := ⟨by decide +kernel, rfl⟩
theorem d_X3_init_5 : At cX3_init 5 (.sipush 3600) 3 8 := ⟨by decide +kernel, rfl⟩
theorem d_X3_init_8 : At cX3_init 8 (.newarray .int) 2 10 := ⟨by decide +kernel, rfl⟩
theorem d_X3_init_10 : At cX3_init 10 (.putfield 11) 3 13 := ⟨by decide +kernel, rfl⟩
theorem d_X3_init_13 : At cX3_init 13 (.aload_n 0) 1 14 := ⟨by decide +kernel, rfl⟩
theorem d_X3_init_14 : At cX3_init 14 (.aload_n 1) 1 15 := ⟨by decide +kernel, rfl⟩
theorem d_X3_init_15 : At cX3_init 15 (.putfield 15) 3 18 := ⟨by decide +kernel, rfl⟩
theorem d_X3_init_18 : At cX3_init 18 (.aload_n 0) 1 19 := ⟨by decide +kernel, rfl⟩
theorem d_X3_init_19 : At cX3_init 19 (.getfield 11) 3 22 := ⟨by decide +kernel, rfl⟩
theorem d_X3_init_22 : At cX3_init 22 (.iconst (-1)) 1 23 := ⟨by decide +kernel, rfl⟩
theorem d_X3_init_23 : At cX3_init 23 (.invokestatic 19) 3 26 := ⟨by decide +kernel, rfl⟩
theorem d_X3_init_26 : Go cX3_init 26 (.return_) 1 := (by decide +kernel : decode cX3_init 26 = .ok (.return_, 1))
theorem d_X3_forget_0 : At cX3_forget 0 (.aload_n 0) 1 1 := ⟨by decide +kernel, rfl⟩
theorem d_X3_forget_1 : At cX3_forget 1 (.getfield 11) 3 4 := ⟨by decide +kernel, rfl⟩
theorem d_X3_forget_4 : At cX3_forget 4 (.iconst (-1)) 1 5 := ⟨by decide +kernel, rfl⟩
theorem d_X3_forget_5 : At cX3_forget 5 (.invokestatic 19) 3 8 := ⟨by decide +kernel, rfl⟩
theorem d_X3_forget_8 : Go cX3_forget 8 (.return_) 1 := (by decide +kernel : decode cX3_forget 8 = .ok (.return_, 1))
theorem d_X3_endIn_0 : At cX3_endIn 0 (.iload_n 0) 1 1 := ⟨by decide +kernel, rfl⟩
theorem d_X3_endIn_1 : At cX3_endIn 1 (.bipush 10) 2 3 := ⟨by decide +kernel, rfl⟩
theorem d_X3_endIn_3 : At cX3_endIn 3 (.irem) 1 4 := ⟨by decide +kernel, rfl⟩
theorem d_X3_endIn_4 : Go cX3_endIn 4 (.ireturn) 1 := (by decide +kernel : decode cX3_endIn 4 = .ok (.ireturn, 1))
theorem d_X3_stepsIn_0 : At cX3_stepsIn 0 (.iload_n 0) 1 1 := ⟨by decide +kernel, rfl⟩
theorem d_X3_stepsIn_1 : At cX3_stepsIn 1 (.bipush 10) 2 3 := ⟨by decide +kernel, rfl⟩
theorem d_X3_stepsIn_3 : At cX3_stepsIn 3 (.idiv) 1 4 := ⟨by decide +kernel, rfl⟩
theorem d_X3_stepsIn_4 : Go cX3_stepsIn 4 (.ireturn) 1 := (by decide +kernel : decode cX3_stepsIn 4 = .ok (.ireturn, 1))
theorem d_X3_of_0 : At cX3_of 0 (.iload_n 1) 1 1 := ⟨by decide +kernel, rfl⟩
theorem d_X3_of_1 : At cX3_of 1 (.invokestatic 25) 3 4 := ⟨by decide +kernel, rfl⟩
theorem d_X3_of_4 : Br cX3_of 4 (.ifCond .ne 6) (6) 7 10 := ⟨by decide +kernel, rfl, rfl⟩
theorem d_X3_of_7 : At cX3_of 7 (.bipush 9) 2 9 := ⟨by decide +kernel, rfl⟩
theorem d_X3_of_9 : Go cX3_of 9 (.ireturn) 1 := (by decide +kernel : decode cX3_of 9 = .ok (.ireturn, 1))
theorem d_X3_of_10 : At cX3_of 10 (.getstatic 29) 3 13 := ⟨by decide +kernel, rfl⟩
theorem d_X3_of_13 : At cX3_of 13 (.iload_n 1) 1 14 := ⟨by decide +kernel, rfl⟩
theorem d_X3_of_14 : At cX3_of 14 (.iaload) 1 15 := ⟨by decide +kernel, rfl⟩
theorem d_X3_of_15 : At cX3_of 15 (.iload_n 3) 1 16 := ⟨by decide +kernel, rfl⟩
theorem d_X3_of_16 : At cX3_of 16 (.getstatic 32) 3 19 := ⟨by decide +kernel, rfl⟩
theorem d_X3_of_19 : At cX3_of 19 (.iload_n 1) 1 20 := ⟨by decide +kernel, rfl⟩
theorem d_X3_of_20 : At cX3_of 20 (.iaload) 1 21 := ⟨by decide +kernel, rfl⟩
theorem d_X3_of_21 : At cX3_of 21 (.imul) 1 22 := ⟨by decide +kernel, rfl⟩
theorem d_X3_of_22 : At cX3_of 22 (.iadd) 1 23 := ⟨by decide +kernel, rfl⟩
theorem d_X3_of_23 : At cX3_of 23 (.iload_n 2) 1 24 := ⟨by decide +kernel, rfl⟩
theorem d_X3_of_24 : At cX3_of 24 (.iadd) 1 25 := ⟨by decide +kernel, rfl⟩
theorem d_X3_of_25 : At cX3_of 25 (.istore 4) 2 27 := ⟨by decide +kernel, rfl⟩
theorem d_X3_of_27 : At cX3_of 27 (.iload 4) 2 29 := ⟨by decide +kernel, rfl⟩
theorem d_X3_of_29 : Br cX3_of 29 (.ifCond .lt 11) (11) 32 40 := ⟨by decide +kernel, rfl, rfl⟩
theorem d_X3_of_32 : At cX3_of 32 (.iload 4) 2 34 := ⟨by decide +kernel, rfl⟩
theorem d_X3_of_34 : At cX3_of 34 (.sipush 3600) 3 37 := ⟨by decide +kernel, rfl⟩
theorem d_X3_of_37 : Br cX3_of 37 (.if_icmp .lt 6) (6) 40 43 := ⟨by decide +kernel, rfl, rfl⟩
theorem d_X3_of_40 : At cX3_of 40 (.bipush 9) 2 42 := ⟨by decide +kernel, rfl⟩
theorem d_X3_of_42 : Go cX3_of 42 (.ireturn) 1 := (by decide +kernel : decode cX3_of 42 = .ok (.ireturn, 1))
theorem d_X3_of_43 : At cX3_of 43 (.aload_n 0) 1 44 := ⟨by decide +kernel, rfl⟩
theorem d_X3_of_44 : At cX3_of 44 (.getfield 11) 3 47 := ⟨by decide +kernel, rfl⟩
theorem d_X3_of_47 : At cX3_of 47 (.iload 4) 2 49 := ⟨by decide +kernel, rfl⟩
theorem d_X3_of_49 : At cX3_of 49 (.iaload) 1 50 := ⟨by decide +kernel, rfl⟩
theorem d_X3_of_50 : At cX3_of 50 (.iconst (-1)) 1 51 := ⟨by decide +kernel, rfl⟩
theorem d_X3_of_51 : Br cX3_of 51 (.if_icmp .ne 38) (38) 54 89 := ⟨by decide +kernel, rfl, rfl⟩
theorem d_X3_of_54 : At cX3_of 54 (.aload_n 0) 1 55 := ⟨by decide +kernel, rfl⟩
theorem d_X3_of_55 : At cX3_of 55 (.getfield 15) 3 58 := ⟨by decide +kernel, rfl⟩
theorem d_X3_of_58 : At cX3_of 58 (.iload_n 1) 1 59 := ⟨by decide +kernel, rfl⟩
theorem d_X3_of_59 : At cX3_of 59 (.iload_n 2) 1 60 := ⟨by decide +kernel, rfl⟩
theorem d_X3_of_60 : At cX3_of 60 (.iload_n 3) 1 61 := ⟨by decide +kernel, rfl⟩
theorem d_X3_of_61 : At cX3_of 61 (.invokevirtual 35) 3 64 := ⟨by decide +kernel, rfl⟩
theorem d_X3_of_64 : At cX3_of 64 (.aload_n 0) 1 65 := ⟨by decide +kernel, rfl⟩
theorem d_X3_of_65 : At cX3_of 65 (.getfield 11) 3 68 := ⟨by decide +kernel, rfl⟩
theorem d_X3_of_68 : At cX3_of 68 (.iload 4) 2 70 := ⟨by decide +kernel, rfl⟩
theorem d_X3_of_70 : At cX3_of 70 (.aload_n 0) 1 71 := ⟨by decide +kernel, rfl⟩
theorem d_X3_of_71 : At cX3_of 71 (.getfield 15) 3 74 := ⟨by decide +kernel, rfl⟩
theorem d_X3_of_74 : At cX3_of 74 (.invokevirtual 41) 3 77 := ⟨by decide +kernel, rfl⟩
theorem d_X3_of_77 : At cX3_of 77 (.bipush 10) 2 79 := ⟨by decide +kernel, rfl⟩
theorem d_X3_of_79 : At cX3_of 79 (.imul) 1 80 := ⟨by decide +kernel, rfl⟩
theorem d_X3_of_80 : At cX3_of 80 (.aload_n 0) 1 81 := ⟨by decide +kernel, rfl⟩
theorem d_X3_of_81 : At cX3_of 81 (.getfield 15) 3 84 := ⟨by decide +kernel, rfl⟩
theorem d_X3_of_84 : At cX3_of 84 (.invokevirtual 45) 3 87 := ⟨by decide +kernel, rfl⟩
theorem d_X3_of_87 : At cX3_of 87 (.iadd) 1 88 := ⟨by decide +kernel, rfl⟩
theorem d_X3_of_88 : At cX3_of 88 (.iastore) 1 89 := ⟨by decide +kernel, rfl⟩
theorem d_X3_of_89 : At cX3_of 89 (.aload_n 0) 1 90 := ⟨by decide +kernel, rfl⟩
theorem d_X3_of_90 : At cX3_of 90 (.getfield 11) 3 93 := ⟨by decide +kernel, rfl⟩
theorem d_X3_of_93 : At cX3_of 93 (.iload 4) 2 95 := ⟨by decide +kernel, rfl⟩
theorem d_X3_of_95 : At cX3_of 95 (.iaload) 1 96 := ⟨by decide +kernel, rfl⟩
theorem d_X3_of_96 : Go cX3_of 96 (.ireturn) 1 := (by decide +kernel : decode cX3_of 96 = .ok (.ireturn, 1))
theorem d_X4_init_0 : At cX4_init 0 (.aload_n 0) 1 1 := ⟨by decide +kernel, rfl⟩
theorem d_X4_init_1 : At cX4_init 1 (.invokespecial 3) 3 4 := ⟨by decide +kernel, rfl⟩
theorem d_X4_init_4 : At cX4_init 4 (.aload_n 0) 1 5 := ⟨by decide +kernel, rfl⟩
theorem d_X4_init_5 : At cX4_init 5 (.bipush 30) 2 7 := ⟨by decide +kernel, rfl⟩
theorem d_X4_init_7 : At cX4_init 7 (.newarray .int) 2 9 := ⟨by decide +kernel, rfl⟩
theorem d_X4_init_9 : At cX4_init 9 (.putfield 9) 3 12 := ⟨by decide +kernel, rfl⟩
theorem d_X4_init_12 : Go cX4_init 12 (.return_) 1 := (by decide +kernel : decode cX4_init 12 = .ok (.return_, 1))
theorem d_X4_count_0 : At cX4_count 0 (.aload_n 0) 1 1 := ⟨by decide +kernel, rfl⟩
theorem d_X4_count_1 : At cX4_count 1 (.getfield 15) 3 4 := ⟨by decide +kernel, rfl⟩
theorem d_X4_count_4 : Go cX4_count 4 (.ireturn) 1 := (by decide +kernel : decode cX4_count 4 = .ok (.ireturn, 1))
theorem d_X4_add_0 : At cX4_add 0 (.aload_n 0) 1 1 := ⟨by decide +kernel, rfl⟩
theorem d_X4_add_1 : At cX4_add 1 (.getfield 15) 3 4 := ⟨by decide +kernel, rfl⟩
theorem d_X4_add_4 : Br cX4_add 4 (.ifCond .lt 12) (12) 7 16 := ⟨by decide +kernel, rfl, rfl⟩
theorem d_X4_add_7 : At cX4_add 7 (.aload_n 0) 1 8 := ⟨by decide +kernel, rfl⟩
theorem d_X4_add_8 : At cX4_add 8 (.getfield 15) 3 11 := ⟨by decide +kernel, rfl⟩
theorem d_X4_add_11 : At cX4_add 11 (.bipush 30) 2 13 := ⟨by decide +kernel, rfl⟩
theorem d_X4_add_13 : Br cX4_add 13 (.if_icmp .lt 5) (5) 16 18 := ⟨by decide +kernel, rfl, rfl⟩
theorem d_X4_add_16 : At cX4_add 16 (.iconst 0) 1 17 := ⟨by decide +kernel, rfl⟩
theorem d_X4_add_17 : Go cX4_add 17 (.ireturn) 1 := (by decide +kernel : decode cX4_add 17 = .ok (.ireturn, 1))
theorem d_X4_add_18 : At cX4_add 18 (.aload_n 0) 1 19 := ⟨by decide +kernel, rfl⟩
theorem d_X4_add_19 : At cX4_add 19 (.getfield 9) 3 22 := ⟨by decide +kernel, rfl⟩
theorem d_X4_add_22 : At cX4_add 22 (.aload_n 0) 1 23 := ⟨by decide +kernel, rfl⟩
theorem d_X4_add_23 : At cX4_add 23 (.getfield 15) 3 26 := ⟨by decide +kernel, rfl⟩
theorem d_X4_add_26 : At cX4_add 26 (.iload_n 1) 1 27 := ⟨by decide +kernel, rfl⟩
theorem d_X4_add_27 : At cX4_add 27 (.iastore) 1 28 := ⟨by decide +kernel, rfl⟩
theorem d_X4_add_28 : At cX4_add 28 (.aload_n 0) 1 29 := ⟨by decide +kernel, rfl⟩
theorem d_X4_add_29 : At cX4_add 29 (.dup) 1 30 := ⟨by decide +kernel, rfl⟩
theorem d_X4_add_30 : At cX4_add 30 (.getfield 15) 3 33 := ⟨by decide +kernel, rfl⟩
theorem d_X4_add_33 : At cX4_add 33 (.iconst 1) 1 34 := ⟨by decide +kernel, rfl⟩
theorem d_X4_add_34 : At cX4_add 34 (.iadd) 1 35 := ⟨by decide +kernel, rfl⟩
theorem d_X4_add_35 : At cX4_add 35 (.putfield 15) 3 38 := ⟨by decide +kernel, rfl⟩
theorem d_X4_add_38 : At cX4_add 38 (.iconst 1) 1 39 := ⟨by decide +kernel, rfl⟩
theorem d_X4_add_39 : Go cX4_add 39 (.ireturn) 1 := (by decide +kernel : decode cX4_add 39 = .ok (.ireturn, 1))
theorem d_X4_clear_0 : At cX4_clear 0 (.aload_n 0) 1 1 := ⟨by decide +kernel, rfl⟩
theorem d_X4_clear_1 : At cX4_clear 1 (.iconst 0) 1 2 := ⟨by decide +kernel, rfl⟩
theorem d_X4_clear_2 : At cX4_clear 2 (.putfield 15) 3 5 := ⟨by decide +kernel, rfl⟩
theorem d_X4_clear_5 : Go cX4_clear 5 (.return_) 1 := (by decide +kernel : decode cX4_clear 5 = .ok (.return_, 1))
theorem d_X4_signAt_0 : At cX4_signAt 0 (.iload_n 1) 1 1 := ⟨by decide +kernel, rfl⟩
theorem d_X4_signAt_1 : Br cX4_signAt 1 (.ifCond .lt 26) (26) 4 27 := ⟨by decide +kernel, rfl, rfl⟩
theorem d_X4_signAt_4 : At cX4_signAt 4 (.iload_n 1) 1 5 := ⟨by decide +kernel, rfl⟩
theorem d_X4_signAt_5 : At cX4_signAt 5 (.aload_n 0) 1 6 := ⟨by decide +kernel, rfl⟩
theorem d_X4_signAt_6 : At cX4_signAt 6 (.getfield 15) 3 9 := ⟨by decide +kernel, rfl⟩
theorem d_X4_signAt_9 : Br cX4_signAt 9 (.if_icmp .ge 18) (18) 12 27 := ⟨by decide +kernel, rfl, rfl⟩
theorem d_X4_signAt_12 : At cX4_signAt 12 (.iload_n 1) 1 13 := ⟨by decide +kernel, rfl⟩
theorem d_X4_signAt_13 : At cX4_signAt 13 (.bipush 30) 2 15 := ⟨by decide +kernel, rfl⟩
theorem d_X4_signAt_15 : Br cX4_signAt 15 (.if_icmp .ge 12) (12) 18 27 := ⟨by decide +kernel, rfl, rfl⟩
theorem d_X4_signAt_18 : At cX4_signAt 18 (.aload_n 0) 1 19 := ⟨by decide +kernel, rfl⟩
theorem d_X4_signAt_19 : At cX4_signAt 19 (.getfield 9) 3 22 := ⟨by decide +kernel, rfl⟩
theorem d_X4_signAt_22 : At cX4_signAt 22 (.iload_n 1) 1 23 := ⟨by decide +kernel, rfl⟩
theorem d_X4_signAt_23 : At cX4_signAt 23 (.iaload) 1 24 := ⟨by decide +kernel, rfl⟩
theorem d_X4_signAt_24 : Br cX4_signAt 24 (.goto 4) (4) 27 28 := ⟨by decide +kernel, rfl, rfl⟩
theorem d_X4_signAt_27 : At cX4_signAt 27 (.iconst 0) 1 28 := ⟨by decide +kernel, rfl⟩
theorem d_X4_signAt_28 : Go cX4_signAt 28 (.ireturn) 1 := (by decide +kernel : decode cX4_signAt 28 = .ok (.ireturn, 1))
theorem d_X5_init_0 : At cX5_init 0 (.aload_n 0) 1 1 := ⟨by decide +kernel, rfl⟩
theorem d_X5_init_1 : At cX5_init 1 (.invokespecial 3) 3 4 := ⟨by decide +kernel, rfl⟩
theorem d_X5_init_4 : At cX5_init 4 (.aload_n 0) 1 5 := ⟨by decide +kernel, rfl⟩
theorem d_X5_init_5 : At cX5_init 5 (.bipush 10) 2 7 := ⟨by decide +kernel, rfl⟩
theorem d_X5_init_7 : At cX5_init 7 (.newarray .int) 2 9 := ⟨by decide +kernel, rfl⟩
theorem d_X5_init_9 : At cX5_init 9 (.putfield 9) 3 12 := ⟨by decide +kernel, rfl⟩
theorem d_X5_init_12 : Go cX5_init 12 (.return_) 1 := (by decide +kernel : decode cX5_init 12 = .ok (.return_, 1))
theorem d_X5_firstFault_0 : At cX5_firstFault 0 (.aload_n 0) 1 1 := ⟨by decide +kernel, rfl⟩
theorem d_X5_firstFault_1 : At cX5_firstFault 1 (.iconst 0) 1 2 := ⟨by decide +kernel, rfl⟩
theorem d_X5_firstFault_2 : At cX5_firstFault 2 (.putfield 15) 3 5 := ⟨by decide +kernel, rfl⟩
theorem d_X5_firstFault_5 : At cX5_firstFault 5 (.aload_n 0) 1 6 := ⟨by decide +kernel, rfl⟩
theorem d_X5_firstFault_6 : At cX5_firstFault 6 (.getfield 9) 3 9 := ⟨by decide +kernel, rfl⟩
theorem d_X5_firstFault_9 : At cX5_firstFault 9 (.iconst 0) 1 10 := ⟨by decide +kernel, rfl⟩
theorem d_X5_firstFault_10 : At cX5_firstFault 10 (.iconst 1) 1 11 := ⟨by decide +kernel, rfl⟩
theorem d_X5_firstFault_11 : At cX5_firstFault 11 (.iastore) 1 12 := ⟨by decide +kernel, rfl⟩
theorem d_X5_firstFault_12 : At cX5_firstFault 12 (.iconst 0) 1 13 := ⟨by decide +kernel, rfl⟩
theorem d_X5_firstFault_13 : At cX5_firstFault 13 (.istore_n 3) 1 14 := ⟨by decide +kernel, rfl⟩
theorem d_X5_firstFault_14 : At cX5_firstFault 14 (.iload_n 3) 1 15 := ⟨by decide +kernel, rfl⟩
theorem d_X5_firstFault_15 : At cX5_firstFault 15 (.aload_n 1) 1 16 := ⟨by decide +kernel, rfl⟩
theorem d_X5_firstFault_16 : At cX5_firstFault 16 (.invokevirtual 19) 3 19 := ⟨by decide +kernel, rfl⟩
theorem d_X5_firstFault_19 : Br cX5_firstFault 19 (.if_icmp .ge 37) (37) 22 56 := ⟨by decide +kernel, rfl, rfl⟩
theorem d_X5_firstFault_22 : At cX5_firstFault 22 (.aload_n 1) 1 23 := ⟨by decide +kernel, rfl⟩
theorem d_X5_firstFault_23 : At cX5_firstFault 23 (.iload_n 3) 1 24 := ⟨by decide +kernel, rfl⟩
theorem d_X5_firstFault_24 : At cX5_firstFault 24 (.invokevirtual 25) 3 27 := ⟨by decide +kernel, rfl⟩
theorem d_X5_firstFault_27 : At cX5_firstFault 27 (.istore 4) 2 29 := ⟨by decide +kernel, rfl⟩
theorem d_X5_firstFault_29 : At cX5_firstFault 29 (.aload_n 0) 1 30 := ⟨by decide +kernel, rfl⟩
theorem d_X5_firstFault_30 : At cX5_firstFault 30 (.iload 4) 2 32 := ⟨by decide +kernel, rfl⟩
theorem d_X5_firstFault_32 : At cX5_firstFault 32 (.iload_n 2) 1 33 := ⟨by decide +kernel, rfl⟩
theorem d_X5_firstFault_33 : At cX5_firstFault 33 (.invokevirtual 29) 3 36 := ⟨by decide +kernel, rfl⟩
theorem d_X5_firstFault_36 : Br cX5_firstFault 36 (.ifCond .ne 5) (5) 39 41 := ⟨by decide +kernel, rfl, rfl⟩
theorem d_X5_firstFault_39 : At cX5_firstFault 39 (.iload_n 3) 1 40 := ⟨by decide +kernel, rfl⟩
theorem d_X5_firstFault_40 : Go cX5_firstFault 40 (.ireturn) 1 := (by decide +kernel : decode cX5_firstFault 40 = .ok (.ireturn, 1))
theorem d_X5_firstFault_41 : At cX5_firstFault 41 (.aload_n 0) 1 42 := ⟨by decide +kernel, rfl⟩
theorem d_X5_firstFault_42 : At cX5_firstFault 42 (.iload 4) 2 44 := ⟨by decide +kernel, rfl⟩
theorem d_X5_firstFault_44 : At cX5_firstFault 44 (.invokestatic 33) 3 47 := ⟨by decide +kernel, rfl⟩
theorem d_X5_firstFault_47 : At cX5_firstFault 47 (.invokevirtual 38) 3 50 := ⟨by decide +kernel, rfl⟩
theorem d_X5_firstFault_50 : At cX5_firstFault 50 (.iinc 3 1) 3 53 := ⟨by decide +kernel, rfl⟩
theorem d_X5_firstFault_53 : Br cX5_firstFault 53 (.goto (-39)) (-39) 56 14 := ⟨by decide +kernel, rfl, rfl⟩
theorem d_X5_firstFault_56 : At cX5_firstFault 56 (.aload_n 0) 1 57 := ⟨by decide +kernel, rfl⟩
theorem d_X5_firstFault_57 : At cX5_firstFault 57 (.getfield 15) 3 60 := ⟨by decide +kernel, rfl⟩
theorem d_X5_firstFault_60 : Br cX5_firstFault 60 (.ifCond .ge 8) (8) 63 68 := ⟨by decide +kernel, rfl, rfl⟩
theorem d_X5_firstFault_63 : At cX5_firstFault 63 (.bipush (-6)) 2 65 := ⟨by decide +kernel, rfl⟩
theorem d_X5_firstFault_65 : Br cX5_firstFault 65 (.goto 7) (7) 68 72 := ⟨by decide +kernel, rfl, rfl⟩
theorem d_X5_firstFault_68 : At cX5_firstFault 68 (.aload_n 1) 1 69 := ⟨by decide +kernel, rfl⟩
theorem d_X5_firstFault_69 : At cX5_firstFault 69 (.invokevirtual 19) 3 72 := ⟨by decide +kernel, rfl⟩
theorem d_X5_firstFault_72 : Go cX5_firstFault 72 (.ireturn) 1 := (by decide +kernel : decode cX5_firstFault 72 = .ok (.ireturn, 1))
theorem d_X5_canStand_0 : At cX5_canStand 0 (.aload_n 0) 1 1 := ⟨by decide +kernel, rfl⟩
theorem d_X5_canStand_1 : At cX5_canStand 1 (.getfield 15) 3 4 := ⟨by decide +kernel, rfl⟩
theorem d_X5_canStand_4 : Br cX5_canStand 4 (.ifCond .lt 10) (10) 7 14 := ⟨by decide +kernel, rfl, rfl⟩
theorem d_X5_canStand_7 : At cX5_canStand 7 (.iload_n 1) 1 8 := ⟨by decide +kernel, rfl⟩
theorem d_X5_canStand_8 : At cX5_canStand 8 (.invokestatic 42) 3 11 := ⟨by decide +kernel, rfl⟩
theorem d_X5_canStand_11 : Br cX5_canStand 11 (.ifCond .ne 5) (5) 14 16 := ⟨by decide +kernel, rfl, rfl⟩
theorem d_X5_canStand_14 : At cX5_canStand 14 (.iconst 0) 1 15 := ⟨by decide +kernel, rfl⟩
theorem d_X5_canStand_15 : Go cX5_canStand 15 (.ireturn) 1 := (by decide +kernel : decode cX5_canStand 15 = .ok (.ireturn, 1))
theorem d_X5_canStand_16 : At cX5_canStand 16 (.iload_n 1) 1 17 := ⟨by decide +kernel, rfl⟩
theorem d_X5_canStand_17 : At cX5_canStand 17 (.invokestatic 42) 3 20 := ⟨by decide +kernel, rfl⟩
theorem d_X5_canStand_20 : At cX5_canStand 20 (.iconst 3) 1 21 := ⟨by decide +kernel, rfl⟩
theorem d_X5_canStand_21 : Br cX5_canStand 21 (.if_icmp .ne 12) (12) 24 33 := ⟨by decide +kernel, rfl, rfl⟩
theorem d_X5_canStand_24 : At cX5_canStand 24 (.iload_n 2) 1 25 := ⟨by decide +kernel, rfl⟩
theorem d_X5_canStand_25 : At cX5_canStand 25 (.iload_n 1) 1 26 := ⟨by decide +kernel, rfl⟩
theorem d_X5_canStand_26 : At cX5_canStand 26 (.invokestatic 45) 3 29 := ⟨by decide +kernel, rfl⟩
theorem d_X5_canStand_29 : At cX5_canStand 29 (.invokestatic 48) 3 32 := ⟨by decide +kernel, rfl⟩
theorem d_X5_canStand_32 : Go cX5_canStand 32 (.ireturn) 1 := (by decide +kernel : decode cX5_canStand 32 = .ok (.ireturn, 1))
theorem d_X5_canStand_33 : At cX5_canStand 33 (.aload_n 0) 1 34 := ⟨by decide +kernel, rfl⟩
theorem d_X5_canStand_34 : At cX5_canStand 34 (.getfield 15) 3 37 := ⟨by decide +kernel, rfl⟩
theorem d_X5_canStand_37 : At cX5_canStand 37 (.bipush 9) 2 39 := ⟨by decide +kernel, rfl⟩
theorem d_X5_canStand_39 : Br cX5_canStand 39 (.if_icmp .lt 10) (10) 42 49 := ⟨by decide +kernel, rfl, rfl⟩
theorem d_X5_canStand_42 : At cX5_canStand 42 (.iload_n 1) 1 43 := ⟨by decide +kernel, rfl⟩
theorem d_X5_canStand_43 : At cX5_canStand 43 (.invokestatic 33) 3 46 := ⟨by decide +kernel, rfl⟩
theorem d_X5_canStand_46 : Br cX5_canStand 46 (.ifCond .ne 7) (7) 49 53 := ⟨by decide +kernel, rfl, rfl⟩
theorem d_X5_canStand_49 : At cX5_canStand 49 (.iconst 1) 1 50 := ⟨by decide +kernel, rfl⟩
theorem d_X5_canStand_50 : Br cX5_canStand 50 (.goto 4) (4) 53 54 := ⟨by decide +kernel, rfl, rfl⟩
theorem d_X5_canStand_53 : At cX5_canStand 53 (.iconst 0) 1 54 := ⟨by decide +kernel, rfl⟩
theorem d_X5_canStand_54 : Go cX5_canStand 54 (.ireturn) 1 := (by decide +kernel : decode cX5_canStand 54 = .ok (.ireturn, 1))
theorem d_X5_pass_0 : At cX5_pass 0 (.aload_n 0) 1 1 := ⟨by decide +kernel, rfl⟩
theorem d_X5_pass_1 : At cX5_pass 1 (.getfield 15) 3 4 := ⟨by decide +kernel, rfl⟩
theorem d_X5_pass_4 : Br cX5_pass 4 (.ifCond .lt 25) (25) 7 29 := ⟨by decide +kernel, rfl, rfl⟩
theorem d_X5_pass_7 : At cX5_pass 7 (.aload_n 0) 1 8 := ⟨by decide +kernel, rfl⟩
theorem d_X5_pass_8 : At cX5_pass 8 (.getfield 15) 3 11 := ⟨by decide +kernel, rfl⟩
theorem d_X5_pass_11 : At cX5_pass 11 (.bipush 9) 2 13 := ⟨by decide +kernel, rfl⟩
theorem d_X5_pass_13 : Br cX5_pass 13 (.if_icmp .gt 16) (16) 16 29 := ⟨by decide +kernel, rfl, rfl⟩
theorem d_X5_pass_16 : At cX5_pass 16 (.aload_n 0) 1 17 := ⟨by decide +kernel, rfl⟩
theorem d_X5_pass_17 : At cX5_pass 17 (.getfield 9) 3 20 := ⟨by decide +kernel, rfl⟩
theorem d_X5_pass_20 : At cX5_pass 20 (.aload_n 0) 1 21 := ⟨by decide +kernel, rfl⟩
theorem d_X5_pass_21 : At cX5_pass 21 (.getfield 15) 3 24 := ⟨by decide +kernel, rfl⟩
theorem d_X5_pass_24 : At cX5_pass 24 (.dup2) 1 25 := ⟨by decide +kernel, rfl⟩
theorem d_X5_pass_25 : At cX5_pass 25 (.iaload) 1 26 := ⟨by decide +kernel, rfl⟩
theorem d_X5_pass_26 : At cX5_pass 26 (.iconst 1) 1 27 := ⟨by decide +kernel, rfl⟩
theorem d_X5_pass_27 : At cX5_pass 27 (.isub) 1 28 := ⟨by decide +kernel, rfl⟩
theorem d_X5_pass_28 : At cX5_pass 28 (.iastore) 1 29 := ⟨by decide +kernel, rfl⟩
theorem d_X5_pass_29 : At cX5_pass 29 (.iload_n 1) 1 30 := ⟨by decide +kernel, rfl⟩
theorem d_X5_pass_30 : Br cX5_pass 30 (.ifCond .le 39) (39) 33 69 := ⟨by decide +kernel, rfl, rfl⟩
theorem d_X5_pass_33 : At cX5_pass 33 (.aload_n 0) 1 34 := ⟨by decide +kernel, rfl⟩
theorem d_X5_pass_34 : At cX5_pass 34 (.getfield 15) 3 37 := ⟨by decide +kernel, rfl⟩
theorem d_X5_pass_37 : Br cX5_pass 37 (.ifCond .lt 32) (32) 40 69 := ⟨by decide +kernel, rfl, rfl⟩
theorem d_X5_pass_40 : At cX5_pass 40 (.aload_n 0) 1 41 := ⟨by decide +kernel, rfl⟩
theorem d_X5_pass_41 : At cX5_pass 41 (.getfield 15) 3 44 := ⟨by decide +kernel, rfl⟩
theorem d_X5_pass_44 : At cX5_pass 44 (.bipush 9) 2 46 := ⟨by decide +kernel, rfl⟩
theorem d_X5_pass_46 : Br cX5_pass 46 (.if_icmp .ge 23) (23) 49 69 := ⟨by decide +kernel, rfl, rfl⟩
theorem d_X5_pass_49 : At cX5_pass 49 (.aload_n 0) 1 50 := ⟨by decide +kernel, rfl⟩
theorem d_X5_pass_50 : At cX5_pass 50 (.dup) 1 51 := ⟨by decide +kernel, rfl⟩
theorem d_X5_pass_51 : At cX5_pass 51 (.getfield 15) 3 54 := ⟨by decide +kernel, rfl⟩
theorem d_X5_pass_54 : At cX5_pass 54 (.iconst 1) 1 55 := ⟨by decide +kernel, rfl⟩
theorem d_X5_pass_55 : At cX5_pass 55 (.iadd) 1 56 := ⟨by decide +kernel, rfl⟩
theorem d_X5_pass_56 : At cX5_pass 56 (.putfield 15) 3 59 := ⟨by decide +kernel, rfl⟩
theorem d_X5_pass_59 : At cX5_pass 59 (.aload_n 0) 1 60 := ⟨by decide +kernel, rfl⟩
theorem d_X5_pass_60 : At cX5_pass 60 (.getfield 9) 3 63 := ⟨by decide +kernel, rfl⟩
theorem d_X5_pass_63 : At cX5_pass 63 (.aload_n 0) 1 64 := ⟨by decide +kernel, rfl⟩
theorem d_X5_pass_64 : At cX5_pass 64 (.getfield 15) 3 67 := ⟨by decide +kernel, rfl⟩
theorem d_X5_pass_67 : At cX5_pass 67 (.iload_n 1) 1 68 := ⟨by decide +kernel, rfl⟩
theorem d_X5_pass_68 : At cX5_pass 68 (.iastore) 1 69 := ⟨by decide +kernel, rfl⟩
theorem d_X5_pass_69 : At cX5_pass 69 (.aload_n 0) 1 70 := ⟨by decide +kernel, rfl⟩
theorem d_X5_pass_70 : At cX5_pass 70 (.getfield 15) 3 73 := ⟨by decide +kernel, rfl⟩
theorem d_X5_pass_73 : Br cX5_pass 73 (.ifCond .lt 37) (37) 76 110 := ⟨by decide +kernel, rfl, rfl⟩
theorem d_X5_pass_76 : At cX5_pass 76 (.aload_n 0) 1 77 := ⟨by decide +kernel, rfl⟩
theorem d_X5_pass_77 : At cX5_pass 77 (.getfield 15) 3 80 := ⟨by decide +kernel, rfl⟩
theorem d_X5_pass_80 : At cX5_pass 80 (.bipush 9) 2 82 := ⟨by decide +kernel, rfl⟩
theorem d_X5_pass_82 : Br cX5_pass 82 (.if_icmp .gt 28) (28) 85 110 := ⟨by decide +kernel, rfl, rfl⟩
theorem d_X5_pass_85 : At cX5_pass 85 (.aload_n 0) 1 86 := ⟨by decide +kernel, rfl⟩
theorem d_X5_pass_86 : At cX5_pass 86 (.getfield 9) 3 89 := ⟨by decide +kernel, rfl⟩
theorem d_X5_pass_89 : At cX5_pass 89 (.aload_n 0) 1 90 := ⟨by decide +kernel, rfl⟩
theorem d_X5_pass_90 : At cX5_pass 90 (.getfield 15) 3 93 := ⟨by decide +kernel, rfl⟩
theorem d_X5_pass_93 : At cX5_pass 93 (.iaload) 1 94 := ⟨by decide +kernel, rfl⟩
theorem d_X5_pass_94 : Br cX5_pass 94 (.ifCond .ne 16) (16) 97 110 := ⟨by decide +kernel, rfl, rfl⟩
theorem d_X5_pass_97 : At cX5_pass 97 (.aload_n 0) 1 98 := ⟨by decide +kernel, rfl⟩
theorem d_X5_pass_98 : At cX5_pass 98 (.dup) 1 99 := ⟨by decide +kernel, rfl⟩
theorem d_X5_pass_99 : At cX5_pass 99 (.getfield 15) 3 102 := ⟨by decide +kernel, rfl⟩
theorem d_X5_pass_102 : At cX5_pass 102 (.iconst 1) 1 103 := ⟨by decide +kernel, rfl⟩
theorem d_X5_pass_103 : At cX5_pass 103 (.isub) 1 104 := ⟨by decide +kernel, rfl⟩
theorem d_X5_pass_104 : At cX5_pass 104 (.putfield 15) 3 107 := ⟨by decide +kernel, rfl⟩
theorem d_X5_pass_107 : Br cX5_pass 107 (.goto (-38)) (-38) 110 69 := ⟨by decide +kernel, rfl, rfl⟩
theorem d_X5_pass_110 : Go cX5_pass 110 (.return_) 1 := (by decide +kernel : decode cX5_pass 110 = .ok (.return_, 1))
theorem d_X6_kindOf_0 : At cX6_kindOf 0 (.iload_n 0) 1 1 := ⟨by decide +kernel, rfl⟩
theorem d_X6_kindOf_1 : At cX6_kindOf 1 (.bipush 48) 2 3 := ⟨by decide +kernel, rfl⟩
theorem d_X6_kindOf_3 : Br cX6_kindOf 3 (.if_icmp .lt 11) (11) 6 14 := ⟨by decide +kernel, rfl, rfl⟩
theorem d_X6_kindOf_6 : At cX6_kindOf 6 (.iload_n 0) 1 7 := ⟨by decide +kernel, rfl⟩
theorem d_X6_kindOf_7 : At cX6_kindOf 7 (.bipush 55) 2 9 := ⟨by decide +kernel, rfl⟩
theorem d_X6_kindOf_9 : Br cX6_kindOf 9 (.if_icmp .gt 5) (5) 12 14 := ⟨by decide +kernel, rfl, rfl⟩
theorem d_X6_kindOf_12 : At cX6_kindOf 12 (.iconst 1) 1 13 := ⟨by decide +kernel, rfl⟩
theorem d_X6_kindOf_13 : Go cX6_kindOf 13 (.ireturn) 1 := (by decide +kernel : decode cX6_kindOf 13 = .ok (.ireturn, 1))
theorem d_X6_kindOf_14 : At cX6_kindOf 14 (.iload_n 0) 1 15 := ⟨by decide +kernel, rfl⟩
theorem d_X6_kindOf_15 : At cX6_kindOf 15 (.bipush 120) 2 17 := ⟨by decide +kernel, rfl⟩
theorem d_X6_kindOf_17 : Br cX6_kindOf 17 (.if_icmp .lt 11) (11) 20 28 := ⟨by decide +kernel, rfl, rfl⟩
theorem d_X6_kindOf_20 : At cX6_kindOf 20 (.iload_n 0) 1 21 := ⟨by decide +kernel, rfl⟩
theorem d_X6_kindOf_21 : At cX6_kindOf 21 (.bipush 122) 2 23 := ⟨by decide +kernel, rfl⟩
theorem d_X6_kindOf_23 : Br cX6_kindOf 23 (.if_icmp .gt 5) (5) 26 28 := ⟨by decide +kernel, rfl, rfl⟩
theorem d_X6_kindOf_26 : At cX6_kindOf 26 (.iconst 3) 1 27 := ⟨by decide +kernel, rfl⟩
theorem d_X6_kindOf_27 : Go cX6_kindOf 27 (.ireturn) 1 := (by decide +kernel : decode cX6_kindOf 27 = .ok (.ireturn, 1))
theorem d_X6_kindOf_28 : At cX6_kindOf 28 (.iload_n 0) 1 29 := ⟨by decide +kernel, rfl⟩
theorem d_X6_kindOf_29 : Go cX6_kindOf 29 (.lookupswitch 100 #[(33, 91), (42, 93), (43, 93), (45, 93), (63, 95), (102, 97), (103, 97), (104, 97), (107, 97), (109, 93)]) 91 := (by decide +kernel : decode cX6_kindOf 29 = .ok (.lookupswitch 100 #[(33, 91), (42, 93), (43, 93), (45, 93), (63, 95), (102, 97), (103, 97), (104, 97), (107, 97), (109, 93)], 91))
theorem d_X6_kindOf_120 : At cX6_kindOf 120 (.iconst 2) 1 121 := ⟨by decide +kernel, rfl⟩
theorem d_X6_kindOf_121 : Go cX6_kindOf 121 (.ireturn) 1 := (by decide +kernel : decode cX6_kindOf 121 = .ok (.ireturn, 1))
theorem d_X6_kindOf_122 : At cX6_kindOf 122 (.iconst 4) 1 123 := ⟨by decide +kernel, rfl⟩
theorem d_X6_kindOf_123 : Go cX6_kindOf 123 (.ireturn) 1 := (by decide +kernel : decode cX6_kindOf 123 = .ok (.ireturn, 1))
theorem d_X6_kindOf_124 : At cX6_kindOf 124 (.iconst 5) 1 125 := ⟨by decide +kernel, rfl⟩
theorem d_X6_kindOf_125 : Go cX6_kindOf 125 (.ireturn) 1 := (by decide +kernel : decode cX6_kindOf 125 = .ok (.ireturn, 1))
theorem d_X6_kindOf_126 : At cX6_kindOf 126 (.bipush 6) 2 128 := ⟨by decide +kernel, rfl⟩
theorem d_X6_kindOf_128 : Go cX6_kindOf 128 (.ireturn) 1 := (by decide +kernel : decode cX6_kindOf 128 = .ok (.ireturn, 1))
theorem d_X6_kindOf_129 : At cX6_kindOf 129 (.iconst 0) 1 130 := ⟨by decide +kernel, rfl⟩
theorem d_X6_kindOf_130 : Go cX6_kindOf 130 (.ireturn) 1 := (by decide +kernel : decode cX6_kindOf 130 = .ok (.ireturn, 1))
theorem d_X6_worthOf_0 : At cX6_worthOf 0 (.iload_n 0) 1 1 := ⟨by decide +kernel, rfl⟩
theorem d_X6_worthOf_1 : At cX6_worthOf 1 (.invokestatic 9) 3 4 := ⟨by decide +kernel, rfl⟩
theorem d_X6_worthOf_4 : Go cX6_worthOf 4 (.lookupswitch 61 #[(1, 36), (3, 41), (6, 46)]) 36 := (by decide +kernel : decode cX6_worthOf 4 = .ok (.lookupswitch 61 #[(1, 36), (3, 41), (6, 46)], 36))
theorem d_X6_worthOf_40 : At cX6_worthOf 40 (.iload_n 0) 1 41 := ⟨by decide +kernel, rfl⟩
theorem d_X6_worthOf_41 : At cX6_worthOf 41 (.bipush 48) 2 43 := ⟨by decide +kernel, rfl⟩
theorem d_X6_worthOf_43 : At cX6_worthOf 43 (.isub) 1 44 := ⟨by decide +kernel, rfl⟩
theorem d_X6_worthOf_44 : Go cX6_worthOf 44 (.ireturn) 1 := (by decide +kernel : decode cX6_worthOf 44 = .ok (.ireturn, 1))
theorem d_X6_worthOf_45 : At cX6_worthOf 45 (.iload_n 0) 1 46 := ⟨by decide +kernel, rfl⟩
theorem d_X6_worthOf_46 : At cX6_worthOf 46 (.bipush 120) 2 48 := ⟨by decide +kernel, rfl⟩
theorem d_X6_worthOf_48 : At cX6_worthOf 48 (.isub) 1 49 := ⟨by decide +kernel, rfl⟩
theorem d_X6_worthOf_49 : Go cX6_worthOf 49 (.ireturn) 1 := (by decide +kernel : decode cX6_worthOf 49 = .ok (.ireturn, 1))
theorem d_X6_worthOf_50 : At cX6_worthOf 50 (.iload_n 0) 1 51 := ⟨by decide +kernel, rfl⟩
theorem d_X6_worthOf_51 : At cX6_worthOf 51 (.bipush 107) 2 53 := ⟨by decide +kernel, rfl⟩
theorem d_X6_worthOf_53 : Br cX6_worthOf 53 (.if_icmp .ne 7) (7) 56 60 := ⟨by decide +kernel, rfl, rfl⟩
theorem d_X6_worthOf_56 : At cX6_worthOf 56 (.iconst 3) 1 57 := ⟨by decide +kernel, rfl⟩
theorem d_X6_worthOf_57 : Br cX6_worthOf 57 (.goto 7) (7) 60 64 := ⟨by decide +kernel, rfl, rfl⟩
theorem d_X6_worthOf_60 : At cX6_worthOf 60 (.iload_n 0) 1 61 := ⟨by decide +kernel, rfl⟩
theorem d_X6_worthOf_61 : At cX6_worthOf 61 (.bipush 102) 2 63 := ⟨by decide +kernel, rfl⟩
theorem d_X6_worthOf_63 : At cX6_worthOf 63 (.isub) 1 64 := ⟨by decide +kernel, rfl⟩
theorem d_X6_worthOf_64 : Go cX6_worthOf 64 (.ireturn) 1 := (by decide +kernel : decode cX6_worthOf 64 = .ok (.ireturn, 1))
theorem d_X6_worthOf_65 : At cX6_worthOf 65 (.iload_n 0) 1 66 := ⟨by decide +kernel, rfl⟩
theorem d_X6_worthOf_66 : Go cX6_worthOf 66 (.ireturn) 1 := (by decide +kernel : decode cX6_worthOf 66 = .ok (.ireturn, 1))
theorem d_X6_textsOf_0 : At cX6_textsOf 0 (.iload_n 0) 1 1 := ⟨by decide +kernel, rfl⟩
theorem d_X6_textsOf_1 : At cX6_textsOf 1 (.invokestatic 9) 3 4 := ⟨by decide +kernel, rfl⟩
theorem d_X6_textsOf_4 : Go cX6_textsOf 4 (.tableswitch 40 4 6 #[28, 30, 32]) 28 := (by decide +kernel : decode cX6_textsOf 4 = .ok (.tableswitch 40 4 6 #[28, 30, 32], 28))
theorem d_X6_textsOf_32 : At cX6_textsOf 32 (.iconst 2) 1 33 := ⟨by decide +kernel, rfl⟩
theorem d_X6_textsOf_33 : Go cX6_textsOf 33 (.ireturn) 1 := (by decide +kernel : decode cX6_textsOf 33 = .ok (.ireturn, 1))
theorem d_X6_textsOf_34 : At cX6_textsOf 34 (.iconst 3) 1 35 := ⟨by decide +kernel, rfl⟩
theorem d_X6_textsOf_35 : Go cX6_textsOf 35 (.ireturn) 1 := (by decide +kernel : decode cX6_textsOf 35 = .ok (.ireturn, 1))
theorem d_X6_textsOf_36 : At cX6_textsOf 36 (.iload_n 0) 1 37 := ⟨by decide +kernel, rfl⟩
theorem d_X6_textsOf_37 : At cX6_textsOf 37 (.invokestatic 13) 3 40 := ⟨by decide +kernel, rfl⟩
theorem d_X6_textsOf_40 : At cX6_textsOf 40 (.invokestatic 16) 3 43 := ⟨by decide +kernel, rfl⟩
theorem d_X6_textsOf_43 : Go cX6_textsOf 43 (.ireturn) 1 := (by decide +kernel : decode cX6_textsOf 43 = .ok (.ireturn, 1))
theorem d_X6_textsOf_44 : At cX6_textsOf 44 (.iconst 0) 1 45 := ⟨by decide +kernel, rfl⟩
theorem d_X6_textsOf_45 : Go cX6_textsOf 45 (.ireturn) 1 := (by decide +kernel : decode cX6_textsOf 45 = .ok (.ireturn, 1))
theorem d_X7_init_0 : At cX7_init 0 (.aload_n 0) 1 1 := ⟨by decide +kernel, rfl⟩
theorem d_X7_init_1 : At cX7_init 1 (.invokespecial 5) 3 4 := ⟨by decide +kernel, rfl⟩
theorem d_X7_init_4 : At cX7_init 4 (.aload_n 0) 1 5 := ⟨by decide +kernel, rfl⟩
theorem d_X7_init_5 : At cX7_init 5 (.bipush 120) 2 7 := ⟨by decide +kernel, rfl⟩
theorem d_X7_init_7 : At cX7_init 7 (.newarray .int) 2 9 := ⟨by decide +kernel, rfl⟩
theorem d_X7_init_9 : At cX7_init 9 (.putfield 11) 3 12 := ⟨by decide +kernel, rfl⟩
theorem d_X7_init_12 : At cX7_init 12 (.aload_n 0) 1 13 := ⟨by decide +kernel, rfl⟩
theorem d_X7_init_13 : At cX7_init 13 (.iconst 4) 1 14 := ⟨by decide +kernel, rfl⟩
theorem d_X7_init_14 : At cX7_init 14 (.newarray .int) 2 16 := ⟨by decide +kernel, rfl⟩
theorem d_X7_init_16 : At cX7_init 16 (.putfield 15) 3 19 := ⟨by decide +kernel, rfl⟩
theorem d_X7_init_19 : At cX7_init 19 (.aload_n 0) 1 20 := ⟨by decide +kernel, rfl⟩
theorem d_X7_init_20 : At cX7_init 20 (.iconst 4) 1 21 := ⟨by decide +kernel, rfl⟩
theorem d_X7_init_21 : At cX7_init 21 (.newarray .int) 2 23 := ⟨by decide +kernel, rfl⟩
theorem d_X7_init_23 : At cX7_init 23 (.putfield 18) 3 26 := ⟨by decide +kernel, rfl⟩
theorem d_X7_init_26 : At cX7_init 26 (.aload_n 0) 1 27 := ⟨by decide +kernel, rfl⟩
theorem d_X7_init_27 : At cX7_init 27 (.aload_n 1) 1 28 := ⟨by decide +kernel, rfl⟩
theorem d_X7_init_28 : At cX7_init 28 (.putfield 21) 3 31 := ⟨by decide +kernel, rfl⟩
theorem d_X7_init_31 : Go cX7_init 31 (.return_) 1 := (by decide +kernel : decode cX7_init 31 = .ok (.return_, 1))
theorem d_X7_renew_0 : At cX7_renew 0 (.aload_n 0) 1 1 := ⟨by decide +kernel, rfl⟩
theorem d_X7_renew_1 : At cX7_renew 1 (.getfield 15) 3 4 := ⟨by decide +kernel, rfl⟩
theorem d_X7_renew_4 : At cX7_renew 4 (.iconst 0) 1 5 := ⟨by decide +kernel, rfl⟩
theorem d_X7_renew_5 : At cX7_renew 5 (.invokestatic 25) 3 8 := ⟨by decide +kernel, rfl⟩
theorem d_X7_renew_8 : At cX7_renew 8 (.iconst 1) 1 9 := ⟨by decide +kernel, rfl⟩
theorem d_X7_renew_9 : At cX7_renew 9 (.istore_n 1) 1 10 := ⟨by decide +kernel, rfl⟩
theorem d_X7_renew_10 : At cX7_renew 10 (.iconst 0) 1 11 := ⟨by decide +kernel, rfl⟩
theorem d_X7_renew_11 : At cX7_renew 11 (.istore_n 2) 1 12 := ⟨by decide +kernel, rfl⟩
theorem d_X7_renew_12 : At cX7_renew 12 (.iload_n 1) 1 13 := ⟨by decide +kernel, rfl⟩
theorem d_X7_renew_13 : Br cX7_renew 13 (.ifCond .eq 24) (24) 16 37 := ⟨by decide +kernel, rfl, rfl⟩
theorem d_X7_renew_16 : At cX7_renew 16 (.iload_n 2) 1 17 := ⟨by decide +kernel, rfl⟩
theorem d_X7_renew_17 : At cX7_renew 17 (.bipush 33) 2 19 := ⟨by decide +kernel, rfl⟩
theorem d_X7_renew_19 : Br cX7_renew 19 (.if_icmp .ge 18) (18) 22 37 := ⟨by decide +kernel, rfl, rfl⟩
theorem d_X7_renew_22 : At cX7_renew 22 (.aload_n 0) 1 23 := ⟨by decide +kernel, rfl⟩
theorem d_X7_renew_23 : At cX7_renew 23 (.invokevirtual 31) 3 26 := ⟨by decide +kernel, rfl⟩
theorem d_X7_renew_26 : At cX7_renew 26 (.aload_n 0) 1 27 := ⟨by decide +kernel, rfl⟩
theorem d_X7_renew_27 : At cX7_renew 27 (.invokevirtual 34) 3 30 := ⟨by decide +kernel, rfl⟩
theorem d_X7_renew_30 : At cX7_renew 30 (.istore_n 1) 1 31 := ⟨by decide +kernel, rfl⟩
theorem d_X7_renew_31 : At cX7_renew 31 (.iinc 2 1) 3 34 := ⟨by decide +kernel, rfl⟩
theorem d_X7_renew_34 : Br cX7_renew 34 (.goto (-22)) (-22) 37 12 := ⟨by decide +kernel, rfl, rfl⟩
theorem d_X7_renew_37 : At cX7_renew 37 (.iconst 0) 1 38 := ⟨by decide +kernel, rfl⟩
theorem d_X7_renew_38 : At cX7_renew 38 (.istore_n 2) 1 39 := ⟨by decide +kernel, rfl⟩
theorem d_X7_renew_39 : At cX7_renew 39 (.iload_n 2) 1 40 := ⟨by decide +kernel, rfl⟩
theorem d_X7_renew_40 : At cX7_renew 40 (.iconst 4) 1 41 := ⟨by decide +kernel, rfl⟩
theorem d_X7_renew_41 : Br cX7_renew 41 (.if_icmp .ge 28) (28) 44 69 := ⟨by decide +kernel, rfl, rfl⟩
theorem d_X7_renew_44 : At cX7_renew 44 (.aload_n 0) 1 45 := ⟨by decide +kernel, rfl⟩
theorem d_X7_renew_45 : At cX7_renew 45 (.getfield 18) 3 48 := ⟨by decide +kernel, rfl⟩
theorem d_X7_renew_48 : At cX7_renew 48 (.iload_n 2) 1 49 := ⟨by decide +kernel, rfl⟩
theorem d_X7_renew_49 : At cX7_renew 49 (.aload_n 0) 1 50 := ⟨by decide +kernel, rfl⟩
theorem d_X7_renew_50 : At cX7_renew 50 (.aload_n 0) 1 51 := ⟨by decide +kernel, rfl⟩
theorem d_X7_renew_51 : At cX7_renew 51 (.getfield 21) 3 54 := ⟨by decide +kernel, rfl⟩
theorem d_X7_renew_54 : At cX7_renew 54 (.iload_n 2) 1 55 := ⟨by decide +kernel, rfl⟩
theorem d_X7_renew_55 : At cX7_renew 55 (.invokevirtual 38) 3 58 := ⟨by decide +kernel, rfl⟩
theorem d_X7_renew_58 : At cX7_renew 58 (.iload_n 2) 1 59 := ⟨by decide +kernel, rfl⟩
theorem d_X7_renew_59 : At cX7_renew 59 (.invokevirtual 44) 3 62 := ⟨by decide +kernel, rfl⟩
theorem d_X7_renew_62 : At cX7_renew 62 (.iastore) 1 63 := ⟨by decide +kernel, rfl⟩
theorem d_X7_renew_63 : At cX7_renew 63 (.iinc 2 1) 3 66 := ⟨by decide +kernel, rfl⟩
theorem d_X7_renew_66 : Br cX7_renew 66 (.goto (-27)) (-27) 69 39 := ⟨by decide +kernel, rfl, rfl⟩
theorem d_X7_renew_69 : Go cX7_renew 69 (.return_) 1 := (by decide +kernel : decode cX7_renew 69 = .ok (.return_, 1))
theorem d_X7_fillRows_0 : At cX7_fillRows 0 (.iconst 0) 1 1 := ⟨by decide +kernel, rfl⟩
theorem d_X7_fillRows_1 : At cX7_fillRows 1 (.istore_n 1) 1 2 := ⟨by decide +kernel, rfl⟩
theorem d_X7_fillRows_2 : At cX7_fillRows 2 (.iload_n 1) 1 3 := ⟨by decide +kernel, rfl⟩
theorem d_X7_fillRows_3 : At cX7_fillRows 3 (.iconst 4) 1 4 := ⟨by decide +kernel, rfl⟩
theorem d_X7_fillRows_4 : Br cX7_fillRows 4 (.if_icmp .ge 52) (52) 7 56 := ⟨by decide +kernel, rfl, rfl⟩
theorem d_X7_fillRows_7 : At cX7_fillRows 7 (.aload_n 0) 1 8 := ⟨by decide +kernel, rfl⟩
theorem d_X7_fillRows_8 : At cX7_fillRows 8 (.getfield 21) 3 11 := ⟨by decide +kernel, rfl⟩
theorem d_X7_fillRows_11 : At cX7_fillRows 11 (.iload_n 1) 1 12 := ⟨by decide +kernel, rfl⟩
theorem d_X7_fillRows_12 : At cX7_fillRows 12 (.invokevirtual 38) 3 15 := ⟨by decide +kernel, rfl⟩
theorem d_X7_fillRows_15 : At cX7_fillRows 15 (.istore_n 2) 1 16 := ⟨by decide +kernel, rfl⟩
theorem d_X7_fillRows_16 : At cX7_fillRows 16 (.iload_n 2) 1 17 := ⟨by decide +kernel, rfl⟩
theorem d_X7_fillRows_17 : At cX7_fillRows 17 (.aload_n 0) 1 18 := ⟨by decide +kernel, rfl⟩
theorem d_X7_fillRows_18 : At cX7_fillRows 18 (.getfield 21) 3 21 := ⟨by decide +kernel, rfl⟩
theorem d_X7_fillRows_21 : At cX7_fillRows 21 (.iload_n 1) 1 22 := ⟨by decide +kernel, rfl⟩
theorem d_X7_fillRows_22 : At cX7_fillRows 22 (.invokevirtual 48) 3 25 := ⟨by decide +kernel, rfl⟩
theorem d_X7_fillRows_25 : At cX7_fillRows 25 (.iadd) 1 26 := ⟨by decide +kernel, rfl⟩
theorem d_X7_fillRows_26 : At cX7_fillRows 26 (.iconst 1) 1 27 := ⟨by decide +kernel, rfl⟩
theorem d_X7_fillRows_27 : At cX7_fillRows 27 (.isub) 1 28 := ⟨by decide +kernel, rfl⟩
theorem d_X7_fillRows_28 : At cX7_fillRows 28 (.istore_n 3) 1 29 := ⟨by decide +kernel, rfl⟩
theorem d_X7_fillRows_29 : At cX7_fillRows 29 (.iload_n 3) 1 30 := ⟨by decide +kernel, rfl⟩
theorem d_X7_fillRows_30 : At cX7_fillRows 30 (.iload_n 2) 1 31 := ⟨by decide +kernel, rfl⟩
theorem d_X7_fillRows_31 : Br cX7_fillRows 31 (.if_icmp .lt 19) (19) 34 50 := ⟨by decide +kernel, rfl, rfl⟩
theorem d_X7_fillRows_34 : At cX7_fillRows 34 (.aload_n 0) 1 35 := ⟨by decide +kernel, rfl⟩
theorem d_X7_fillRows_35 : At cX7_fillRows 35 (.iload_n 3) 1 36 := ⟨by decide +kernel, rfl⟩
theorem d_X7_fillRows_36 : At cX7_fillRows 36 (.aload_n 0) 1 37 := ⟨by decide +kernel, rfl⟩
theorem d_X7_fillRows_37 : At cX7_fillRows 37 (.iload_n 3) 1 38 := ⟨by decide +kernel, rfl⟩
theorem d_X7_fillRows_38 : At cX7_fillRows 38 (.invokevirtual 51) 3 41 := ⟨by decide +kernel, rfl⟩
theorem d_X7_fillRows_41 : At cX7_fillRows 41 (.invokevirtual 54) 3 44 := ⟨by decide +kernel, rfl⟩
theorem d_X7_fillRows_44 : At cX7_fillRows 44 (.iinc 3 (-1)) 3 47 := ⟨by decide +kernel, rfl⟩
theorem d_X7_fillRows_47 : Br cX7_fillRows 47 (.goto (-18)) (-18) 50 29 := ⟨by decide +kernel, rfl, rfl⟩
theorem d_X7_fillRows_50 : At cX7_fillRows 50 (.iinc 1 1) 3 53 := ⟨by decide +kernel, rfl⟩
theorem d_X7_fillRows_53 : Br cX7_fillRows 53 (.goto (-51)) (-51) 56 2 := ⟨by decide +kernel, rfl, rfl⟩
theorem d_X7_fillRows_56 : Go cX7_fillRows 56 (.return_) 1 := (by decide +kernel : decode cX7_fillRows 56 = .ok (.return_, 1))
theorem d_X7_takeRoots_0 : At cX7_takeRoots 0 (.iconst 0) 1 1 := ⟨by decide +kernel, rfl⟩
theorem d_X7_takeRoots_1 : At cX7_takeRoots 1 (.istore_n 1) 1 2 := ⟨by decide +kernel, rfl⟩
theorem d_X7_takeRoots_2 : At cX7_takeRoots 2 (.iconst 0) 1 3 := ⟨by decide +kernel, rfl⟩
theorem d_X7_takeRoots_3 : At cX7_takeRoots 3 (.istore_n 2) 1 4 := ⟨by decide +kernel, rfl⟩
theorem d_X7_takeRoots_4 : At cX7_takeRoots 4 (.iload_n 2) 1 5 := ⟨by decide +kernel, rfl⟩
theorem d_X7_takeRoots_5 : At cX7_takeRoots 5 (.iconst 4) 1 6 := ⟨by decide +kernel, rfl⟩
theorem d_X7_takeRoots_6 : Br cX7_takeRoots 6 (.if_icmp .ge 49) (49) 9 55 := ⟨by decide +kernel, rfl, rfl⟩
theorem d_X7_takeRoots_9 : At cX7_takeRoots 9 (.aload_n 0) 1 10 := ⟨by decide +kernel, rfl⟩
theorem d_X7_takeRoots_10 : At cX7_takeRoots 10 (.aload_n 0) 1 11 := ⟨by decide +kernel, rfl⟩
theorem d_X7_takeRoots_11 : At cX7_takeRoots 11 (.getfield 21) 3 14 := ⟨by decide +kernel, rfl⟩
theorem d_X7_takeRoots_14 : At cX7_takeRoots 14 (.iload_n 2) 1 15 := ⟨by decide +kernel, rfl⟩
theorem d_X7_takeRoots_15 : At cX7_takeRoots 15 (.invokevirtual 38) 3 18 := ⟨by decide +kernel, rfl⟩
theorem d_X7_takeRoots_18 : At cX7_takeRoots 18 (.invokevirtual 58) 3 21 := ⟨by decide +kernel, rfl⟩
theorem d_X7_takeRoots_21 : At cX7_takeRoots 21 (.istore_n 3) 1 22 := ⟨by decide +kernel, rfl⟩
theorem d_X7_takeRoots_22 : At cX7_takeRoots 22 (.iload_n 1) 1 23 := ⟨by decide +kernel, rfl⟩
theorem d_X7_takeRoots_23 : Br cX7_takeRoots 23 (.ifCond .ne 13) (13) 26 36 := ⟨by decide +kernel, rfl, rfl⟩
theorem d_X7_takeRoots_26 : At cX7_takeRoots 26 (.iload_n 3) 1 27 := ⟨by decide +kernel, rfl⟩
theorem d_X7_takeRoots_27 : At cX7_takeRoots 27 (.aload_n 0) 1 28 := ⟨by decide +kernel, rfl⟩
theorem d_X7_takeRoots_28 : At cX7_takeRoots 28 (.getfield 15) 3 31 := ⟨by decide +kernel, rfl⟩
theorem d_X7_takeRoots_31 : At cX7_takeRoots 31 (.iload_n 2) 1 32 := ⟨by decide +kernel, rfl⟩
theorem d_X7_takeRoots_32 : At cX7_takeRoots 32 (.iaload) 1 33 := ⟨by decide +kernel, rfl⟩
theorem d_X7_takeRoots_33 : Br cX7_takeRoots 33 (.if_icmp .eq 7) (7) 36 40 := ⟨by decide +kernel, rfl, rfl⟩
theorem d_X7_takeRoots_36 : At cX7_takeRoots 36 (.iconst 1) 1 37 := ⟨by decide +kernel, rfl⟩
theorem d_X7_takeRoots_37 : Br cX7_takeRoots 37 (.goto 4) (4) 40 41 := ⟨by decide +kernel, rfl, rfl⟩
theorem d_X7_takeRoots_40 : At cX7_takeRoots 40 (.iconst 0) 1 41 := ⟨by decide +kernel, rfl⟩
theorem d_X7_takeRoots_41 : At cX7_takeRoots 41 (.istore_n 1) 1 42 := ⟨by decide +kernel, rfl⟩
theorem d_X7_takeRoots_42 : At cX7_takeRoots 42 (.aload_n 0) 1 43 := ⟨by decide +kernel, rfl⟩
theorem d_X7_takeRoots_43 : At cX7_takeRoots 43 (.getfield 15) 3 46 := ⟨by decide +kernel, rfl⟩
theorem d_X7_takeRoots_46 : At cX7_takeRoots 46 (.iload_n 2) 1 47 := ⟨by decide +kernel, rfl⟩
theorem d_X7_takeRoots_47 : At cX7_takeRoots 47 (.iload_n 3) 1 48 := ⟨by decide +kernel, rfl⟩
theorem d_X7_takeRoots_48 : At cX7_takeRoots 48 (.iastore) 1 49 := ⟨by decide +kernel, rfl⟩
theorem d_X7_takeRoots_49 : At cX7_takeRoots 49 (.iinc 2 1) 3 52 := ⟨by decide +kernel, rfl⟩
theorem d_X7_takeRoots_52 : Br cX7_takeRoots 52 (.goto (-48)) (-48) 55 4 := ⟨by decide +kernel, rfl, rfl⟩
theorem d_X7_takeRoots_55 : At cX7_takeRoots 55 (.iload_n 1) 1 56 := ⟨by decide +kernel, rfl⟩
theorem d_X7_takeRoots_56 : Go cX7_takeRoots 56 (.ireturn) 1 := (by decide +kernel : decode cX7_takeRoots 56 = .ok (.ireturn, 1))
theorem d_X7_rowOf_0 : At cX7_rowOf 0 (.aload_n 0) 1 1 := ⟨by decide +kernel, rfl⟩
theorem d_X7_rowOf_1 : At cX7_rowOf 1 (.getfield 21) 3 4 := ⟨by decide +kernel, rfl⟩
theorem d_X7_rowOf_4 : At cX7_rowOf 4 (.iload_n 1) 1 5 := ⟨by decide +kernel, rfl⟩
theorem d_X7_rowOf_5 : At cX7_rowOf 5 (.invokevirtual 61) 3 8 := ⟨by decide +kernel, rfl⟩
theorem d_X7_rowOf_8 : Go cX7_rowOf 8 (.tableswitch 105 1 6 #[40, 105, 44, 56, 70, 91]) 40 := (by decide +kernel : decode cX7_rowOf 8 = .ok (.tableswitch 105 1 6 #[40, 105, 44, 56, 70, 91], 40))
theorem d_X7_rowOf_48 : At cX7_rowOf 48 (.sipush 255) 3 51 := ⟨by decide +kernel, rfl⟩
theorem d_X7_rowOf_51 : Go cX7_rowOf 51 (.ireturn) 1 := (by decide +kernel : decode cX7_rowOf 51 = .ok (.ireturn, 1))
theorem d_X7_rowOf_52 : At cX7_rowOf 52 (.aload_n 0) 1 53 := ⟨by decide +kernel, rfl⟩
theorem d_X7_rowOf_53 : At cX7_rowOf 53 (.getfield 21) 3 56 := ⟨by decide +kernel, rfl⟩
theorem d_X7_rowOf_56 : At cX7_rowOf 56 (.iload_n 1) 1 57 := ⟨by decide +kernel, rfl⟩
theorem d_X7_rowOf_57 : At cX7_rowOf 57 (.invokevirtual 64) 3 60 := ⟨by decide +kernel, rfl⟩
theorem d_X7_rowOf_60 : At cX7_rowOf 60 (.invokestatic 67) 3 63 := ⟨by decide +kernel, rfl⟩
theorem d_X7_rowOf_63 : Go cX7_rowOf 63 (.ireturn) 1 := (by decide +kernel : decode cX7_rowOf 63 = .ok (.ireturn, 1))
theorem d_X7_rowOf_64 : At cX7_rowOf 64 (.aload_n 0) 1 65 := ⟨by decide +kernel, rfl⟩
theorem d_X7_rowOf_65 : At cX7_rowOf 65 (.iload_n 1) 1 66 := ⟨by decide +kernel, rfl⟩
theorem d_X7_rowOf_66 : At cX7_rowOf 66 (.iconst 0) 1 67 := ⟨by decide +kernel, rfl⟩
theorem d_X7_rowOf_67 : At cX7_rowOf 67 (.invokevirtual 70) 3 70 := ⟨by decide +kernel, rfl⟩
theorem d_X7_rowOf_70 : At cX7_rowOf 70 (.aload_n 0) 1 71 := ⟨by decide +kernel, rfl⟩
theorem d_X7_rowOf_71 : At cX7_rowOf 71 (.iload_n 1) 1 72 := ⟨by decide +kernel, rfl⟩
theorem d_X7_rowOf_72 : At cX7_rowOf 72 (.iconst 1) 1 73 := ⟨by decide +kernel, rfl⟩
theorem d_X7_rowOf_73 : At cX7_rowOf 73 (.invokevirtual 70) 3 76 := ⟨by decide +kernel, rfl⟩
theorem d_X7_rowOf_76 : At cX7_rowOf 76 (.iand) 1 77 := ⟨by decide +kernel, rfl⟩
theorem d_X7_rowOf_77 : Go cX7_rowOf 77 (.ireturn) 1 := (by decide +kernel : decode cX7_rowOf 77 = .ok (.ireturn, 1))
theorem d_X7_rowOf_78 : At cX7_rowOf 78 (.aload_n 0) 1 79 := ⟨by decide +kernel, rfl⟩
theorem d_X7_rowOf_79 : At cX7_rowOf 79 (.iload_n 1) 1 80 := ⟨by decide +kernel, rfl⟩
theorem d_X7_rowOf_80 : At cX7_rowOf 80 (.iconst 0) 1 81 := ⟨by decide +kernel, rfl⟩
theorem d_X7_rowOf_81 : At cX7_rowOf 81 (.invokevirtual 70) 3 84 := ⟨by decide +kernel, rfl⟩
theorem d_X7_rowOf_84 : At cX7_rowOf 84 (.aload_n 0) 1 85 := ⟨by decide +kernel, rfl⟩
theorem d_X7_rowOf_85 : At cX7_rowOf 85 (.iload_n 1) 1 86 := ⟨by decide +kernel, rfl⟩
theorem d_X7_rowOf_86 : At cX7_rowOf 86 (.iconst 1) 1 87 := ⟨by decide +kernel, rfl⟩
theorem d_X7_rowOf_87 : At cX7_rowOf 87 (.invokevirtual 70) 3 90 := ⟨by decide +kernel, rfl⟩
theorem d_X7_rowOf_90 : At cX7_rowOf 90 (.aload_n 0) 1 91 := ⟨by decide +kernel, rfl⟩
theorem d_X7_rowOf_91 : At cX7_rowOf 91 (.iload_n 1) 1 92 := ⟨by decide +kernel, rfl⟩
theorem d_X7_rowOf_92 : At cX7_rowOf 92 (.iconst 2) 1 93 := ⟨by decide +kernel, rfl⟩
theorem d_X7_rowOf_93 : At cX7_rowOf 93 (.invokevirtual 70) 3 96 := ⟨by decide +kernel, rfl⟩
theorem d_X7_rowOf_96 : At cX7_rowOf 96 (.ior) 1 97 := ⟨by decide +kernel, rfl⟩
theorem d_X7_rowOf_97 : At cX7_rowOf 97 (.iand) 1 98 := ⟨by decide +kernel, rfl⟩
theorem d_X7_rowOf_98 : Go cX7_rowOf 98 (.ireturn) 1 := (by decide +kernel : decode cX7_rowOf 98 = .ok (.ireturn, 1))
theorem d_X7_rowOf_99 : At cX7_rowOf 99 (.aload_n 0) 1 100 := ⟨by decide +kernel, rfl⟩
theorem d_X7_rowOf_100 : At cX7_rowOf 100 (.iload_n 1) 1 101 := ⟨by decide +kernel, rfl⟩
theorem d_X7_rowOf_101 : At cX7_rowOf 101 (.aload_n 0) 1 102 := ⟨by decide +kernel, rfl⟩
theorem d_X7_rowOf_102 : At cX7_rowOf 102 (.getfield 21) 3 105 := ⟨by decide +kernel, rfl⟩
theorem d_X7_rowOf_105 : At cX7_rowOf 105 (.iload_n 1) 1 106 := ⟨by decide +kernel, rfl⟩
theorem d_X7_rowOf_106 : At cX7_rowOf 106 (.invokevirtual 64) 3 109 := ⟨by decide +kernel, rfl⟩
theorem d_X7_rowOf_109 : At cX7_rowOf 109 (.invokevirtual 73) 3 112 := ⟨by decide +kernel, rfl⟩
theorem d_X7_rowOf_112 : Go cX7_rowOf 112 (.ireturn) 1 := (by decide +kernel : decode cX7_rowOf 112 = .ok (.ireturn, 1))
theorem d_X7_rowOf_113 : At cX7_rowOf 113 (.iconst 0) 1 114 := ⟨by decide +kernel, rfl⟩
theorem d_X7_rowOf_114 : Go cX7_rowOf 114 (.ireturn) 1 := (by decide +kernel : decode cX7_rowOf 114 = .ok (.ireturn, 1))
theorem d_X7_callRow_0 : At cX7_callRow 0 (.iconst 0) 1 1 := ⟨by decide +kernel, rfl⟩
theorem d_X7_callRow_1 : At cX7_callRow 1 (.istore_n 3) 1 2 := ⟨by decide +kernel, rfl⟩
theorem d_X7_callRow_2 : At cX7_callRow 2 (.iconst 0) 1 3 := ⟨by decide +kernel, rfl⟩
theorem d_X7_callRow_3 : At cX7_callRow 3 (.istore 4) 2 5 := ⟨by decide +kernel, rfl⟩
theorem d_X7_callRow_5 : At cX7_callRow 5 (.iload 4) 2 7 := ⟨by decide +kernel, rfl⟩
theorem d_X7_callRow_7 : At cX7_callRow 7 (.bipush 8) 2 9 := ⟨by decide +kernel, rfl⟩
theorem d_X7_callRow_9 : Br cX7_callRow 9 (.if_icmp .ge 67) (67) 12 76 := ⟨by decide +kernel, rfl, rfl⟩
theorem d_X7_callRow_12 : At cX7_callRow 12 (.iconst 0) 1 13 := ⟨by decide +kernel, rfl⟩
theorem d_X7_callRow_13 : At cX7_callRow 13 (.istore 5) 2 15 := ⟨by decide +kernel, rfl⟩
theorem d_X7_callRow_15 : At cX7_callRow 15 (.iconst 0) 1 16 := ⟨by decide +kernel, rfl⟩
theorem d_X7_callRow_16 : At cX7_callRow 16 (.istore 6) 2 18 := ⟨by decide +kernel, rfl⟩
theorem d_X7_callRow_18 : At cX7_callRow 18 (.iload 6) 2 20 := ⟨by decide +kernel, rfl⟩
theorem d_X7_callRow_20 : At cX7_callRow 20 (.iload_n 2) 1 21 := ⟨by decide +kernel, rfl⟩
theorem d_X7_callRow_21 : At cX7_callRow 21 (.invokestatic 76) 3 24 := ⟨by decide +kernel, rfl⟩
theorem d_X7_callRow_24 : Br cX7_callRow 24 (.if_icmp .ge 29) (29) 27 53 := ⟨by decide +kernel, rfl, rfl⟩
theorem d_X7_callRow_27 : At cX7_callRow 27 (.iload 5) 2 29 := ⟨by decide +kernel, rfl⟩
theorem d_X7_callRow_29 : At cX7_callRow 29 (.aload_n 0) 1 30 := ⟨by decide +kernel, rfl⟩
theorem d_X7_callRow_30 : At cX7_callRow 30 (.iload_n 1) 1 31 := ⟨by decide +kernel, rfl⟩
theorem d_X7_callRow_31 : At cX7_callRow 31 (.iload 6) 2 33 := ⟨by decide +kernel, rfl⟩
theorem d_X7_callRow_33 : At cX7_callRow 33 (.invokevirtual 70) 3 36 := ⟨by decide +kernel, rfl⟩
theorem d_X7_callRow_36 : At cX7_callRow 36 (.iload 4) 2 38 := ⟨by decide +kernel, rfl⟩
theorem d_X7_callRow_38 : At cX7_callRow 38 (.ishr) 1 39 := ⟨by decide +kernel, rfl⟩
theorem d_X7_callRow_39 : At cX7_callRow 39 (.iconst 1) 1 40 := ⟨by decide +kernel, rfl⟩
theorem d_X7_callRow_40 : At cX7_callRow 40 (.iand) 1 41 := ⟨by decide +kernel, rfl⟩
theorem d_X7_callRow_41 : At cX7_callRow 41 (.iload 6) 2 43 := ⟨by decide +kernel, rfl⟩
theorem d_X7_callRow_43 : At cX7_callRow 43 (.ishl) 1 44 := ⟨by decide +kernel, rfl⟩
theorem d_X7_callRow_44 : At cX7_callRow 44 (.ior) 1 45 := ⟨by decide +kernel, rfl⟩
theorem d_X7_callRow_45 : At cX7_callRow 45 (.istore 5) 2 47 := ⟨by decide +kernel, rfl⟩
theorem d_X7_callRow_47 : At cX7_callRow 47 (.iinc 6 1) 3 50 := ⟨by decide +kernel, rfl⟩
theorem d_X7_callRow_50 : Br cX7_callRow 50 (.goto (-32)) (-32) 53 18 := ⟨by decide +kernel, rfl, rfl⟩
theorem d_X7_callRow_53 : At cX7_callRow 53 (.aload_n 0) 1 54 := ⟨by decide +kernel, rfl⟩
theorem d_X7_callRow_54 : At cX7_callRow 54 (.iload_n 2) 1 55 := ⟨by decide +kernel, rfl⟩
theorem d_X7_callRow_55 : At cX7_callRow 55 (.iload 5) 2 57 := ⟨by decide +kernel, rfl⟩
theorem d_X7_callRow_57 : At cX7_callRow 57 (.invokevirtual 79) 3 60 := ⟨by decide +kernel, rfl⟩
theorem d_X7_callRow_60 : Br cX7_callRow 60 (.ifCond .eq 10) (10) 63 70 := ⟨by decide +kernel, rfl, rfl⟩
theorem d_X7_callRow_63 : At cX7_callRow 63 (.iload_n 3) 1 64 := ⟨by decide +kernel, rfl⟩
theorem d_X7_callRow_64 : At cX7_callRow 64 (.iconst 1) 1 65 := ⟨by decide +kernel, rfl⟩
theorem d_X7_callRow_65 : At cX7_callRow 65 (.iload 4) 2 67 := ⟨by decide +kernel, rfl⟩
theorem d_X7_callRow_67 : At cX7_callRow 67 (.ishl) 1 68 := ⟨by decide +kernel, rfl⟩
theorem d_X7_callRow_68 : At cX7_callRow 68 (.ior) 1 69 := ⟨by decide +kernel, rfl⟩
theorem d_X7_callRow_69 : At cX7_callRow 69 (.istore_n 3) 1 70 := ⟨by decide +kernel, rfl⟩
theorem d_X7_callRow_70 : At cX7_callRow 70 (.iinc 4 1) 3 73 := ⟨by decide +kernel, rfl⟩
theorem d_X7_callRow_73 : Br cX7_callRow 73 (.goto (-68)) (-68) 76 5 := ⟨by decide +kernel, rfl, rfl⟩
theorem d_X7_callRow_76 : At cX7_callRow 76 (.iload_n 3) 1 77 := ⟨by decide +kernel, rfl⟩
theorem d_X7_callRow_77 : Go cX7_callRow 77 (.ireturn) 1 := (by decide +kernel : decode cX7_callRow 77 = .ok (.ireturn, 1))
theorem d_X7_textRow_0 : At cX7_textRow 0 (.aload_n 0) 1 1 := ⟨by decide +kernel, rfl⟩
theorem d_X7_textRow_1 : At cX7_textRow 1 (.aload_n 0) 1 2 := ⟨by decide +kernel, rfl⟩
theorem d_X7_textRow_2 : At cX7_textRow 2 (.getfield 21) 3 5 := ⟨by decide +kernel, rfl⟩
theorem d_X7_textRow_5 : At cX7_textRow 5 (.iload_n 1) 1 6 := ⟨by decide +kernel, rfl⟩
theorem d_X7_textRow_6 : At cX7_textRow 6 (.iload_n 2) 1 7 := ⟨by decide +kernel, rfl⟩
theorem d_X7_textRow_7 : At cX7_textRow 7 (.invokevirtual 83) 3 10 := ⟨by decide +kernel, rfl⟩
theorem d_X7_textRow_10 : At cX7_textRow 10 (.invokevirtual 58) 3 13 := ⟨by decide +kernel, rfl⟩
theorem d_X7_textRow_13 : Go cX7_textRow 13 (.ireturn) 1 := (by decide +kernel : decode cX7_textRow 13 = .ok (.ireturn, 1))
theorem d_X7_rowAt_0 : At cX7_rowAt 0 (.iload_n 1) 1 1 := ⟨by decide +kernel, rfl⟩
theorem d_X7_rowAt_1 : At cX7_rowAt 1 (.invokestatic 86) 3 4 := ⟨by decide +kernel, rfl⟩
theorem d_X7_rowAt_4 : Br cX7_rowAt 4 (.ifCond .eq 12) (12) 7 16 := ⟨by decide +kernel, rfl, rfl⟩
theorem d_X7_rowAt_7 : At cX7_rowAt 7 (.aload_n 0) 1 8 := ⟨by decide +kernel, rfl⟩
theorem d_X7_rowAt_8 : At cX7_rowAt 8 (.getfield 11) 3 11 := ⟨by decide +kernel, rfl⟩
theorem d_X7_rowAt_11 : At cX7_rowAt 11 (.iload_n 1) 1 12 := ⟨by decide +kernel, rfl⟩
theorem d_X7_rowAt_12 : At cX7_rowAt 12 (.iaload) 1 13 := ⟨by decide +kernel, rfl⟩
theorem d_X7_rowAt_13 : Br cX7_rowAt 13 (.goto 4) (4) 16 17 := ⟨by decide +kernel, rfl, rfl⟩
theorem d_X7_rowAt_16 : At cX7_rowAt 16 (.iconst 0) 1 17 := ⟨by decide +kernel, rfl⟩
theorem d_X7_rowAt_17 : Go cX7_rowAt 17 (.ireturn) 1 := (by decide +kernel : decode cX7_rowAt 17 = .ok (.ireturn, 1))
theorem d_X7_setRow_0 : At cX7_setRow 0 (.iload_n 1) 1 1 := ⟨by decide +kernel, rfl⟩
theorem d_X7_setRow_1 : At cX7_setRow 1 (.invokestatic 86) 3 4 := ⟨by decide +kernel, rfl⟩
theorem d_X7_setRow_4 : Br cX7_setRow 4 (.ifCond .eq 10) (10) 7 14 := ⟨by decide +kernel, rfl, rfl⟩
theorem d_X7_setRow_7 : At cX7_setRow 7 (.aload_n 0) 1 8 := ⟨by decide +kernel, rfl⟩
theorem d_X7_setRow_8 : At cX7_setRow 8 (.getfield 11) 3 11 := ⟨by decide +kernel, rfl⟩
theorem d_X7_setRow_11 : At cX7_setRow 11 (.iload_n 1) 1 12 := ⟨by decide +kernel, rfl⟩
theorem d_X7_setRow_12 : At cX7_setRow 12 (.iload_n 2) 1 13 := ⟨by decide +kernel, rfl⟩
theorem d_X7_setRow_13 : At cX7_setRow 13 (.iastore) 1 14 := ⟨by decide +kernel, rfl⟩
theorem d_X7_setRow_14 : Go cX7_setRow 14 (.return_) 1 := (by decide +kernel : decode cX7_setRow 14 = .ok (.return_, 1))
theorem d_X7_setsWith_0 : At cX7_setsWith 0 (.iload_n 0) 1 1 := ⟨by decide +kernel, rfl⟩
theorem d_X7_setsWith_1 : Br cX7_setsWith 1 (.ifCond .lt 16) (16) 4 17 := ⟨by decide +kernel, rfl, rfl⟩
theorem d_X7_setsWith_4 : At cX7_setsWith 4 (.iload_n 0) 1 5 := ⟨by decide +kernel, rfl⟩
theorem d_X7_setsWith_5 : At cX7_setsWith 5 (.iconst 3) 1 6 := ⟨by decide +kernel, rfl⟩
theorem d_X7_setsWith_6 : Br cX7_setsWith 6 (.if_icmp .ge 11) (11) 9 17 := ⟨by decide +kernel, rfl, rfl⟩
theorem d_X7_setsWith_9 : At cX7_setsWith 9 (.getstatic 90) 3 12 := ⟨by decide +kernel, rfl⟩
theorem d_X7_setsWith_12 : At cX7_setsWith 12 (.iload_n 0) 1 13 := ⟨by decide +kernel, rfl⟩
theorem d_X7_setsWith_13 : At cX7_setsWith 13 (.iaload) 1 14 := ⟨by decide +kernel, rfl⟩
theorem d_X7_setsWith_14 : Br cX7_setsWith 14 (.goto 4) (4) 17 18 := ⟨by decide +kernel, rfl, rfl⟩
theorem d_X7_setsWith_17 : At cX7_setsWith 17 (.iconst 0) 1 18 := ⟨by decide +kernel, rfl⟩
theorem d_X7_setsWith_18 : Go cX7_setsWith 18 (.ireturn) 1 := (by decide +kernel : decode cX7_setsWith 18 = .ok (.ireturn, 1))
theorem d_X7_has_0 : At cX7_has 0 (.iload_n 1) 1 1 := ⟨by decide +kernel, rfl⟩
theorem d_X7_has_1 : At cX7_has 1 (.invokestatic 93) 3 4 := ⟨by decide +kernel, rfl⟩
theorem d_X7_has_4 : Br cX7_has 4 (.ifCond .eq 21) (21) 7 25 := ⟨by decide +kernel, rfl, rfl⟩
theorem d_X7_has_7 : At cX7_has 7 (.aload_n 0) 1 8 := ⟨by decide +kernel, rfl⟩
theorem d_X7_has_8 : At cX7_has 8 (.getfield 15) 3 11 := ⟨by decide +kernel, rfl⟩
theorem d_X7_has_11 : At cX7_has 11 (.iload_n 1) 1 12 := ⟨by decide +kernel, rfl⟩
theorem d_X7_has_12 : At cX7_has 12 (.iaload) 1 13 := ⟨by decide +kernel, rfl⟩
theorem d_X7_has_13 : At cX7_has 13 (.iload_n 2) 1 14 := ⟨by decide +kernel, rfl⟩
theorem d_X7_has_14 : At cX7_has 14 (.ishr) 1 15 := ⟨by decide +kernel, rfl⟩
theorem d_X7_has_15 : At cX7_has 15 (.iconst 1) 1 16 := ⟨by decide +kernel, rfl⟩
theorem d_X7_has_16 : At cX7_has 16 (.iand) 1 17 := ⟨by decide +kernel, rfl⟩
theorem d_X7_has_17 : At cX7_has 17 (.iconst 1) 1 18 := ⟨by decide +kernel, rfl⟩
theorem d_X7_has_18 : Br cX7_has 18 (.if_icmp .ne 7) (7) 21 25 := ⟨by decide +kernel, rfl, rfl⟩
theorem d_X7_has_21 : At cX7_has 21 (.iconst 1) 1 22 := ⟨by decide +kernel, rfl⟩
theorem d_X7_has_22 : Br cX7_has 22 (.goto 4) (4) 25 26 := ⟨by decide +kernel, rfl, rfl⟩
theorem d_X7_has_25 : At cX7_has 25 (.iconst 0) 1 26 := ⟨by decide +kernel, rfl⟩
theorem d_X7_has_26 : Go cX7_has 26 (.ireturn) 1 := (by decide +kernel : decode cX7_has 26 = .ok (.ireturn, 1))
theorem d_X7_hasAt_0 : At cX7_hasAt 0 (.aload_n 0) 1 1 := ⟨by decide +kernel, rfl⟩
theorem d_X7_hasAt_1 : At cX7_hasAt 1 (.iload_n 1) 1 2 := ⟨by decide +kernel, rfl⟩
theorem d_X7_hasAt_2 : At cX7_hasAt 2 (.invokevirtual 58) 3 5 := ⟨by decide +kernel, rfl⟩
theorem d_X7_hasAt_5 : At cX7_hasAt 5 (.iload_n 2) 1 6 := ⟨by decide +kernel, rfl⟩
theorem d_X7_hasAt_6 : At cX7_hasAt 6 (.ishr) 1 7 := ⟨by decide +kernel, rfl⟩
theorem d_X7_hasAt_7 : At cX7_hasAt 7 (.iconst 1) 1 8 := ⟨by decide +kernel, rfl⟩
theorem d_X7_hasAt_8 : At cX7_hasAt 8 (.iand) 1 9 := ⟨by decide +kernel, rfl⟩
theorem d_X7_hasAt_9 : At cX7_hasAt 9 (.iconst 1) 1 10 := ⟨by decide +kernel, rfl⟩
theorem d_X7_hasAt_10 : Br cX7_hasAt 10 (.if_icmp .ne 7) (7) 13 17 := ⟨by decide +kernel, rfl, rfl⟩
theorem d_X7_hasAt_13 : At cX7_hasAt 13 (.iconst 1) 1 14 := ⟨by decide +kernel, rfl⟩
theorem d_X7_hasAt_14 : Br cX7_hasAt 14 (.goto 4) (4) 17 18 := ⟨by decide +kernel, rfl, rfl⟩
theorem d_X7_hasAt_17 : At cX7_hasAt 17 (.iconst 0) 1 18 := ⟨by decide +kernel, rfl⟩
theorem d_X7_hasAt_18 : Go cX7_hasAt 18 (.ireturn) 1 := (by decide +kernel : decode cX7_hasAt 18 = .ok (.ireturn, 1))
theorem d_X7_neededOf_0 : At cX7_neededOf 0 (.iload_n 1) 1 1 := ⟨by decide +kernel, rfl⟩
theorem d_X7_neededOf_1 : At cX7_neededOf 1 (.invokestatic 93) 3 4 := ⟨by decide +kernel, rfl⟩
theorem d_X7_neededOf_4 : Br cX7_neededOf 4 (.ifCond .eq 12) (12) 7 16 := ⟨by decide +kernel, rfl, rfl⟩
theorem d_X7_neededOf_7 : At cX7_neededOf 7 (.aload_n 0) 1 8 := ⟨by decide +kernel, rfl⟩
theorem d_X7_neededOf_8 : At cX7_neededOf 8 (.getfield 18) 3 11 := ⟨by decide +kernel, rfl⟩
theorem d_X7_neededOf_11 : At cX7_neededOf 11 (.iload_n 1) 1 12 := ⟨by decide +kernel, rfl⟩
theorem d_X7_neededOf_12 : At cX7_neededOf 12 (.iaload) 1 13 := ⟨by decide +kernel, rfl⟩
theorem d_X7_neededOf_13 : Br cX7_neededOf 13 (.goto 4) (4) 16 17 := ⟨by decide +kernel, rfl, rfl⟩
theorem d_X7_neededOf_16 : At cX7_neededOf 16 (.iconst 0) 1 17 := ⟨by decide +kernel, rfl⟩
theorem d_X7_neededOf_17 : Go cX7_neededOf 17 (.ireturn) 1 := (by decide +kernel : decode cX7_neededOf 17 = .ok (.ireturn, 1))
theorem d_X7_neededAt_0 : At cX7_neededAt 0 (.iconst 0) 1 1 := ⟨by decide +kernel, rfl⟩
theorem d_X7_neededAt_1 : At cX7_neededAt 1 (.istore_n 3) 1 2 := ⟨by decide +kernel, rfl⟩
theorem d_X7_neededAt_2 : At cX7_neededAt 2 (.iconst 0) 1 3 := ⟨by decide +kernel, rfl⟩
theorem d_X7_neededAt_3 : At cX7_neededAt 3 (.istore 4) 2 5 := ⟨by decide +kernel, rfl⟩
theorem d_X7_neededAt_5 : At cX7_neededAt 5 (.iload 4) 2 7 := ⟨by decide +kernel, rfl⟩
theorem d_X7_neededAt_7 : At cX7_neededAt 7 (.iload_n 2) 1 8 := ⟨by decide +kernel, rfl⟩
theorem d_X7_neededAt_8 : At cX7_neededAt 8 (.invokestatic 76) 3 11 := ⟨by decide +kernel, rfl⟩
theorem d_X7_neededAt_11 : Br cX7_neededAt 11 (.if_icmp .ge 35) (35) 14 46 := ⟨by decide +kernel, rfl, rfl⟩
theorem d_X7_neededAt_14 : At cX7_neededAt 14 (.aload_n 0) 1 15 := ⟨by decide +kernel, rfl⟩
theorem d_X7_neededAt_15 : At cX7_neededAt 15 (.iload_n 1) 1 16 := ⟨by decide +kernel, rfl⟩
theorem d_X7_neededAt_16 : At cX7_neededAt 16 (.iload_n 2) 1 17 := ⟨by decide +kernel, rfl⟩
theorem d_X7_neededAt_17 : At cX7_neededAt 17 (.invokestatic 96) 3 20 := ⟨by decide +kernel, rfl⟩
theorem d_X7_neededAt_20 : At cX7_neededAt 20 (.iconst 1) 1 21 := ⟨by decide +kernel, rfl⟩
theorem d_X7_neededAt_21 : At cX7_neededAt 21 (.iload 4) 2 23 := ⟨by decide +kernel, rfl⟩
theorem d_X7_neededAt_23 : At cX7_neededAt 23 (.ishl) 1 24 := ⟨by decide +kernel, rfl⟩
theorem d_X7_neededAt_24 : At cX7_neededAt 24 (.iconst (-1)) 1 25 := ⟨by decide +kernel, rfl⟩
theorem d_X7_neededAt_25 : At cX7_neededAt 25 (.ixor) 1 26 := ⟨by decide +kernel, rfl⟩
theorem d_X7_neededAt_26 : At cX7_neededAt 26 (.iand) 1 27 := ⟨by decide +kernel, rfl⟩
theorem d_X7_neededAt_27 : At cX7_neededAt 27 (.invokevirtual 99) 3 30 := ⟨by decide +kernel, rfl⟩
theorem d_X7_neededAt_30 : Br cX7_neededAt 30 (.ifCond .ne 10) (10) 33 40 := ⟨by decide +kernel, rfl, rfl⟩
theorem d_X7_neededAt_33 : At cX7_neededAt 33 (.iload_n 3) 1 34 := ⟨by decide +kernel, rfl⟩
theorem d_X7_neededAt_34 : At cX7_neededAt 34 (.iconst 1) 1 35 := ⟨by decide +kernel, rfl⟩
theorem d_X7_neededAt_35 : At cX7_neededAt 35 (.iload 4) 2 37 := ⟨by decide +kernel, rfl⟩
theorem d_X7_neededAt_37 : At cX7_neededAt 37 (.ishl) 1 38 := ⟨by decide +kernel, rfl⟩
theorem d_X7_neededAt_38 : At cX7_neededAt 38 (.ior) 1 39 := ⟨by decide +kernel, rfl⟩
theorem d_X7_neededAt_39 : At cX7_neededAt 39 (.istore_n 3) 1 40 := ⟨by decide +kernel, rfl⟩
theorem d_X7_neededAt_40 : At cX7_neededAt 40 (.iinc 4 1) 3 43 := ⟨by decide +kernel, rfl⟩
theorem d_X7_neededAt_43 : Br cX7_neededAt 43 (.goto (-38)) (-38) 46 5 := ⟨by decide +kernel, rfl, rfl⟩
theorem d_X7_neededAt_46 : At cX7_neededAt 46 (.iload_n 3) 1 47 := ⟨by decide +kernel, rfl⟩
theorem d_X7_neededAt_47 : Go cX7_neededAt 47 (.ireturn) 1 := (by decide +kernel : decode cX7_neededAt 47 = .ok (.ireturn, 1))
theorem d_X7_isJoint_0 : At cX7_isJoint 0 (.aload_n 0) 1 1 := ⟨by decide +kernel, rfl⟩
theorem d_X7_isJoint_1 : At cX7_isJoint 1 (.iload_n 1) 1 2 := ⟨by decide +kernel, rfl⟩
theorem d_X7_isJoint_2 : At cX7_isJoint 2 (.iload_n 2) 1 3 := ⟨by decide +kernel, rfl⟩
theorem d_X7_isJoint_3 : At cX7_isJoint 3 (.invokevirtual 102) 3 6 := ⟨by decide +kernel, rfl⟩
theorem d_X7_isJoint_6 : Br cX7_isJoint 6 (.ifCond .ne 5) (5) 9 11 := ⟨by decide +kernel, rfl, rfl⟩
theorem d_X7_isJoint_9 : At cX7_isJoint 9 (.iconst 0) 1 10 := ⟨by decide +kernel, rfl⟩
theorem d_X7_isJoint_10 : Go cX7_isJoint 10 (.ireturn) 1 := (by decide +kernel : decode cX7_isJoint 10 = .ok (.ireturn, 1))
theorem d_X7_isJoint_11 : At cX7_isJoint 11 (.iconst 0) 1 12 := ⟨by decide +kernel, rfl⟩
theorem d_X7_isJoint_12 : At cX7_isJoint 12 (.istore_n 3) 1 13 := ⟨by decide +kernel, rfl⟩
theorem d_X7_isJoint_13 : At cX7_isJoint 13 (.iload_n 3) 1 14 := ⟨by decide +kernel, rfl⟩
theorem d_X7_isJoint_14 : At cX7_isJoint 14 (.iload_n 2) 1 15 := ⟨by decide +kernel, rfl⟩
theorem d_X7_isJoint_15 : Br cX7_isJoint 15 (.if_icmp .ge 28) (28) 18 43 := ⟨by decide +kernel, rfl, rfl⟩
theorem d_X7_isJoint_18 : At cX7_isJoint 18 (.iload_n 3) 1 19 := ⟨by decide +kernel, rfl⟩
theorem d_X7_isJoint_19 : At cX7_isJoint 19 (.iload_n 2) 1 20 := ⟨by decide +kernel, rfl⟩
theorem d_X7_isJoint_20 : At cX7_isJoint 20 (.iconst (-1)) 1 21 := ⟨by decide +kernel, rfl⟩
theorem d_X7_isJoint_21 : At cX7_isJoint 21 (.ixor) 1 22 := ⟨by decide +kernel, rfl⟩
theorem d_X7_isJoint_22 : At cX7_isJoint 22 (.iand) 1 23 := ⟨by decide +kernel, rfl⟩
theorem d_X7_isJoint_23 : Br cX7_isJoint 23 (.ifCond .ne 14) (14) 26 37 := ⟨by decide +kernel, rfl, rfl⟩
theorem d_X7_isJoint_26 : At cX7_isJoint 26 (.aload_n 0) 1 27 := ⟨by decide +kernel, rfl⟩
theorem d_X7_isJoint_27 : At cX7_isJoint 27 (.iload_n 1) 1 28 := ⟨by decide +kernel, rfl⟩
theorem d_X7_isJoint_28 : At cX7_isJoint 28 (.iload_n 3) 1 29 := ⟨by decide +kernel, rfl⟩
theorem d_X7_isJoint_29 : At cX7_isJoint 29 (.invokevirtual 102) 3 32 := ⟨by decide +kernel, rfl⟩
theorem d_X7_isJoint_32 : Br cX7_isJoint 32 (.ifCond .eq 5) (5) 35 37 := ⟨by decide +kernel, rfl, rfl⟩
theorem d_X7_isJoint_35 : At cX7_isJoint 35 (.iconst 0) 1 36 := ⟨by decide +kernel, rfl⟩
theorem d_X7_isJoint_36 : Go cX7_isJoint 36 (.ireturn) 1 := (by decide +kernel : decode cX7_isJoint 36 = .ok (.ireturn, 1))
theorem d_X7_isJoint_37 : At cX7_isJoint 37 (.iinc 3 1) 3 40 := ⟨by decide +kernel, rfl⟩
theorem d_X7_isJoint_40 : Br cX7_isJoint 40 (.goto (-27)) (-27) 43 13 := ⟨by decide +kernel, rfl, rfl⟩
theorem d_X7_isJoint_43 : At cX7_isJoint 43 (.iconst 1) 1 44 := ⟨by decide +kernel, rfl⟩
theorem d_X7_isJoint_44 : Go cX7_isJoint 44 (.ireturn) 1 := (by decide +kernel : decode cX7_isJoint 44 = .ok (.ireturn, 1))
theorem d_X7_stops_0 : At cX7_stops 0 (.aload_n 0) 1 1 := ⟨by decide +kernel, rfl⟩
theorem d_X7_stops_1 : At cX7_stops 1 (.iload_n 1) 1 2 := ⟨by decide +kernel, rfl⟩
theorem d_X7_stops_2 : At cX7_stops 2 (.iload_n 1) 1 3 := ⟨by decide +kernel, rfl⟩
theorem d_X7_stops_3 : At cX7_stops 3 (.invokestatic 96) 3 6 := ⟨by decide +kernel, rfl⟩
theorem d_X7_stops_6 : At cX7_stops 6 (.iload_n 2) 1 7 := ⟨by decide +kernel, rfl⟩
theorem d_X7_stops_7 : At cX7_stops 7 (.iconst (-1)) 1 8 := ⟨by decide +kernel, rfl⟩
theorem d_X7_stops_8 : At cX7_stops 8 (.ixor) 1 9 := ⟨by decide +kernel, rfl⟩
theorem d_X7_stops_9 : At cX7_stops 9 (.iand) 1 10 := ⟨by decide +kernel, rfl⟩
theorem d_X7_stops_10 : At cX7_stops 10 (.invokevirtual 79) 3 13 := ⟨by decide +kernel, rfl⟩
theorem d_X7_stops_13 : Br cX7_stops 13 (.ifCond .ne 7) (7) 16 20 := ⟨by decide +kernel, rfl, rfl⟩
theorem d_X7_stops_16 : At cX7_stops 16 (.iconst 1) 1 17 := ⟨by decide +kernel, rfl⟩
theorem d_X7_stops_17 : Br cX7_stops 17 (.goto 4) (4) 20 21 := ⟨by decide +kernel, rfl, rfl⟩
theorem d_X7_stops_20 : At cX7_stops 20 (.iconst 0) 1 21 := ⟨by decide +kernel, rfl⟩
theorem d_X7_stops_21 : Go cX7_stops 21 (.ireturn) 1 := (by decide +kernel : decode cX7_stops 21 = .ok (.ireturn, 1))
theorem d_X8_init_0 : At cX8_init 0 (.aload_n 0) 1 1 := ⟨by decide +kernel, rfl⟩
theorem d_X8_init_1 : At cX8_init 1 (.invokespecial 3) 3 4 := ⟨by decide +kernel, rfl⟩
theorem d_X8_init_4 : At cX8_init 4 (.aload_n 0) 1 5 := ⟨by decide +kernel, rfl⟩
theorem d_X8_init_5 : At cX8_init 5 (.new 9) 3 8 := ⟨by decide +kernel, rfl⟩
theorem d_X8_init_8 : At cX8_init 8 (.dup) 1 9 := ⟨by decide +kernel, rfl⟩
theorem d_X8_init_9 : At cX8_init 9 (.invokespecial 11) 3 12 := ⟨by decide +kernel, rfl⟩
theorem d_X8_init_12 : At cX8_init 12 (.putfield 12) 3 15 := ⟨by decide +kernel, rfl⟩
theorem d_X8_init_15 : At cX8_init 15 (.aload_n 0) 1 16 := ⟨by decide +kernel, rfl⟩
theorem d_X8_init_16 : At cX8_init 16 (.new 16) 3 19 := ⟨by decide +kernel, rfl⟩
theorem d_X8_init_19 : At cX8_init 19 (.dup) 1 20 := ⟨by decide +kernel, rfl⟩
theorem d_X8_init_20 : At cX8_init 20 (.invokespecial 18) 3 23 := ⟨by decide +kernel, rfl⟩
theorem d_X8_init_23 : At cX8_init 23 (.putfield 19) 3 26 := ⟨by decide +kernel, rfl⟩
theorem d_X8_init_26 : At cX8_init 26 (.aload_n 0) 1 27 := ⟨by decide +kernel, rfl⟩
theorem d_X8_init_27 : At cX8_init 27 (.new 23) 3 30 := ⟨by decide +kernel, rfl⟩
theorem d_X8_init_30 : At cX8_init 30 (.dup) 1 31 := ⟨by decide +kernel, rfl⟩
theorem d_X8_init_31 : At cX8_init 31 (.invokespecial 25) 3 34 := ⟨by decide +kernel, rfl⟩
theorem d_X8_init_34 : At cX8_init 34 (.putfield 26) 3 37 := ⟨by decide +kernel, rfl⟩
theorem d_X8_init_37 : At cX8_init 37 (.aload_n 0) 1 38 := ⟨by decide +kernel, rfl⟩
theorem d_X8_init_38 : At cX8_init 38 (.new 30) 3 41 := ⟨by decide +kernel, rfl⟩
theorem d_X8_init_41 : At cX8_init 41 (.dup) 1 42 := ⟨by decide +kernel, rfl⟩
theorem d_X8_init_42 : At cX8_init 42 (.aload_n 0) 1 43 := ⟨by decide +kernel, rfl⟩
theorem d_X8_init_43 : At cX8_init 43 (.getfield 26) 3 46 := ⟨by decide +kernel, rfl⟩
theorem d_X8_init_46 : At cX8_init 46 (.invokespecial 32) 3 49 := ⟨by decide +kernel, rfl⟩
theorem d_X8_init_49 : At cX8_init 49 (.putfield 35) 3 52 := ⟨by decide +kernel, rfl⟩
theorem d_X8_init_52 : At cX8_init 52 (.aload_n 0) 1 53 := ⟨by decide +kernel, rfl⟩
theorem d_X8_init_53 : At cX8_init 53 (.new 39) 3 56 := ⟨by decide +kernel, rfl⟩
theorem d_X8_init_56 : At cX8_init 56 (.dup) 1 57 := ⟨by decide +kernel, rfl⟩
theorem d_X8_init_57 : At cX8_init 57 (.aload_n 0) 1 58 := ⟨by decide +kernel, rfl⟩
theorem d_X8_init_58 : At cX8_init 58 (.getfield 26) 3 61 := ⟨by decide +kernel, rfl⟩
theorem d_X8_init_61 : At cX8_init 61 (.invokespecial 41) 3 64 := ⟨by decide +kernel, rfl⟩
theorem d_X8_init_64 : At cX8_init 64 (.putfield 42) 3 67 := ⟨by decide +kernel, rfl⟩
theorem d_X8_init_67 : At cX8_init 67 (.aload_n 0) 1 68 := ⟨by decide +kernel, rfl⟩
theorem d_X8_init_68 : At cX8_init 68 (.new 46) 3 71 := ⟨by decide +kernel, rfl⟩
theorem d_X8_init_71 : At cX8_init 71 (.dup) 1 72 := ⟨by decide +kernel, rfl⟩
theorem d_X8_init_72 : At cX8_init 72 (.new 48) 3 75 := ⟨by decide +kernel, rfl⟩
theorem d_X8_init_75 : At cX8_init 75 (.dup) 1 76 := ⟨by decide +kernel, rfl⟩
theorem d_X8_init_76 : At cX8_init 76 (.aload_n 0) 1 77 := ⟨by decide +kernel, rfl⟩
theorem d_X8_init_77 : At cX8_init 77 (.getfield 26) 3 80 := ⟨by decide +kernel, rfl⟩
theorem d_X8_init_80 : At cX8_init 80 (.aload_n 0) 1 81 := ⟨by decide +kernel, rfl⟩
theorem d_X8_init_81 : At cX8_init 81 (.getfield 35) 3 84 := ⟨by decide +kernel, rfl⟩
theorem d_X8_init_84 : At cX8_init 84 (.invokespecial 50) 3 87 := ⟨by decide +kernel, rfl⟩
theorem d_X8_init_87 : At cX8_init 87 (.invokespecial 53) 3 90 := ⟨by decide +kernel, rfl⟩
theorem d_X8_init_90 : At cX8_init 90 (.putfield 56) 3 93 := ⟨by decide +kernel, rfl⟩
theorem d_X8_init_93 : At cX8_init 93 (.aload_n 0) 1 94 := ⟨by decide +kernel, rfl⟩
theorem d_X8_init_94 : At cX8_init 94 (.getfield 35) 3 97 := ⟨by decide +kernel, rfl⟩
theorem d_X8_init_97 : At cX8_init 97 (.invokevirtual 60) 3 100 := ⟨by decide +kernel, rfl⟩
theorem d_X8_init_100 : At cX8_init 100 (.aload_n 0) 1 101 := ⟨by decide +kernel, rfl⟩
theorem d_X8_init_101 : At cX8_init 101 (.getfield 42) 3 104 := ⟨by decide +kernel, rfl⟩
theorem d_X8_init_104 : At cX8_init 104 (.invokevirtual 63) 3 107 := ⟨by decide +kernel, rfl⟩
theorem d_X8_init_107 : Go cX8_init 107 (.return_) 1 := (by decide +kernel : decode cX8_init 107 = .ok (.return_, 1))
theorem d_X8_say_0 : At cX8_say 0 (.iload_n 1) 1 1 := ⟨by decide +kernel, rfl⟩
theorem d_X8_say_1 : At cX8_say 1 (.bipush 33) 2 3 := ⟨by decide +kernel, rfl⟩
theorem d_X8_say_3 : Br cX8_say 3 (.if_icmp .lt 9) (9) 6 12 := ⟨by decide +kernel, rfl, rfl⟩
theorem d_X8_say_6 : At cX8_say 6 (.iload_n 1) 1 7 := ⟨by decide +kernel, rfl⟩
theorem d_X8_say_7 : At cX8_say 7 (.bipush 126) 2 9 := ⟨by decide +kernel, rfl⟩
theorem d_X8_say_9 : Br cX8_say 9 (.if_icmp .le 6) (6) 12 15 := ⟨by decide +kernel, rfl, rfl⟩
theorem d_X8_say_12 : At cX8_say 12 (.bipush (-2)) 2 14 := ⟨by decide +kernel, rfl⟩
theorem d_X8_say_14 : Go cX8_say 14 (.ireturn) 1 := (by decide +kernel : decode cX8_say 14 = .ok (.ireturn, 1))
theorem d_X8_say_15 : At cX8_say 15 (.aload_n 0) 1 16 := ⟨by decide +kernel, rfl⟩
theorem d_X8_say_16 : At cX8_say 16 (.getfield 12) 3 19 := ⟨by decide +kernel, rfl⟩
theorem d_X8_say_19 : At cX8_say 19 (.iload_n 1) 1 20 := ⟨by decide +kernel, rfl⟩
theorem d_X8_say_20 : At cX8_say 20 (.invokevirtual 64) 3 23 := ⟨by decide +kernel, rfl⟩
theorem d_X8_say_23 : Br cX8_say 23 (.ifCond .eq 13) (13) 26 36 := ⟨by decide +kernel, rfl, rfl⟩
theorem d_X8_say_26 : At cX8_say 26 (.aload_n 0) 1 27 := ⟨by decide +kernel, rfl⟩
theorem d_X8_say_27 : At cX8_say 27 (.getfield 12) 3 30 := ⟨by decide +kernel, rfl⟩
theorem d_X8_say_30 : At cX8_say 30 (.invokevirtual 68) 3 33 := ⟨by decide +kernel, rfl⟩
theorem d_X8_say_33 : Br cX8_say 33 (.goto 5) (5) 36 38 := ⟨by decide +kernel, rfl, rfl⟩
theorem d_X8_say_36 : At cX8_say 36 (.bipush (-4)) 2 38 := ⟨by decide +kernel, rfl⟩
theorem d_X8_say_38 : Go cX8_say 38 (.ireturn) 1 := (by decide +kernel : decode cX8_say 38 = .ok (.ireturn, 1))
theorem d_X8_wipe_0 : At cX8_wipe 0 (.aload_n 0) 1 1 := ⟨by decide +kernel, rfl⟩
theorem d_X8_wipe_1 : At cX8_wipe 1 (.getfield 12) 3 4 := ⟨by decide +kernel, rfl⟩
theorem d_X8_wipe_4 : At cX8_wipe 4 (.invokevirtual 68) 3 7 := ⟨by decide +kernel, rfl⟩
theorem d_X8_wipe_7 : At cX8_wipe 7 (.istore_n 1) 1 8 := ⟨by decide +kernel, rfl⟩
theorem d_X8_wipe_8 : At cX8_wipe 8 (.aload_n 0) 1 9 := ⟨by decide +kernel, rfl⟩
theorem d_X8_wipe_9 : At cX8_wipe 9 (.getfield 12) 3 12 := ⟨by decide +kernel, rfl⟩
theorem d_X8_wipe_12 : At cX8_wipe 12 (.invokevirtual 72) 3 15 := ⟨by decide +kernel, rfl⟩
theorem d_X8_wipe_15 : At cX8_wipe 15 (.iload_n 1) 1 16 := ⟨by decide +kernel, rfl⟩
theorem d_X8_wipe_16 : Go cX8_wipe 16 (.ireturn) 1 := (by decide +kernel : decode cX8_wipe 16 = .ok (.ireturn, 1))
theorem d_X8_fault_0 : At cX8_fault 0 (.iload_n 1) 1 1 := ⟨by decide +kernel, rfl⟩
theorem d_X8_fault_1 : At cX8_fault 1 (.invokestatic 75) 3 4 := ⟨by decide +kernel, rfl⟩
theorem d_X8_fault_4 : Br cX8_fault 4 (.ifCond .eq 18) (18) 7 22 := ⟨by decide +kernel, rfl, rfl⟩
theorem d_X8_fault_7 : At cX8_fault 7 (.aload_n 0) 1 8 := ⟨by decide +kernel, rfl⟩
theorem d_X8_fault_8 : At cX8_fault 8 (.getfield 19) 3 11 := ⟨by decide +kernel, rfl⟩
theorem d_X8_fault_11 : At cX8_fault 11 (.aload_n 0) 1 12 := ⟨by decide +kernel, rfl⟩
theorem d_X8_fault_12 : At cX8_fault 12 (.getfield 12) 3 15 := ⟨by decide +kernel, rfl⟩
theorem d_X8_fault_15 : At cX8_fault 15 (.iload_n 1) 1 16 := ⟨by decide +kernel, rfl⟩
theorem d_X8_fault_16 : At cX8_fault 16 (.invokevirtual 78) 3 19 := ⟨by decide +kernel, rfl⟩
theorem d_X8_fault_19 : Br cX8_fault 19 (.goto 4) (4) 22 23 := ⟨by decide +kernel, rfl, rfl⟩
theorem d_X8_fault_22 : At cX8_fault 22 (.iconst (-1)) 1 23 := ⟨by decide +kernel, rfl⟩
theorem d_X8_fault_23 : Go cX8_fault 23 (.ireturn) 1 := (by decide +kernel : decode cX8_fault 23 = .ok (.ireturn, 1))
theorem d_X8_body_0 : At cX8_body 0 (.iload_n 1) 1 1 := ⟨by decide +kernel, rfl⟩
theorem d_X8_body_1 : At cX8_body 1 (.invokestatic 75) 3 4 := ⟨by decide +kernel, rfl⟩
theorem d_X8_body_4 : Br cX8_body 4 (.ifCond .ne 5) (5) 7 9 := ⟨by decide +kernel, rfl, rfl⟩
theorem d_X8_body_7 : At cX8_body 7 (.iconst (-1)) 1 8 := ⟨by decide +kernel, rfl⟩
theorem d_X8_body_8 : Go cX8_body 8 (.ireturn) 1 := (by decide +kernel : decode cX8_body 8 = .ok (.ireturn, 1))
theorem d_X8_body_9 : At cX8_body 9 (.aload_n 0) 1 10 := ⟨by decide +kernel, rfl⟩
theorem d_X8_body_10 : At cX8_body 10 (.getfield 19) 3 13 := ⟨by decide +kernel, rfl⟩
theorem d_X8_body_13 : At cX8_body 13 (.aload_n 0) 1 14 := ⟨by decide +kernel, rfl⟩
theorem d_X8_body_14 : At cX8_body 14 (.getfield 12) 3 17 := ⟨by decide +kernel, rfl⟩
theorem d_X8_body_17 : At cX8_body 17 (.iload_n 1) 1 18 := ⟨by decide +kernel, rfl⟩
theorem d_X8_body_18 : At cX8_body 18 (.invokevirtual 78) 3 21 := ⟨by decide +kernel, rfl⟩
theorem d_X8_body_21 : At cX8_body 21 (.bipush (-6)) 2 23 := ⟨by decide +kernel, rfl⟩
theorem d_X8_body_23 : Br cX8_body 23 (.if_icmp .eq 6) (6) 26 29 := ⟨by decide +kernel, rfl, rfl⟩
theorem d_X8_body_26 : At cX8_body 26 (.bipush (-5)) 2 28 := ⟨by decide +kernel, rfl⟩
theorem d_X8_body_28 : Go cX8_body 28 (.ireturn) 1 := (by decide +kernel : decode cX8_body 28 = .ok (.ireturn, 1))
theorem d_X8_body_29 : At cX8_body 29 (.aload_n 0) 1 30 := ⟨by decide +kernel, rfl⟩
theorem d_X8_body_30 : At cX8_body 30 (.getfield 26) 3 33 := ⟨by decide +kernel, rfl⟩
theorem d_X8_body_33 : At cX8_body 33 (.iload_n 1) 1 34 := ⟨by decide +kernel, rfl⟩
theorem d_X8_body_34 : At cX8_body 34 (.aload_n 0) 1 35 := ⟨by decide +kernel, rfl⟩
theorem d_X8_body_35 : At cX8_body 35 (.getfield 12) 3 38 := ⟨by decide +kernel, rfl⟩
theorem d_X8_body_38 : At cX8_body 38 (.invokevirtual 82) 3 41 := ⟨by decide +kernel, rfl⟩
theorem d_X8_body_41 : At cX8_body 41 (.aload_n 0) 1 42 := ⟨by decide +kernel, rfl⟩
theorem d_X8_body_42 : At cX8_body 42 (.getfield 12) 3 45 := ⟨by decide +kernel, rfl⟩
theorem d_X8_body_45 : At cX8_body 45 (.invokevirtual 72) 3 48 := ⟨by decide +kernel, rfl⟩
theorem d_X8_body_48 : At cX8_body 48 (.aload_n 0) 1 49 := ⟨by decide +kernel, rfl⟩
theorem d_X8_body_49 : At cX8_body 49 (.getfield 35) 3 52 := ⟨by decide +kernel, rfl⟩
theorem d_X8_body_52 : At cX8_body 52 (.invokevirtual 60) 3 55 := ⟨by decide +kernel, rfl⟩
theorem d_X8_body_55 : At cX8_body 55 (.aload_n 0) 1 56 := ⟨by decide +kernel, rfl⟩
theorem d_X8_body_56 : At cX8_body 56 (.getfield 42) 3 59 := ⟨by decide +kernel, rfl⟩
theorem d_X8_body_59 : At cX8_body 59 (.invokevirtual 63) 3 62 := ⟨by decide +kernel, rfl⟩
theorem d_X8_body_62 : At cX8_body 62 (.aload_n 0) 1 63 := ⟨by decide +kernel, rfl⟩
theorem d_X8_body_63 : At cX8_body 63 (.getfield 56) 3 66 := ⟨by decide +kernel, rfl⟩
theorem d_X8_body_66 : At cX8_body 66 (.invokevirtual 86) 3 69 := ⟨by decide +kernel, rfl⟩
theorem d_X8_body_69 : At cX8_body 69 (.aload_n 0) 1 70 := ⟨by decide +kernel, rfl⟩
theorem d_X8_body_70 : At cX8_body 70 (.getfield 26) 3 73 := ⟨by decide +kernel, rfl⟩
theorem d_X8_body_73 : At cX8_body 73 (.iload_n 1) 1 74 := ⟨by decide +kernel, rfl⟩
theorem d_X8_body_74 : At cX8_body 74 (.invokevirtual 89) 3 77 := ⟨by decide +kernel, rfl⟩
theorem d_X8_body_77 : Go cX8_body 77 (.ireturn) 1 := (by decide +kernel : decode cX8_body 77 = .ok (.ireturn, 1))
theorem d_X8_node_0 : At cX8_node 0 (.aload_n 0) 1 1 := ⟨by decide +kernel, rfl⟩
theorem d_X8_node_1 : At cX8_node 1 (.iload_n 1) 1 2 := ⟨by decide +kernel, rfl⟩
theorem d_X8_node_2 : At cX8_node 2 (.iload_n 2) 1 3 := ⟨by decide +kernel, rfl⟩
theorem d_X8_node_3 : At cX8_node 3 (.invokevirtual 92) 3 6 := ⟨by decide +kernel, rfl⟩
theorem d_X8_node_6 : Br cX8_node 6 (.ifCond .ne 5) (5) 9 11 := ⟨by decide +kernel, rfl, rfl⟩
theorem d_X8_node_9 : At cX8_node 9 (.iconst (-1)) 1 10 := ⟨by decide +kernel, rfl⟩
theorem d_X8_node_10 : Go cX8_node 10 (.ireturn) 1 := (by decide +kernel : decode cX8_node 10 = .ok (.ireturn, 1))
theorem d_X8_node_11 : At cX8_node 11 (.aload_n 0) 1 12 := ⟨by decide +kernel, rfl⟩
theorem d_X8_node_12 : At cX8_node 12 (.getfield 26) 3 15 := ⟨by decide +kernel, rfl⟩
theorem d_X8_node_15 : At cX8_node 15 (.iload_n 1) 1 16 := ⟨by decide +kernel, rfl⟩
theorem d_X8_node_16 : At cX8_node 16 (.invokevirtual 96) 3 19 := ⟨by decide +kernel, rfl⟩
theorem d_X8_node_19 : At cX8_node 19 (.iload_n 2) 1 20 := ⟨by decide +kernel, rfl⟩
theorem d_X8_node_20 : At cX8_node 20 (.iadd) 1 21 := ⟨by decide +kernel, rfl⟩
theorem d_X8_node_21 : At cX8_node 21 (.istore 4) 2 23 := ⟨by decide +kernel, rfl⟩
theorem d_X8_node_23 : At cX8_node 23 (.iload_n 3) 1 24 := ⟨by decide +kernel, rfl⟩
theorem d_X8_node_24 : Go cX8_node 24 (.tableswitch 58 0 2 #[28, 38, 48]) 28 := (by decide +kernel : decode cX8_node 24 = .ok (.tableswitch 58 0 2 #[28, 38, 48], 28))
theorem d_X8_node_52 : At cX8_node 52 (.aload_n 0) 1 53 := ⟨by decide +kernel, rfl⟩
theorem d_X8_node_53 : At cX8_node 53 (.getfield 26) 3 56 := ⟨by decide +kernel, rfl⟩
theorem d_X8_node_56 : At cX8_node 56 (.iload 4) 2 58 := ⟨by decide +kernel, rfl⟩
theorem d_X8_node_58 : At cX8_node 58 (.invokevirtual 99) 3 61 := ⟨by decide +kernel, rfl⟩
theorem d_X8_node_61 : Go cX8_node 61 (.ireturn) 1 := (by decide +kernel : decode cX8_node 61 = .ok (.ireturn, 1))
theorem d_X8_node_62 : At cX8_node 62 (.aload_n 0) 1 63 := ⟨by decide +kernel, rfl⟩
theorem d_X8_node_63 : At cX8_node 63 (.getfield 26) 3 66 := ⟨by decide +kernel, rfl⟩
theorem d_X8_node_66 : At cX8_node 66 (.iload 4) 2 68 := ⟨by decide +kernel, rfl⟩
theorem d_X8_node_68 : At cX8_node 68 (.invokevirtual 102) 3 71 := ⟨by decide +kernel, rfl⟩
theorem d_X8_node_71 : Go cX8_node 71 (.ireturn) 1 := (by decide +kernel : decode cX8_node 71 = .ok (.ireturn, 1))
theorem d_X8_node_72 : At cX8_node 72 (.aload_n 0) 1 73 := ⟨by decide +kernel, rfl⟩
theorem d_X8_node_73 : At cX8_node 73 (.getfield 26) 3 76 := ⟨by decide +kernel, rfl⟩
theorem d_X8_node_76 : At cX8_node 76 (.iload 4) 2 78 := ⟨by decide +kernel, rfl⟩
theorem d_X8_node_78 : At cX8_node 78 (.invokevirtual 105) 3 81 := ⟨by decide +kernel, rfl⟩
theorem d_X8_node_81 : Go cX8_node 81 (.ireturn) 1 := (by decide +kernel : decode cX8_node 81 = .ok (.ireturn, 1))
theorem d_X8_node_82 : At cX8_node 82 (.bipush (-2)) 2 84 := ⟨by decide +kernel, rfl⟩
theorem d_X8_node_84 : Go cX8_node 84 (.ireturn) 1 := (by decide +kernel : decode cX8_node 84 = .ok (.ireturn, 1))
theorem d_X8_run_0 : At cX8_run 0 (.iload_n 1) 1 1 := ⟨by decide +kernel, rfl⟩
theorem d_X8_run_1 : At cX8_run 1 (.invokestatic 75) 3 4 := ⟨by decide +kernel, rfl⟩
theorem d_X8_run_4 : Br cX8_run 4 (.ifCond .ne 5) (5) 7 9 := ⟨by decide +kernel, rfl, rfl⟩
theorem d_X8_run_7 : At cX8_run 7 (.iconst (-1)) 1 8 := ⟨by decide +kernel, rfl⟩
theorem d_X8_run_8 : Go cX8_run 8 (.ireturn) 1 := (by decide +kernel : decode cX8_run 8 = .ok (.ireturn, 1))
theorem d_X8_run_9 : At cX8_run 9 (.iload_n 2) 1 10 := ⟨by decide +kernel, rfl⟩
theorem d_X8_run_10 : Br cX8_run 10 (.ifCond .lt 19) (19) 13 29 := ⟨by decide +kernel, rfl, rfl⟩
theorem d_X8_run_13 : At cX8_run 13 (.iload_n 2) 1 14 := ⟨by decide +kernel, rfl⟩
theorem d_X8_run_14 : At cX8_run 14 (.getstatic 108) 3 17 := ⟨by decide +kernel, rfl⟩
theorem d_X8_run_17 : At cX8_run 17 (.iload_n 1) 1 18 := ⟨by decide +kernel, rfl⟩
theorem d_X8_run_18 : At cX8_run 18 (.iaload) 1 19 := ⟨by decide +kernel, rfl⟩
theorem d_X8_run_19 : Br cX8_run 19 (.if_icmp .ge 10) (10) 22 29 := ⟨by decide +kernel, rfl, rfl⟩
theorem d_X8_run_22 : At cX8_run 22 (.iload_n 3) 1 23 := ⟨by decide +kernel, rfl⟩
theorem d_X8_run_23 : At cX8_run 23 (.invokestatic 112) 3 26 := ⟨by decide +kernel, rfl⟩
theorem d_X8_run_26 : Br cX8_run 26 (.ifCond .ne 6) (6) 29 32 := ⟨by decide +kernel, rfl, rfl⟩
theorem d_X8_run_29 : At cX8_run 29 (.bipush (-2)) 2 31 := ⟨by decide +kernel, rfl⟩
theorem d_X8_run_31 : Go cX8_run 31 (.ireturn) 1 := (by decide +kernel : decode cX8_run 31 = .ok (.ireturn, 1))
theorem d_X8_run_32 : At cX8_run 32 (.iload 4) 2 34 := ⟨by decide +kernel, rfl⟩
theorem d_X8_run_34 : Go cX8_run 34 (.lookupswitch 54 #[(0, 26), (1, 40)]) 26 := (by decide +kernel : decode cX8_run 34 = .ok (.lookupswitch 54 #[(0, 26), (1, 40)], 26))
theorem d_X8_run_60 : At cX8_run 60 (.aload_n 0) 1 61 := ⟨by decide +kernel, rfl⟩
theorem d_X8_run_61 : At cX8_run 61 (.getfield 56) 3 64 := ⟨by decide +kernel, rfl⟩
theorem d_X8_run_64 : At cX8_run 64 (.iload_n 1) 1 65 := ⟨by decide +kernel, rfl⟩
theorem d_X8_run_65 : At cX8_run 65 (.iload_n 2) 1 66 := ⟨by decide +kernel, rfl⟩
theorem d_X8_run_66 : At cX8_run 66 (.iload_n 3) 1 67 := ⟨by decide +kernel, rfl⟩
theorem d_X8_run_67 : At cX8_run 67 (.invokevirtual 115) 3 70 := ⟨by decide +kernel, rfl⟩
theorem d_X8_run_70 : At cX8_run 70 (.invokestatic 119) 3 73 := ⟨by decide +kernel, rfl⟩
theorem d_X8_run_73 : Go cX8_run 73 (.ireturn) 1 := (by decide +kernel : decode cX8_run 73 = .ok (.ireturn, 1))
theorem d_X8_run_74 : At cX8_run 74 (.aload_n 0) 1 75 := ⟨by decide +kernel, rfl⟩
theorem d_X8_run_75 : At cX8_run 75 (.getfield 56) 3 78 := ⟨by decide +kernel, rfl⟩
theorem d_X8_run_78 : At cX8_run 78 (.iload_n 1) 1 79 := ⟨by decide +kernel, rfl⟩
theorem d_X8_run_79 : At cX8_run 79 (.iload_n 2) 1 80 := ⟨by decide +kernel, rfl⟩
theorem d_X8_run_80 : At cX8_run 80 (.iload_n 3) 1 81 := ⟨by decide +kernel, rfl⟩
theorem d_X8_run_81 : At cX8_run 81 (.invokevirtual 115) 3 84 := ⟨by decide +kernel, rfl⟩
theorem d_X8_run_84 : At cX8_run 84 (.invokestatic 122) 3 87 := ⟨by decide +kernel, rfl⟩
theorem d_X8_run_87 : Go cX8_run 87 (.ireturn) 1 := (by decide +kernel : decode cX8_run 87 = .ok (.ireturn, 1))
theorem d_X8_run_88 : At cX8_run 88 (.bipush (-2)) 2 90 := ⟨by decide +kernel, rfl⟩
theorem d_X8_run_90 : Go cX8_run 90 (.ireturn) 1 := (by decide +kernel : decode cX8_run 90 = .ok (.ireturn, 1))
theorem d_X8_may_0 : At cX8_may 0 (.iload_n 1) 1 1 := ⟨by decide +kernel, rfl⟩
theorem d_X8_may_1 : At cX8_may 1 (.invokestatic 75) 3 4 := ⟨by decide +kernel, rfl⟩
theorem d_X8_may_4 : Br cX8_may 4 (.ifCond .ne 5) (5) 7 9 := ⟨by decide +kernel, rfl, rfl⟩
theorem d_X8_may_7 : At cX8_may 7 (.iconst (-1)) 1 8 := ⟨by decide +kernel, rfl⟩
theorem d_X8_may_8 : Go cX8_may 8 (.ireturn) 1 := (by decide +kernel : decode cX8_may 8 = .ok (.ireturn, 1))
theorem d_X8_may_9 : At cX8_may 9 (.iload_n 2) 1 10 := ⟨by decide +kernel, rfl⟩
theorem d_X8_may_10 : Br cX8_may 10 (.ifCond .lt 11) (11) 13 21 := ⟨by decide +kernel, rfl, rfl⟩
theorem d_X8_may_13 : At cX8_may 13 (.iload_n 2) 1 14 := ⟨by decide +kernel, rfl⟩
theorem d_X8_may_14 : At cX8_may 14 (.iload_n 1) 1 15 := ⟨by decide +kernel, rfl⟩
theorem d_X8_may_15 : At cX8_may 15 (.invokestatic 125) 3 18 := ⟨by decide +kernel, rfl⟩
theorem d_X8_may_18 : Br cX8_may 18 (.if_icmp .le 6) (6) 21 24 := ⟨by decide +kernel, rfl, rfl⟩
theorem d_X8_may_21 : At cX8_may 21 (.bipush (-2)) 2 23 := ⟨by decide +kernel, rfl⟩
theorem d_X8_may_23 : Go cX8_may 23 (.ireturn) 1 := (by decide +kernel : decode cX8_may 23 = .ok (.ireturn, 1))
theorem d_X8_may_24 : At cX8_may 24 (.aload_n 0) 1 25 := ⟨by decide +kernel, rfl⟩
theorem d_X8_may_25 : At cX8_may 25 (.getfield 35) 3 28 := ⟨by decide +kernel, rfl⟩
theorem d_X8_may_28 : At cX8_may 28 (.iload_n 1) 1 29 := ⟨by decide +kernel, rfl⟩
theorem d_X8_may_29 : At cX8_may 29 (.iload_n 2) 1 30 := ⟨by decide +kernel, rfl⟩
theorem d_X8_may_30 : At cX8_may 30 (.invokevirtual 128) 3 33 := ⟨by decide +kernel, rfl⟩
theorem d_X8_may_33 : At cX8_may 33 (.invokestatic 131) 3 36 := ⟨by decide +kernel, rfl⟩
theorem d_X8_may_36 : Go cX8_may 36 (.ireturn) 1 := (by decide +kernel : decode cX8_may 36 = .ok (.ireturn, 1))
theorem d_X8_must_0 : At cX8_must 0 (.iload_n 1) 1 1 := ⟨by decide +kernel, rfl⟩
theorem d_X8_must_1 : At cX8_must 1 (.invokestatic 75) 3 4 := ⟨by decide +kernel, rfl⟩
theorem d_X8_must_4 : Br cX8_must 4 (.ifCond .eq 14) (14) 7 18 := ⟨by decide +kernel, rfl, rfl⟩
theorem d_X8_must_7 : At cX8_must 7 (.aload_n 0) 1 8 := ⟨by decide +kernel, rfl⟩
theorem d_X8_must_8 : At cX8_must 8 (.getfield 35) 3 11 := ⟨by decide +kernel, rfl⟩
theorem d_X8_must_11 : At cX8_must 11 (.iload_n 1) 1 12 := ⟨by decide +kernel, rfl⟩
theorem d_X8_must_12 : At cX8_must 12 (.invokevirtual 135) 3 15 := ⟨by decide +kernel, rfl⟩
theorem d_X8_must_15 : Br cX8_must 15 (.goto 4) (4) 18 19 := ⟨by decide +kernel, rfl, rfl⟩
theorem d_X8_must_18 : At cX8_must 18 (.iconst (-1)) 1 19 := ⟨by decide +kernel, rfl⟩
theorem d_X8_must_19 : Go cX8_must 19 (.ireturn) 1 := (by decide +kernel : decode cX8_must 19 = .ok (.ireturn, 1))
theorem d_X8_joint_0 : At cX8_joint 0 (.iload_n 1) 1 1 := ⟨by decide +kernel, rfl⟩
theorem d_X8_joint_1 : At cX8_joint 1 (.invokestatic 75) 3 4 := ⟨by decide +kernel, rfl⟩
theorem d_X8_joint_4 : Br cX8_joint 4 (.ifCond .ne 5) (5) 7 9 := ⟨by decide +kernel, rfl, rfl⟩
theorem d_X8_joint_7 : At cX8_joint 7 (.iconst (-1)) 1 8 := ⟨by decide +kernel, rfl⟩
theorem d_X8_joint_8 : Go cX8_joint 8 (.ireturn) 1 := (by decide +kernel : decode cX8_joint 8 = .ok (.ireturn, 1))
theorem d_X8_joint_9 : At cX8_joint 9 (.iconst 0) 1 10 := ⟨by decide +kernel, rfl⟩
theorem d_X8_joint_10 : At cX8_joint 10 (.istore_n 3) 1 11 := ⟨by decide +kernel, rfl⟩
theorem d_X8_joint_11 : At cX8_joint 11 (.iconst 0) 1 12 := ⟨by decide +kernel, rfl⟩
theorem d_X8_joint_12 : At cX8_joint 12 (.istore 4) 2 14 := ⟨by decide +kernel, rfl⟩
theorem d_X8_joint_14 : At cX8_joint 14 (.iload 4) 2 16 := ⟨by decide +kernel, rfl⟩
theorem d_X8_joint_16 : At cX8_joint 16 (.iload_n 1) 1 17 := ⟨by decide +kernel, rfl⟩
theorem d_X8_joint_17 : At cX8_joint 17 (.invokestatic 125) 3 20 := ⟨by decide +kernel, rfl⟩
theorem d_X8_joint_20 : Br cX8_joint 20 (.if_icmp .gt 33) (33) 23 53 := ⟨by decide +kernel, rfl, rfl⟩
theorem d_X8_joint_23 : At cX8_joint 23 (.aload_n 0) 1 24 := ⟨by decide +kernel, rfl⟩
theorem d_X8_joint_24 : At cX8_joint 24 (.getfield 35) 3 27 := ⟨by decide +kernel, rfl⟩
theorem d_X8_joint_27 : At cX8_joint 27 (.iload_n 1) 1 28 := ⟨by decide +kernel, rfl⟩
theorem d_X8_joint_28 : At cX8_joint 28 (.iload 4) 2 30 := ⟨by decide +kernel, rfl⟩
theorem d_X8_joint_30 : At cX8_joint 30 (.invokevirtual 138) 3 33 := ⟨by decide +kernel, rfl⟩
theorem d_X8_joint_33 : Br cX8_joint 33 (.ifCond .eq 14) (14) 36 47 := ⟨by decide +kernel, rfl, rfl⟩
theorem d_X8_joint_36 : At cX8_joint 36 (.iload_n 3) 1 37 := ⟨by decide +kernel, rfl⟩
theorem d_X8_joint_37 : At cX8_joint 37 (.iload_n 2) 1 38 := ⟨by decide +kernel, rfl⟩
theorem d_X8_joint_38 : Br cX8_joint 38 (.if_icmp .ne 6) (6) 41 44 := ⟨by decide +kernel, rfl, rfl⟩
theorem d_X8_joint_41 : At cX8_joint 41 (.iload 4) 2 43 := ⟨by decide +kernel, rfl⟩
theorem d_X8_joint_43 : Go cX8_joint 43 (.ireturn) 1 := (by decide +kernel : decode cX8_joint 43 = .ok (.ireturn, 1))
theorem d_X8_joint_44 : At cX8_joint 44 (.iinc 3 1) 3 47 := ⟨by decide +kernel, rfl⟩
theorem d_X8_joint_47 : At cX8_joint 47 (.iinc 4 1) 3 50 := ⟨by decide +kernel, rfl⟩
theorem d_X8_joint_50 : Br cX8_joint 50 (.goto (-36)) (-36) 53 14 := ⟨by decide +kernel, rfl, rfl⟩
theorem d_X8_joint_53 : At cX8_joint 53 (.iload_n 2) 1 54 := ⟨by decide +kernel, rfl⟩
theorem d_X8_joint_54 : At cX8_joint 54 (.iconst (-1)) 1 55 := ⟨by decide +kernel, rfl⟩
theorem d_X8_joint_55 : Br cX8_joint 55 (.if_icmp .ne 7) (7) 58 62 := ⟨by decide +kernel, rfl, rfl⟩
theorem d_X8_joint_58 : At cX8_joint 58 (.iload_n 3) 1 59 := ⟨by decide +kernel, rfl⟩
theorem d_X8_joint_59 : Br cX8_joint 59 (.goto 5) (5) 62 64 := ⟨by decide +kernel, rfl, rfl⟩
theorem d_X8_joint_62 : At cX8_joint 62 (.bipush (-6)) 2 64 := ⟨by decide +kernel, rfl⟩
theorem d_X8_joint_64 : Go cX8_joint 64 (.ireturn) 1 := (by decide +kernel : decode cX8_joint 64 = .ok (.ireturn, 1))
theorem d_X8_uses_0 : At cX8_uses 0 (.iload_n 1) 1 1 := ⟨by decide +kernel, rfl⟩
theorem d_X8_uses_1 : At cX8_uses 1 (.iload_n 2) 1 2 := ⟨by decide +kernel, rfl⟩
theorem d_X8_uses_2 : At cX8_uses 2 (.invokestatic 141) 3 5 := ⟨by decide +kernel, rfl⟩
theorem d_X8_uses_5 : Br cX8_uses 5 (.ifCond .eq 15) (15) 8 20 := ⟨by decide +kernel, rfl, rfl⟩
theorem d_X8_uses_8 : At cX8_uses 8 (.aload_n 0) 1 9 := ⟨by decide +kernel, rfl⟩
theorem d_X8_uses_9 : At cX8_uses 9 (.getfield 42) 3 12 := ⟨by decide +kernel, rfl⟩
theorem d_X8_uses_12 : At cX8_uses 12 (.iload_n 1) 1 13 := ⟨by decide +kernel, rfl⟩
theorem d_X8_uses_13 : At cX8_uses 13 (.iload_n 2) 1 14 := ⟨by decide +kernel, rfl⟩
theorem d_X8_uses_14 : At cX8_uses 14 (.invokevirtual 144) 3 17 := ⟨by decide +kernel, rfl⟩
theorem d_X8_uses_17 : Br cX8_uses 17 (.goto 4) (4) 20 21 := ⟨by decide +kernel, rfl, rfl⟩
theorem d_X8_uses_20 : At cX8_uses 20 (.iconst (-1)) 1 21 := ⟨by decide +kernel, rfl⟩
theorem d_X8_uses_21 : Go cX8_uses 21 (.ireturn) 1 := (by decide +kernel : decode cX8_uses 21 = .ok (.ireturn, 1))
theorem d_X8_part_0 : At cX8_part 0 (.aload_n 0) 1 1 := ⟨by decide +kernel, rfl⟩
theorem d_X8_part_1 : At cX8_part 1 (.iload_n 1) 1 2 := ⟨by decide +kernel, rfl⟩
theorem d_X8_part_2 : At cX8_part 2 (.iload_n 2) 1 3 := ⟨by decide +kernel, rfl⟩
theorem d_X8_part_3 : At cX8_part 3 (.invokevirtual 92) 3 6 := ⟨by decide +kernel, rfl⟩
theorem d_X8_part_6 : Br cX8_part 6 (.ifCond .ne 5) (5) 9 11 := ⟨by decide +kernel, rfl, rfl⟩
theorem d_X8_part_9 : At cX8_part 9 (.iconst (-1)) 1 10 := ⟨by decide +kernel, rfl⟩
theorem d_X8_part_10 : Go cX8_part 10 (.ireturn) 1 := (by decide +kernel : decode cX8_part 10 = .ok (.ireturn, 1))
theorem d_X8_part_11 : At cX8_part 11 (.aload_n 0) 1 12 := ⟨by decide +kernel, rfl⟩
theorem d_X8_part_12 : At cX8_part 12 (.getfield 26) 3 15 := ⟨by decide +kernel, rfl⟩
theorem d_X8_part_15 : At cX8_part 15 (.iload_n 1) 1 16 := ⟨by decide +kernel, rfl⟩
theorem d_X8_part_16 : At cX8_part 16 (.invokevirtual 96) 3 19 := ⟨by decide +kernel, rfl⟩
theorem d_X8_part_19 : At cX8_part 19 (.iload_n 2) 1 20 := ⟨by decide +kernel, rfl⟩
theorem d_X8_part_20 : At cX8_part 20 (.iadd) 1 21 := ⟨by decide +kernel, rfl⟩
theorem d_X8_part_21 : At cX8_part 21 (.istore 4) 2 23 := ⟨by decide +kernel, rfl⟩
theorem d_X8_part_23 : At cX8_part 23 (.iload_n 3) 1 24 := ⟨by decide +kernel, rfl⟩
theorem d_X8_part_24 : Go cX8_part 24 (.lookupswitch 56 #[(0, 28), (1, 45)]) 28 := (by decide +kernel : decode cX8_part 24 = .ok (.lookupswitch 56 #[(0, 28), (1, 45)], 28))
theorem d_X8_part_52 : At cX8_part 52 (.aload_n 0) 1 53 := ⟨by decide +kernel, rfl⟩
theorem d_X8_part_53 : At cX8_part 53 (.getfield 35) 3 56 := ⟨by decide +kernel, rfl⟩
theorem d_X8_part_56 : At cX8_part 56 (.iload 4) 2 58 := ⟨by decide +kernel, rfl⟩
theorem d_X8_part_58 : At cX8_part 58 (.iload_n 1) 1 59 := ⟨by decide +kernel, rfl⟩
theorem d_X8_part_59 : At cX8_part 59 (.invokestatic 125) 3 62 := ⟨by decide +kernel, rfl⟩
theorem d_X8_part_62 : At cX8_part 62 (.invokevirtual 147) 3 65 := ⟨by decide +kernel, rfl⟩
theorem d_X8_part_65 : At cX8_part 65 (.invokestatic 131) 3 68 := ⟨by decide +kernel, rfl⟩
theorem d_X8_part_68 : Go cX8_part 68 (.ireturn) 1 := (by decide +kernel : decode cX8_part 68 = .ok (.ireturn, 1))
theorem d_X8_part_69 : At cX8_part 69 (.aload_n 0) 1 70 := ⟨by decide +kernel, rfl⟩
theorem d_X8_part_70 : At cX8_part 70 (.getfield 35) 3 73 := ⟨by decide +kernel, rfl⟩
theorem d_X8_part_73 : At cX8_part 73 (.iload 4) 2 75 := ⟨by decide +kernel, rfl⟩
theorem d_X8_part_75 : At cX8_part 75 (.iload_n 1) 1 76 := ⟨by decide +kernel, rfl⟩
theorem d_X8_part_76 : At cX8_part 76 (.invokevirtual 150) 3 79 := ⟨by decide +kernel, rfl⟩
theorem d_X8_part_79 : Go cX8_part 79 (.ireturn) 1 := (by decide +kernel : decode cX8_part 79 = .ok (.ireturn, 1))
theorem d_X8_part_80 : At cX8_part 80 (.bipush (-2)) 2 82 := ⟨by decide +kernel, rfl⟩
theorem d_X8_part_82 : Go cX8_part 82 (.ireturn) 1 := (by decide +kernel : decode cX8_part 82 = .ok (.ireturn, 1))
theorem d_X8_ends_0 : At cX8_ends 0 (.iload_n 1) 1 1 := ⟨by decide +kernel, rfl⟩
theorem d_X8_ends_1 : At cX8_ends 1 (.invokestatic 75) 3 4 := ⟨by decide +kernel, rfl⟩
theorem d_X8_ends_4 : Br cX8_ends 4 (.ifCond .ne 5) (5) 7 9 := ⟨by decide +kernel, rfl, rfl⟩
theorem d_X8_ends_7 : At cX8_ends 7 (.iconst (-1)) 1 8 := ⟨by decide +kernel, rfl⟩
theorem d_X8_ends_8 : Go cX8_ends 8 (.ireturn) 1 := (by decide +kernel : decode cX8_ends 8 = .ok (.ireturn, 1))
theorem d_X8_ends_9 : At cX8_ends 9 (.iload_n 2) 1 10 := ⟨by decide +kernel, rfl⟩
theorem d_X8_ends_10 : Br cX8_ends 10 (.ifCond .lt 8) (8) 13 18 := ⟨by decide +kernel, rfl, rfl⟩
theorem d_X8_ends_13 : At cX8_ends 13 (.iload_n 2) 1 14 := ⟨by decide +kernel, rfl⟩
theorem d_X8_ends_14 : At cX8_ends 14 (.iconst 2) 1 15 := ⟨by decide +kernel, rfl⟩
theorem d_X8_ends_15 : Br cX8_ends 15 (.if_icmp .le 6) (6) 18 21 := ⟨by decide +kernel, rfl, rfl⟩
theorem d_X8_ends_18 : At cX8_ends 18 (.bipush (-2)) 2 20 := ⟨by decide +kernel, rfl⟩
theorem d_X8_ends_20 : Go cX8_ends 20 (.ireturn) 1 := (by decide +kernel : decode cX8_ends 20 = .ok (.ireturn, 1))
theorem d_X8_ends_21 : At cX8_ends 21 (.iconst 0) 1 22 := ⟨by decide +kernel, rfl⟩
theorem d_X8_ends_22 : At cX8_ends 22 (.istore_n 3) 1 23 := ⟨by decide +kernel, rfl⟩
theorem d_X8_ends_23 : At cX8_ends 23 (.iconst 0) 1 24 := ⟨by decide +kernel, rfl⟩
theorem d_X8_ends_24 : At cX8_ends 24 (.istore 4) 2 26 := ⟨by decide +kernel, rfl⟩
theorem d_X8_ends_26 : At cX8_ends 26 (.iload 4) 2 28 := ⟨by decide +kernel, rfl⟩
theorem d_X8_ends_28 : At cX8_ends 28 (.getstatic 153) 3 31 := ⟨by decide +kernel, rfl⟩
theorem d_X8_ends_31 : At cX8_ends 31 (.iload_n 1) 1 32 := ⟨by decide +kernel, rfl⟩
theorem d_X8_ends_32 : At cX8_ends 32 (.iaload) 1 33 := ⟨by decide +kernel, rfl⟩
theorem d_X8_ends_33 : Br cX8_ends 33 (.if_icmp .ge 41) (41) 36 74 := ⟨by decide +kernel, rfl, rfl⟩
theorem d_X8_ends_36 : At cX8_ends 36 (.aload_n 0) 1 37 := ⟨by decide +kernel, rfl⟩
theorem d_X8_ends_37 : At cX8_ends 37 (.getfield 56) 3 40 := ⟨by decide +kernel, rfl⟩
theorem d_X8_ends_40 : At cX8_ends 40 (.iload_n 1) 1 41 := ⟨by decide +kernel, rfl⟩
theorem d_X8_ends_41 : At cX8_ends 41 (.iload 4) 2 43 := ⟨by decide +kernel, rfl⟩
theorem d_X8_ends_43 : At cX8_ends 43 (.iload_n 1) 1 44 := ⟨by decide +kernel, rfl⟩
theorem d_X8_ends_44 : At cX8_ends 44 (.invokestatic 156) 3 47 := ⟨by decide +kernel, rfl⟩
theorem d_X8_ends_47 : At cX8_ends 47 (.iconst 1) 1 48 := ⟨by decide +kernel, rfl⟩
theorem d_X8_ends_48 : At cX8_ends 48 (.invokevirtual 115) 3 51 := ⟨by decide +kernel, rfl⟩
theorem d_X8_ends_51 : At cX8_ends 51 (.istore 5) 2 53 := ⟨by decide +kernel, rfl⟩
theorem d_X8_ends_53 : At cX8_ends 53 (.iload 5) 2 55 := ⟨by decide +kernel, rfl⟩
theorem d_X8_ends_55 : At cX8_ends 55 (.invokestatic 119) 3 58 := ⟨by decide +kernel, rfl⟩
theorem d_X8_ends_58 : At cX8_ends 58 (.invokestatic 159) 3 61 := ⟨by decide +kernel, rfl⟩
theorem d_X8_ends_61 : At cX8_ends 61 (.iload_n 2) 1 62 := ⟨by decide +kernel, rfl⟩
theorem d_X8_ends_62 : Br cX8_ends 62 (.if_icmp .ne 6) (6) 65 68 := ⟨by decide +kernel, rfl, rfl⟩
theorem d_X8_ends_65 : At cX8_ends 65 (.iinc 3 1) 3 68 := ⟨by decide +kernel, rfl⟩
theorem d_X8_ends_68 : At cX8_ends 68 (.iinc 4 1) 3 71 := ⟨by decide +kernel, rfl⟩
theorem d_X8_ends_71 : Br cX8_ends 71 (.goto (-45)) (-45) 74 26 := ⟨by decide +kernel, rfl, rfl⟩
theorem d_X8_ends_74 : At cX8_ends 74 (.iload_n 3) 1 75 := ⟨by decide +kernel, rfl⟩
theorem d_X8_ends_75 : Go cX8_ends 75 (.ireturn) 1 := (by decide +kernel : decode cX8_ends 75 = .ok (.ireturn, 1))
theorem d_X8_matters_0 : At cX8_matters 0 (.iload_n 1) 1 1 := ⟨by decide +kernel, rfl⟩
theorem d_X8_matters_1 : At cX8_matters 1 (.iload_n 2) 1 2 := ⟨by decide +kernel, rfl⟩
theorem d_X8_matters_2 : At cX8_matters 2 (.invokestatic 141) 3 5 := ⟨by decide +kernel, rfl⟩
theorem d_X8_matters_5 : Br cX8_matters 5 (.ifCond .ne 5) (5) 8 10 := ⟨by decide +kernel, rfl, rfl⟩
theorem d_X8_matters_8 : At cX8_matters 8 (.iconst (-1)) 1 9 := ⟨by decide +kernel, rfl⟩
theorem d_X8_matters_9 : Go cX8_matters 9 (.ireturn) 1 := (by decide +kernel : decode cX8_matters 9 = .ok (.ireturn, 1))
theorem d_X8_matters_10 : At cX8_matters 10 (.bipush 7) 2 12 := ⟨by decide +kernel, rfl⟩
theorem d_X8_matters_12 : At cX8_matters 12 (.iload_n 1) 1 13 := ⟨by decide +kernel, rfl⟩
theorem d_X8_matters_13 : At cX8_matters 13 (.iload_n 2) 1 14 := ⟨by decide +kernel, rfl⟩
theorem d_X8_matters_14 : At cX8_matters 14 (.invokestatic 162) 3 17 := ⟨by decide +kernel, rfl⟩
theorem d_X8_matters_17 : At cX8_matters 17 (.ishl) 1 18 := ⟨by decide +kernel, rfl⟩
theorem d_X8_matters_18 : At cX8_matters 18 (.istore_n 3) 1 19 := ⟨by decide +kernel, rfl⟩
theorem d_X8_matters_19 : At cX8_matters 19 (.iconst 0) 1 20 := ⟨by decide +kernel, rfl⟩
theorem d_X8_matters_20 : At cX8_matters 20 (.istore 4) 2 22 := ⟨by decide +kernel, rfl⟩
theorem d_X8_matters_22 : At cX8_matters 22 (.iload 4) 2 24 := ⟨by decide +kernel, rfl⟩
theorem d_X8_matters_24 : At cX8_matters 24 (.getstatic 153) 3 27 := ⟨by decide +kernel, rfl⟩
theorem d_X8_matters_27 : At cX8_matters 27 (.iload_n 1) 1 28 := ⟨by decide +kernel, rfl⟩
theorem d_X8_matters_28 : At cX8_matters 28 (.iaload) 1 29 := ⟨by decide +kernel, rfl⟩
theorem d_X8_matters_29 : Br cX8_matters 29 (.if_icmp .ge 62) (62) 32 91 := ⟨by decide +kernel, rfl, rfl⟩
theorem d_X8_matters_32 : At cX8_matters 32 (.aload_n 0) 1 33 := ⟨by decide +kernel, rfl⟩
theorem d_X8_matters_33 : At cX8_matters 33 (.getfield 56) 3 36 := ⟨by decide +kernel, rfl⟩
theorem d_X8_matters_36 : At cX8_matters 36 (.iload_n 1) 1 37 := ⟨by decide +kernel, rfl⟩
theorem d_X8_matters_37 : At cX8_matters 37 (.iload 4) 2 39 := ⟨by decide +kernel, rfl⟩
theorem d_X8_matters_39 : At cX8_matters 39 (.iload_n 1) 1 40 := ⟨by decide +kernel, rfl⟩
theorem d_X8_matters_40 : At cX8_matters 40 (.invokestatic 156) 3 43 := ⟨by decide +kernel, rfl⟩
theorem d_X8_matters_43 : At cX8_matters 43 (.iconst 1) 1 44 := ⟨by decide +kernel, rfl⟩
theorem d_X8_matters_44 : At cX8_matters 44 (.invokevirtual 115) 3 47 := ⟨by decide +kernel, rfl⟩
theorem d_X8_matters_47 : At cX8_matters 47 (.istore 5) 2 49 := ⟨by decide +kernel, rfl⟩
theorem d_X8_matters_49 : At cX8_matters 49 (.aload_n 0) 1 50 := ⟨by decide +kernel, rfl⟩
theorem d_X8_matters_50 : At cX8_matters 50 (.getfield 56) 3 53 := ⟨by decide +kernel, rfl⟩
theorem d_X8_matters_53 : At cX8_matters 53 (.iload_n 1) 1 54 := ⟨by decide +kernel, rfl⟩
theorem d_X8_matters_54 : At cX8_matters 54 (.iload 4) 2 56 := ⟨by decide +kernel, rfl⟩
theorem d_X8_matters_56 : At cX8_matters 56 (.iload_n 3) 1 57 := ⟨by decide +kernel, rfl⟩
theorem d_X8_matters_57 : At cX8_matters 57 (.iconst (-1)) 1 58 := ⟨by decide +kernel, rfl⟩
theorem d_X8_matters_58 : At cX8_matters 58 (.ixor) 1 59 := ⟨by decide +kernel, rfl⟩
theorem d_X8_matters_59 : At cX8_matters 59 (.iand) 1 60 := ⟨by decide +kernel, rfl⟩
theorem d_X8_matters_60 : At cX8_matters 60 (.iload_n 1) 1 61 := ⟨by decide +kernel, rfl⟩
theorem d_X8_matters_61 : At cX8_matters 61 (.invokestatic 156) 3 64 := ⟨by decide +kernel, rfl⟩
theorem d_X8_matters_64 : At cX8_matters 64 (.iconst 1) 1 65 := ⟨by decide +kernel, rfl⟩
theorem d_X8_matters_65 : At cX8_matters 65 (.invokevirtual 115) 3 68 := ⟨by decide +kernel, rfl⟩
theorem d_X8_matters_68 : At cX8_matters 68 (.istore 6) 2 70 := ⟨by decide +kernel, rfl⟩
theorem d_X8_matters_70 : At cX8_matters 70 (.iload 5) 2 72 := ⟨by decide +kernel, rfl⟩
theorem d_X8_matters_72 : At cX8_matters 72 (.invokestatic 119) 3 75 := ⟨by decide +kernel, rfl⟩
theorem d_X8_matters_75 : At cX8_matters 75 (.iload 6) 2 77 := ⟨by decide +kernel, rfl⟩
theorem d_X8_matters_77 : At cX8_matters 77 (.invokestatic 119) 3 80 := ⟨by decide +kernel, rfl⟩
theorem d_X8_matters_80 : Br cX8_matters 80 (.if_icmp .eq 5) (5) 83 85 := ⟨by decide +kernel, rfl, rfl⟩
theorem d_X8_matters_83 : At cX8_matters 83 (.iconst 1) 1 84 := ⟨by decide +kernel, rfl⟩
theorem d_X8_matters_84 : Go cX8_matters 84 (.ireturn) 1 := (by decide +kernel : decode cX8_matters 84 = .ok (.ireturn, 1))
theorem d_X8_matters_85 : At cX8_matters 85 (.iinc 4 1) 3 88 := ⟨by decide +kernel, rfl⟩
theorem d_X8_matters_88 : Br cX8_matters 88 (.goto (-66)) (-66) 91 22 := ⟨by decide +kernel, rfl, rfl⟩
theorem d_X8_matters_91 : At cX8_matters 91 (.iconst 0) 1 92 := ⟨by decide +kernel, rfl⟩
theorem d_X8_matters_92 : Go cX8_matters 92 (.ireturn) 1 := (by decide +kernel : decode cX8_matters 92 = .ok (.ireturn, 1))
theorem d_X8_steps_0 : At cX8_steps 0 (.iload_n 1) 1 1 := ⟨by decide +kernel, rfl⟩
theorem d_X8_steps_1 : At cX8_steps 1 (.invokestatic 75) 3 4 := ⟨by decide +kernel, rfl⟩
theorem d_X8_steps_4 : Br cX8_steps 4 (.ifCond .ne 5) (5) 7 9 := ⟨by decide +kernel, rfl, rfl⟩
theorem d_X8_steps_7 : At cX8_steps 7 (.iconst (-1)) 1 8 := ⟨by decide +kernel, rfl⟩
theorem d_X8_steps_8 : Go cX8_steps 8 (.ireturn) 1 := (by decide +kernel : decode cX8_steps 8 = .ok (.ireturn, 1))
theorem d_X8_steps_9 : At cX8_steps 9 (.iload_n 2) 1 10 := ⟨by decide +kernel, rfl⟩
theorem d_X8_steps_10 : At cX8_steps 10 (.invokestatic 112) 3 13 := ⟨by decide +kernel, rfl⟩
theorem d_X8_steps_13 : Br cX8_steps 13 (.ifCond .ne 6) (6) 16 19 := ⟨by decide +kernel, rfl, rfl⟩
theorem d_X8_steps_16 : At cX8_steps 16 (.bipush (-2)) 2 18 := ⟨by decide +kernel, rfl⟩
theorem d_X8_steps_18 : Go cX8_steps 18 (.ireturn) 1 := (by decide +kernel : decode cX8_steps 18 = .ok (.ireturn, 1))
theorem d_X8_steps_19 : At cX8_steps 19 (.iconst 0) 1 20 := ⟨by decide +kernel, rfl⟩
theorem d_X8_steps_20 : At cX8_steps 20 (.istore_n 3) 1 21 := ⟨by decide +kernel, rfl⟩
theorem d_X8_steps_21 : At cX8_steps 21 (.iconst 0) 1 22 := ⟨by decide +kernel, rfl⟩
theorem d_X8_steps_22 : At cX8_steps 22 (.istore 4) 2 24 := ⟨by decide +kernel, rfl⟩
theorem d_X8_steps_24 : At cX8_steps 24 (.iload 4) 2 26 := ⟨by decide +kernel, rfl⟩
theorem d_X8_steps_26 : At cX8_steps 26 (.getstatic 153) 3 29 := ⟨by decide +kernel, rfl⟩
theorem d_X8_steps_29 : At cX8_steps 29 (.iload_n 1) 1 30 := ⟨by decide +kernel, rfl⟩
theorem d_X8_steps_30 : At cX8_steps 30 (.iaload) 1 31 := ⟨by decide +kernel, rfl⟩
theorem d_X8_steps_31 : Br cX8_steps 31 (.if_icmp .ge 53) (53) 34 84 := ⟨by decide +kernel, rfl, rfl⟩
theorem d_X8_steps_34 : At cX8_steps 34 (.iload 4) 2 36 := ⟨by decide +kernel, rfl⟩
theorem d_X8_steps_36 : At cX8_steps 36 (.iload_n 1) 1 37 := ⟨by decide +kernel, rfl⟩
theorem d_X8_steps_37 : At cX8_steps 37 (.invokestatic 156) 3 40 := ⟨by decide +kernel, rfl⟩
theorem d_X8_steps_40 : At cX8_steps 40 (.istore 5) 2 42 := ⟨by decide +kernel, rfl⟩
theorem d_X8_steps_42 : At cX8_steps 42 (.aload_n 0) 1 43 := ⟨by decide +kernel, rfl⟩
theorem d_X8_steps_43 : At cX8_steps 43 (.getfield 56) 3 46 := ⟨by decide +kernel, rfl⟩
theorem d_X8_steps_46 : At cX8_steps 46 (.iload_n 1) 1 47 := ⟨by decide +kernel, rfl⟩
theorem d_X8_steps_47 : At cX8_steps 47 (.iload 5) 2 49 := ⟨by decide +kernel, rfl⟩
theorem d_X8_steps_49 : At cX8_steps 49 (.iconst 1) 1 50 := ⟨by decide +kernel, rfl⟩
theorem d_X8_steps_50 : At cX8_steps 50 (.invokevirtual 115) 3 53 := ⟨by decide +kernel, rfl⟩
theorem d_X8_steps_53 : At cX8_steps 53 (.invokestatic 119) 3 56 := ⟨by decide +kernel, rfl⟩
theorem d_X8_steps_56 : At cX8_steps 56 (.bipush 8) 2 58 := ⟨by decide +kernel, rfl⟩
theorem d_X8_steps_58 : Br cX8_steps 58 (.if_icmp .ge 20) (20) 61 78 := ⟨by decide +kernel, rfl, rfl⟩
theorem d_X8_steps_61 : At cX8_steps 61 (.iload_n 3) 1 62 := ⟨by decide +kernel, rfl⟩
theorem d_X8_steps_62 : At cX8_steps 62 (.aload_n 0) 1 63 := ⟨by decide +kernel, rfl⟩
theorem d_X8_steps_63 : At cX8_steps 63 (.getfield 56) 3 66 := ⟨by decide +kernel, rfl⟩
theorem d_X8_steps_66 : At cX8_steps 66 (.iload_n 1) 1 67 := ⟨by decide +kernel, rfl⟩
theorem d_X8_steps_67 : At cX8_steps 67 (.iload 5) 2 69 := ⟨by decide +kernel, rfl⟩
theorem d_X8_steps_69 : At cX8_steps 69 (.iload_n 2) 1 70 := ⟨by decide +kernel, rfl⟩
theorem d_X8_steps_70 : At cX8_steps 70 (.invokevirtual 115) 3 73 := ⟨by decide +kernel, rfl⟩
theorem d_X8_steps_73 : At cX8_steps 73 (.invokestatic 122) 3 76 := ⟨by decide +kernel, rfl⟩
theorem d_X8_steps_76 : At cX8_steps 76 (.iadd) 1 77 := ⟨by decide +kernel, rfl⟩
theorem d_X8_steps_77 : At cX8_steps 77 (.istore_n 3) 1 78 := ⟨by decide +kernel, rfl⟩
theorem d_X8_steps_78 : At cX8_steps 78 (.iinc 4 1) 3 81 := ⟨by decide +kernel, rfl⟩
theorem d_X8_steps_81 : Br cX8_steps 81 (.goto (-57)) (-57) 84 24 := ⟨by decide +kernel, rfl, rfl⟩
theorem d_X8_steps_84 : At cX8_steps 84 (.iload_n 3) 1 85 := ⟨by decide +kernel, rfl⟩
theorem d_X8_steps_85 : Go cX8_steps 85 (.ireturn) 1 := (by decide +kernel : decode cX8_steps 85 = .ok (.ireturn, 1))
theorem d_X8_unlike_0 : At cX8_unlike 0 (.iload_n 1) 1 1 := ⟨by decide +kernel, rfl⟩
theorem d_X8_unlike_1 : At cX8_unlike 1 (.invokestatic 75) 3 4 := ⟨by decide +kernel, rfl⟩
theorem d_X8_unlike_4 : Br cX8_unlike 4 (.ifCond .ne 5) (5) 7 9 := ⟨by decide +kernel, rfl, rfl⟩
theorem d_X8_unlike_7 : At cX8_unlike 7 (.iconst (-1)) 1 8 := ⟨by decide +kernel, rfl⟩
theorem d_X8_unlike_8 : Go cX8_unlike 8 (.ireturn) 1 := (by decide +kernel : decode cX8_unlike 8 = .ok (.ireturn, 1))
theorem d_X8_unlike_9 : At cX8_unlike 9 (.iload_n 2) 1 10 := ⟨by decide +kernel, rfl⟩
theorem d_X8_unlike_10 : At cX8_unlike 10 (.invokestatic 112) 3 13 := ⟨by decide +kernel, rfl⟩
theorem d_X8_unlike_13 : Br cX8_unlike 13 (.ifCond .eq 21) (21) 16 34 := ⟨by decide +kernel, rfl, rfl⟩
theorem d_X8_unlike_16 : At cX8_unlike 16 (.iload_n 3) 1 17 := ⟨by decide +kernel, rfl⟩
theorem d_X8_unlike_17 : At cX8_unlike 17 (.invokestatic 112) 3 20 := ⟨by decide +kernel, rfl⟩
theorem d_X8_unlike_20 : Br cX8_unlike 20 (.ifCond .eq 14) (14) 23 34 := ⟨by decide +kernel, rfl, rfl⟩
theorem d_X8_unlike_23 : At cX8_unlike 23 (.iload 4) 2 25 := ⟨by decide +kernel, rfl⟩
theorem d_X8_unlike_25 : Br cX8_unlike 25 (.ifCond .lt 9) (9) 28 34 := ⟨by decide +kernel, rfl, rfl⟩
theorem d_X8_unlike_28 : At cX8_unlike 28 (.iload 4) 2 30 := ⟨by decide +kernel, rfl⟩
theorem d_X8_unlike_30 : At cX8_unlike 30 (.iconst 1) 1 31 := ⟨by decide +kernel, rfl⟩
theorem d_X8_unlike_31 : Br cX8_unlike 31 (.if_icmp .le 6) (6) 34 37 := ⟨by decide +kernel, rfl, rfl⟩
theorem d_X8_unlike_34 : At cX8_unlike 34 (.bipush (-2)) 2 36 := ⟨by decide +kernel, rfl⟩
theorem d_X8_unlike_36 : Go cX8_unlike 36 (.ireturn) 1 := (by decide +kernel : decode cX8_unlike 36 = .ok (.ireturn, 1))
theorem d_X8_unlike_37 : At cX8_unlike 37 (.iconst 0) 1 38 := ⟨by decide +kernel, rfl⟩
theorem d_X8_unlike_38 : At cX8_unlike 38 (.istore 5) 2 40 := ⟨by decide +kernel, rfl⟩
theorem d_X8_unlike_40 : At cX8_unlike 40 (.iconst 0) 1 41 := ⟨by decide +kernel, rfl⟩
theorem d_X8_unlike_41 : At cX8_unlike 41 (.istore 6) 2 43 := ⟨by decide +kernel, rfl⟩
theorem d_X8_unlike_43 : At cX8_unlike 43 (.iload 6) 2 45 := ⟨by decide +kernel, rfl⟩
theorem d_X8_unlike_45 : At cX8_unlike 45 (.getstatic 108) 3 48 := ⟨by decide +kernel, rfl⟩
theorem d_X8_unlike_48 : At cX8_unlike 48 (.iload_n 1) 1 49 := ⟨by decide +kernel, rfl⟩
theorem d_X8_unlike_49 : At cX8_unlike 49 (.iaload) 1 50 := ⟨by decide +kernel, rfl⟩
theorem d_X8_unlike_50 : Br cX8_unlike 50 (.if_icmp .ge 56) (56) 53 106 := ⟨by decide +kernel, rfl, rfl⟩
theorem d_X8_unlike_53 : At cX8_unlike 53 (.aload_n 0) 1 54 := ⟨by decide +kernel, rfl⟩
theorem d_X8_unlike_54 : At cX8_unlike 54 (.getfield 56) 3 57 := ⟨by decide +kernel, rfl⟩
theorem d_X8_unlike_57 : At cX8_unlike 57 (.iload_n 1) 1 58 := ⟨by decide +kernel, rfl⟩
theorem d_X8_unlike_58 : At cX8_unlike 58 (.iload 6) 2 60 := ⟨by decide +kernel, rfl⟩
theorem d_X8_unlike_60 : At cX8_unlike 60 (.iload_n 2) 1 61 := ⟨by decide +kernel, rfl⟩
theorem d_X8_unlike_61 : At cX8_unlike 61 (.invokevirtual 115) 3 64 := ⟨by decide +kernel, rfl⟩
theorem d_X8_unlike_64 : At cX8_unlike 64 (.invokestatic 119) 3 67 := ⟨by decide +kernel, rfl⟩
theorem d_X8_unlike_67 : At cX8_unlike 67 (.istore 7) 2 69 := ⟨by decide +kernel, rfl⟩
theorem d_X8_unlike_69 : At cX8_unlike 69 (.iload 7) 2 71 := ⟨by decide +kernel, rfl⟩
theorem d_X8_unlike_71 : At cX8_unlike 71 (.aload_n 0) 1 72 := ⟨by decide +kernel, rfl⟩
theorem d_X8_unlike_72 : At cX8_unlike 72 (.getfield 56) 3 75 := ⟨by decide +kernel, rfl⟩
theorem d_X8_unlike_75 : At cX8_unlike 75 (.iload_n 1) 1 76 := ⟨by decide +kernel, rfl⟩
theorem d_X8_unlike_76 : At cX8_unlike 76 (.iload 6) 2 78 := ⟨by decide +kernel, rfl⟩
theorem d_X8_unlike_78 : At cX8_unlike 78 (.iload_n 3) 1 79 := ⟨by decide +kernel, rfl⟩
theorem d_X8_unlike_79 : At cX8_unlike 79 (.invokevirtual 115) 3 82 := ⟨by decide +kernel, rfl⟩
theorem d_X8_unlike_82 : At cX8_unlike 82 (.invokestatic 119) 3 85 := ⟨by decide +kernel, rfl⟩
theorem d_X8_unlike_85 : Br cX8_unlike 85 (.if_icmp .eq 15) (15) 88 100 := ⟨by decide +kernel, rfl, rfl⟩
theorem d_X8_unlike_88 : At cX8_unlike 88 (.iload 4) 2 90 := ⟨by decide +kernel, rfl⟩
theorem d_X8_unlike_90 : At cX8_unlike 90 (.iconst 1) 1 91 := ⟨by decide +kernel, rfl⟩
theorem d_X8_unlike_91 : Br cX8_unlike 91 (.if_icmp .ne 6) (6) 94 97 := ⟨by decide +kernel, rfl, rfl⟩
theorem d_X8_unlike_94 : At cX8_unlike 94 (.iload 6) 2 96 := ⟨by decide +kernel, rfl⟩
theorem d_X8_unlike_96 : Go cX8_unlike 96 (.ireturn) 1 := (by decide +kernel : decode cX8_unlike 96 = .ok (.ireturn, 1))
theorem d_X8_unlike_97 : At cX8_unlike 97 (.iinc 5 1) 3 100 := ⟨by decide +kernel, rfl⟩
theorem d_X8_unlike_100 : At cX8_unlike 100 (.iinc 6 1) 3 103 := ⟨by decide +kernel, rfl⟩
theorem d_X8_unlike_103 : Br cX8_unlike 103 (.goto (-60)) (-60) 106 43 := ⟨by decide +kernel, rfl, rfl⟩
theorem d_X8_unlike_106 : At cX8_unlike 106 (.iload 4) 2 108 := ⟨by decide +kernel, rfl⟩
theorem d_X8_unlike_108 : At cX8_unlike 108 (.iconst 1) 1 109 := ⟨by decide +kernel, rfl⟩
theorem d_X8_unlike_109 : Br cX8_unlike 109 (.if_icmp .ne 8) (8) 112 117 := ⟨by decide +kernel, rfl, rfl⟩
theorem d_X8_unlike_112 : At cX8_unlike 112 (.bipush (-6)) 2 114 := ⟨by decide +kernel, rfl⟩
theorem d_X8_unlike_114 : Br cX8_unlike 114 (.goto 5) (5) 117 119 := ⟨by decide +kernel, rfl, rfl⟩
theorem d_X8_unlike_117 : At cX8_unlike 117 (.iload 5) 2 119 := ⟨by decide +kernel, rfl⟩
theorem d_X8_unlike_119 : Go cX8_unlike 119 (.ireturn) 1 := (by decide +kernel : decode cX8_unlike 119 = .ok (.ireturn, 1))
theorem d_X8_told_0 : At cX8_told 0 (.iload_n 1) 1 1 := ⟨by decide +kernel, rfl⟩
theorem d_X8_told_1 : Br cX8_told 1 (.ifCond .lt 8) (8) 4 9 := ⟨by decide +kernel, rfl, rfl⟩
theorem d_X8_told_4 : At cX8_told 4 (.iload_n 1) 1 5 := ⟨by decide +kernel, rfl⟩
theorem d_X8_told_5 : At cX8_told 5 (.iconst 4) 1 6 := ⟨by decide +kernel, rfl⟩
theorem d_X8_told_6 : Br cX8_told 6 (.if_icmp .le 6) (6) 9 12 := ⟨by decide +kernel, rfl, rfl⟩
theorem d_X8_told_9 : At cX8_told 9 (.bipush (-2)) 2 11 := ⟨by decide +kernel, rfl⟩
theorem d_X8_told_11 : Go cX8_told 11 (.ireturn) 1 := (by decide +kernel : decode cX8_told 11 = .ok (.ireturn, 1))
theorem d_X8_told_12 : At cX8_told 12 (.iload_n 1) 1 13 := ⟨by decide +kernel, rfl⟩
theorem d_X8_told_13 : Br cX8_told 13 (.ifCond .ne 13) (13) 16 26 := ⟨by decide +kernel, rfl, rfl⟩
theorem d_X8_told_16 : At cX8_told 16 (.aload_n 0) 1 17 := ⟨by decide +kernel, rfl⟩
theorem d_X8_told_17 : At cX8_told 17 (.getfield 12) 3 20 := ⟨by decide +kernel, rfl⟩
theorem d_X8_told_20 : At cX8_told 20 (.invokevirtual 68) 3 23 := ⟨by decide +kernel, rfl⟩
theorem d_X8_told_23 : Br cX8_told 23 (.goto 13) (13) 26 36 := ⟨by decide +kernel, rfl, rfl⟩
theorem d_X8_told_26 : At cX8_told 26 (.aload_n 0) 1 27 := ⟨by decide +kernel, rfl⟩
theorem d_X8_told_27 : At cX8_told 27 (.getfield 26) 3 30 := ⟨by decide +kernel, rfl⟩
theorem d_X8_told_30 : At cX8_told 30 (.iload_n 1) 1 31 := ⟨by decide +kernel, rfl⟩
theorem d_X8_told_31 : At cX8_told 31 (.iconst 1) 1 32 := ⟨by decide +kernel, rfl⟩
theorem d_X8_told_32 : At cX8_told 32 (.isub) 1 33 := ⟨by decide +kernel, rfl⟩
theorem d_X8_told_33 : At cX8_told 33 (.invokevirtual 89) 3 36 := ⟨by decide +kernel, rfl⟩
theorem d_X8_told_36 : Go cX8_told 36 (.ireturn) 1 := (by decide +kernel : decode cX8_told 36 = .ok (.ireturn, 1))
theorem d_X8_isFunction_0 : At cX8_isFunction 0 (.iload_n 0) 1 1 := ⟨by decide +kernel, rfl⟩
theorem d_X8_isFunction_1 : Br cX8_isFunction 1 (.ifCond .lt 12) (12) 4 13 := ⟨by decide +kernel, rfl, rfl⟩
theorem d_X8_isFunction_4 : At cX8_isFunction 4 (.iload_n 0) 1 5 := ⟨by decide +kernel, rfl⟩
theorem d_X8_isFunction_5 : At cX8_isFunction 5 (.iconst 4) 1 6 := ⟨by decide +kernel, rfl⟩
theorem d_X8_isFunction_6 : Br cX8_isFunction 6 (.if_icmp .ge 7) (7) 9 13 := ⟨by decide +kernel, rfl, rfl⟩
theorem d_X8_isFunction_9 : At cX8_isFunction 9 (.iconst 1) 1 10 := ⟨by decide +kernel, rfl⟩
theorem d_X8_isFunction_10 : Br cX8_isFunction 10 (.goto 4) (4) 13 14 := ⟨by decide +kernel, rfl, rfl⟩
theorem d_X8_isFunction_13 : At cX8_isFunction 13 (.iconst 0) 1 14 := ⟨by decide +kernel, rfl⟩
theorem d_X8_isFunction_14 : Go cX8_isFunction 14 (.ireturn) 1 := (by decide +kernel : decode cX8_isFunction 14 = .ok (.ireturn, 1))
theorem d_X8_hasArgument_0 : At cX8_hasArgument 0 (.iload_n 0) 1 1 := ⟨by decide +kernel, rfl⟩
theorem d_X8_hasArgument_1 : At cX8_hasArgument 1 (.invokestatic 75) 3 4 := ⟨by decide +kernel, rfl⟩
theorem d_X8_hasArgument_4 : Br cX8_hasArgument 4 (.ifCond .eq 20) (20) 7 24 := ⟨by decide +kernel, rfl, rfl⟩
theorem d_X8_hasArgument_7 : At cX8_hasArgument 7 (.iload_n 1) 1 8 := ⟨by decide +kernel, rfl⟩
theorem d_X8_hasArgument_8 : Br cX8_hasArgument 8 (.ifCond .lt 16) (16) 11 24 := ⟨by decide +kernel, rfl, rfl⟩
theorem d_X8_hasArgument_11 : At cX8_hasArgument 11 (.iload_n 1) 1 12 := ⟨by decide +kernel, rfl⟩
theorem d_X8_hasArgument_12 : At cX8_hasArgument 12 (.getstatic 165) 3 15 := ⟨by decide +kernel, rfl⟩
theorem d_X8_hasArgument_15 : At cX8_hasArgument 15 (.iload_n 0) 1 16 := ⟨by decide +kernel, rfl⟩
theorem d_X8_hasArgument_16 : At cX8_hasArgument 16 (.iaload) 1 17 := ⟨by decide +kernel, rfl⟩
theorem d_X8_hasArgument_17 : Br cX8_hasArgument 17 (.if_icmp .ge 7) (7) 20 24 := ⟨by decide +kernel, rfl, rfl⟩
theorem d_X8_hasArgument_20 : At cX8_hasArgument 20 (.iconst 1) 1 21 := ⟨by decide +kernel, rfl⟩
theorem d_X8_hasArgument_21 : Br cX8_hasArgument 21 (.goto 4) (4) 24 25 := ⟨by decide +kernel, rfl, rfl⟩
theorem d_X8_hasArgument_24 : At cX8_hasArgument 24 (.iconst 0) 1 25 := ⟨by decide +kernel, rfl⟩
theorem d_X8_hasArgument_25 : Go cX8_hasArgument 25 (.ireturn) 1 := (by decide +kernel : decode cX8_hasArgument 25 = .ok (.ireturn, 1))
theorem d_X8_hasNode_0 : At cX8_hasNode 0 (.iload_n 1) 1 1 := ⟨by decide +kernel, rfl⟩
theorem d_X8_hasNode_1 : At cX8_hasNode 1 (.invokestatic 75) 3 4 := ⟨by decide +kernel, rfl⟩
theorem d_X8_hasNode_4 : Br cX8_hasNode 4 (.ifCond .eq 23) (23) 7 27 := ⟨by decide +kernel, rfl, rfl⟩
theorem d_X8_hasNode_7 : At cX8_hasNode 7 (.iload_n 2) 1 8 := ⟨by decide +kernel, rfl⟩
theorem d_X8_hasNode_8 : Br cX8_hasNode 8 (.ifCond .lt 19) (19) 11 27 := ⟨by decide +kernel, rfl, rfl⟩
theorem d_X8_hasNode_11 : At cX8_hasNode 11 (.iload_n 2) 1 12 := ⟨by decide +kernel, rfl⟩
theorem d_X8_hasNode_12 : At cX8_hasNode 12 (.aload_n 0) 1 13 := ⟨by decide +kernel, rfl⟩
theorem d_X8_hasNode_13 : At cX8_hasNode 13 (.getfield 26) 3 16 := ⟨by decide +kernel, rfl⟩
theorem d_X8_hasNode_16 : At cX8_hasNode 16 (.iload_n 1) 1 17 := ⟨by decide +kernel, rfl⟩
theorem d_X8_hasNode_17 : At cX8_hasNode 17 (.invokevirtual 89) 3 20 := ⟨by decide +kernel, rfl⟩
theorem d_X8_hasNode_20 : Br cX8_hasNode 20 (.if_icmp .ge 7) (7) 23 27 := ⟨by decide +kernel, rfl, rfl⟩
theorem d_X8_hasNode_23 : At cX8_hasNode 23 (.iconst 1) 1 24 := ⟨by decide +kernel, rfl⟩
theorem d_X8_hasNode_24 : Br cX8_hasNode 24 (.goto 4) (4) 27 28 := ⟨by decide +kernel, rfl, rfl⟩
theorem d_X8_hasNode_27 : At cX8_hasNode 27 (.iconst 0) 1 28 := ⟨by decide +kernel, rfl⟩
theorem d_X8_hasNode_28 : Go cX8_hasNode 28 (.ireturn) 1 := (by decide +kernel : decode cX8_hasNode 28 = .ok (.ireturn, 1))
theorem d_X8_isWay_0 : At cX8_isWay 0 (.iload_n 0) 1 1 := ⟨by decide +kernel, rfl⟩
theorem d_X8_isWay_1 : Br cX8_isWay 1 (.ifCond .lt 12) (12) 4 13 := ⟨by decide +kernel, rfl, rfl⟩
theorem d_X8_isWay_4 : At cX8_isWay 4 (.iload_n 0) 1 5 := ⟨by decide +kernel, rfl⟩
theorem d_X8_isWay_5 : At cX8_isWay 5 (.iconst 4) 1 6 := ⟨by decide +kernel, rfl⟩
theorem d_X8_isWay_6 : Br cX8_isWay 6 (.if_icmp .ge 7) (7) 9 13 := ⟨by decide +kernel, rfl, rfl⟩
theorem d_X8_isWay_9 : At cX8_isWay 9 (.iconst 1) 1 10 := ⟨by decide +kernel, rfl⟩
theorem d_X8_isWay_10 : Br cX8_isWay 10 (.goto 4) (4) 13 14 := ⟨by decide +kernel, rfl, rfl⟩
theorem d_X8_isWay_13 : At cX8_isWay 13 (.iconst 0) 1 14 := ⟨by decide +kernel, rfl⟩
theorem d_X8_isWay_14 : Go cX8_isWay 14 (.ireturn) 1 := (by decide +kernel : decode cX8_isWay 14 = .ok (.ireturn, 1))
theorem d_X8_isPlace_0 : At cX8_isPlace 0 (.iload_n 0) 1 1 := ⟨by decide +kernel, rfl⟩
theorem d_X8_isPlace_1 : Br cX8_isPlace 1 (.ifCond .lt 13) (13) 4 14 := ⟨by decide +kernel, rfl, rfl⟩
theorem d_X8_isPlace_4 : At cX8_isPlace 4 (.iload_n 0) 1 5 := ⟨by decide +kernel, rfl⟩
theorem d_X8_isPlace_5 : At cX8_isPlace 5 (.bipush 120) 2 7 := ⟨by decide +kernel, rfl⟩
theorem d_X8_isPlace_7 : Br cX8_isPlace 7 (.if_icmp .ge 7) (7) 10 14 := ⟨by decide +kernel, rfl, rfl⟩
theorem d_X8_isPlace_10 : At cX8_isPlace 10 (.iconst 1) 1 11 := ⟨by decide +kernel, rfl⟩
theorem d_X8_isPlace_11 : Br cX8_isPlace 11 (.goto 4) (4) 14 15 := ⟨by decide +kernel, rfl, rfl⟩
theorem d_X8_isPlace_14 : At cX8_isPlace 14 (.iconst 0) 1 15 := ⟨by decide +kernel, rfl⟩
theorem d_X8_isPlace_15 : Go cX8_isPlace 15 (.ireturn) 1 := (by decide +kernel : decode cX8_isPlace 15 = .ok (.ireturn, 1))
theorem d_X8_asAnswer_0 : At cX8_asAnswer 0 (.iload_n 0) 1 1 := ⟨by decide +kernel, rfl⟩
theorem d_X8_asAnswer_1 : Br cX8_asAnswer 1 (.ifCond .eq 7) (7) 4 8 := ⟨by decide +kernel, rfl, rfl⟩
theorem d_X8_asAnswer_4 : At cX8_asAnswer 4 (.iconst 1) 1 5 := ⟨by decide +kernel, rfl⟩
theorem d_X8_asAnswer_5 : Br cX8_asAnswer 5 (.goto 4) (4) 8 9 := ⟨by decide +kernel, rfl, rfl⟩
theorem d_X8_asAnswer_8 : At cX8_asAnswer 8 (.iconst 0) 1 9 := ⟨by decide +kernel, rfl⟩
theorem d_X8_asAnswer_9 : Go cX8_asAnswer 9 (.ireturn) 1 := (by decide +kernel : decode cX8_asAnswer 9 = .ok (.ireturn, 1))
theorem d_X8_argumentsOf_0 : At cX8_argumentsOf 0 (.iload_n 0) 1 1 := ⟨by decide +kernel, rfl⟩
theorem d_X8_argumentsOf_1 : At cX8_argumentsOf 1 (.invokestatic 75) 3 4 := ⟨by decide +kernel, rfl⟩
theorem d_X8_argumentsOf_4 : Br cX8_argumentsOf 4 (.ifCond .eq 11) (11) 7 15 := ⟨by decide +kernel, rfl, rfl⟩
theorem d_X8_argumentsOf_7 : At cX8_argumentsOf 7 (.getstatic 165) 3 10 := ⟨by decide +kernel, rfl⟩
theorem d_X8_argumentsOf_10 : At cX8_argumentsOf 10 (.iload_n 0) 1 11 := ⟨by decide +kernel, rfl⟩
theorem d_X8_argumentsOf_11 : At cX8_argumentsOf 11 (.iaload) 1 12 := ⟨by decide +kernel, rfl⟩
theorem d_X8_argumentsOf_12 : Br cX8_argumentsOf 12 (.goto 4) (4) 15 16 := ⟨by decide +kernel, rfl, rfl⟩
theorem d_X8_argumentsOf_15 : At cX8_argumentsOf 15 (.iconst 0) 1 16 := ⟨by decide +kernel, rfl⟩
theorem d_X8_argumentsOf_16 : Go cX8_argumentsOf 16 (.ireturn) 1 := (by decide +kernel : decode cX8_argumentsOf 16 = .ok (.ireturn, 1))
theorem d_X8_allArguments_0 : At cX8_allArguments 0 (.iconst 1) 1 1 := ⟨by decide +kernel, rfl⟩
theorem d_X8_allArguments_1 : At cX8_allArguments 1 (.iload_n 0) 1 2 := ⟨by decide +kernel, rfl⟩
theorem d_X8_allArguments_2 : At cX8_allArguments 2 (.invokestatic 168) 3 5 := ⟨by decide +kernel, rfl⟩
theorem d_X8_allArguments_5 : At cX8_allArguments 5 (.ishl) 1 6 := ⟨by decide +kernel, rfl⟩
theorem d_X8_allArguments_6 : At cX8_allArguments 6 (.iconst 1) 1 7 := ⟨by decide +kernel, rfl⟩
theorem d_X8_allArguments_7 : At cX8_allArguments 7 (.isub) 1 8 := ⟨by decide +kernel, rfl⟩
theorem d_X8_allArguments_8 : Go cX8_allArguments 8 (.ireturn) 1 := (by decide +kernel : decode cX8_allArguments 8 = .ok (.ireturn, 1))
theorem d_X8_shiftOf_0 : At cX8_shiftOf 0 (.iconst 3) 1 1 := ⟨by decide +kernel, rfl⟩
theorem d_X8_shiftOf_1 : At cX8_shiftOf 1 (.iload_n 0) 1 2 := ⟨by decide +kernel, rfl⟩
theorem d_X8_shiftOf_2 : At cX8_shiftOf 2 (.invokestatic 168) 3 5 := ⟨by decide +kernel, rfl⟩
theorem d_X8_shiftOf_5 : At cX8_shiftOf 5 (.iconst 1) 1 6 := ⟨by decide +kernel, rfl⟩
theorem d_X8_shiftOf_6 : At cX8_shiftOf 6 (.isub) 1 7 := ⟨by decide +kernel, rfl⟩
theorem d_X8_shiftOf_7 : At cX8_shiftOf 7 (.iload_n 1) 1 8 := ⟨by decide +kernel, rfl⟩
theorem d_X8_shiftOf_8 : At cX8_shiftOf 8 (.isub) 1 9 := ⟨by decide +kernel, rfl⟩
theorem d_X8_shiftOf_9 : At cX8_shiftOf 9 (.imul) 1 10 := ⟨by decide +kernel, rfl⟩
theorem d_X8_shiftOf_10 : Go cX8_shiftOf 10 (.ireturn) 1 := (by decide +kernel : decode cX8_shiftOf 10 = .ok (.ireturn, 1))
theorem d_X8_numbersTold_0 : At cX8_numbersTold 0 (.iconst 0) 1 1 := ⟨by decide +kernel, rfl⟩
theorem d_X8_numbersTold_1 : At cX8_numbersTold 1 (.istore_n 2) 1 2 := ⟨by decide +kernel, rfl⟩
theorem d_X8_numbersTold_2 : At cX8_numbersTold 2 (.iconst 0) 1 3 := ⟨by decide +kernel, rfl⟩
theorem d_X8_numbersTold_3 : At cX8_numbersTold 3 (.istore_n 3) 1 4 := ⟨by decide +kernel, rfl⟩
theorem d_X8_numbersTold_4 : At cX8_numbersTold 4 (.iload_n 3) 1 5 := ⟨by decide +kernel, rfl⟩
theorem d_X8_numbersTold_5 : At cX8_numbersTold 5 (.iload_n 1) 1 6 := ⟨by decide +kernel, rfl⟩
theorem d_X8_numbersTold_6 : At cX8_numbersTold 6 (.invokestatic 168) 3 9 := ⟨by decide +kernel, rfl⟩
theorem d_X8_numbersTold_9 : Br cX8_numbersTold 9 (.if_icmp .ge 25) (25) 12 34 := ⟨by decide +kernel, rfl, rfl⟩
theorem d_X8_numbersTold_12 : At cX8_numbersTold 12 (.iload_n 2) 1 13 := ⟨by decide +kernel, rfl⟩
theorem d_X8_numbersTold_13 : At cX8_numbersTold 13 (.bipush 9) 2 15 := ⟨by decide +kernel, rfl⟩
theorem d_X8_numbersTold_15 : At cX8_numbersTold 15 (.imul) 1 16 := ⟨by decide +kernel, rfl⟩
theorem d_X8_numbersTold_16 : At cX8_numbersTold 16 (.iload_n 0) 1 17 := ⟨by decide +kernel, rfl⟩
theorem d_X8_numbersTold_17 : At cX8_numbersTold 17 (.iload_n 1) 1 18 := ⟨by decide +kernel, rfl⟩
theorem d_X8_numbersTold_18 : At cX8_numbersTold 18 (.iload_n 3) 1 19 := ⟨by decide +kernel, rfl⟩
theorem d_X8_numbersTold_19 : At cX8_numbersTold 19 (.invokestatic 162) 3 22 := ⟨by decide +kernel, rfl⟩
theorem d_X8_numbersTold_22 : At cX8_numbersTold 22 (.ishr) 1 23 := ⟨by decide +kernel, rfl⟩
theorem d_X8_numbersTold_23 : At cX8_numbersTold 23 (.bipush 7) 2 25 := ⟨by decide +kernel, rfl⟩
theorem d_X8_numbersTold_25 : At cX8_numbersTold 25 (.iand) 1 26 := ⟨by decide +kernel, rfl⟩
theorem d_X8_numbersTold_26 : At cX8_numbersTold 26 (.iadd) 1 27 := ⟨by decide +kernel, rfl⟩
theorem d_X8_numbersTold_27 : At cX8_numbersTold 27 (.istore_n 2) 1 28 := ⟨by decide +kernel, rfl⟩
theorem d_X8_numbersTold_28 : At cX8_numbersTold 28 (.iinc 3 1) 3 31 := ⟨by decide +kernel, rfl⟩
theorem d_X8_numbersTold_31 : Br cX8_numbersTold 31 (.goto (-27)) (-27) 34 4 := ⟨by decide +kernel, rfl, rfl⟩
theorem d_X8_numbersTold_34 : At cX8_numbersTold 34 (.iload_n 2) 1 35 := ⟨by decide +kernel, rfl⟩
theorem d_X8_numbersTold_35 : Go cX8_numbersTold 35 (.ireturn) 1 := (by decide +kernel : decode cX8_numbersTold 35 = .ok (.ireturn, 1))
theorem d_X8_sortOfEnd_0 : At cX8_sortOfEnd 0 (.iload_n 0) 1 1 := ⟨by decide +kernel, rfl⟩
theorem d_X8_sortOfEnd_1 : At cX8_sortOfEnd 1 (.bipush 8) 2 3 := ⟨by decide +kernel, rfl⟩
theorem d_X8_sortOfEnd_3 : Br cX8_sortOfEnd 3 (.if_icmp .ge 7) (7) 6 10 := ⟨by decide +kernel, rfl, rfl⟩
theorem d_X8_sortOfEnd_6 : At cX8_sortOfEnd 6 (.iconst 0) 1 7 := ⟨by decide +kernel, rfl⟩
theorem d_X8_sortOfEnd_7 : Br cX8_sortOfEnd 7 (.goto 9) (9) 10 16 := ⟨by decide +kernel, rfl, rfl⟩
theorem d_X8_sortOfEnd_10 : At cX8_sortOfEnd 10 (.iload_n 0) 1 11 := ⟨by decide +kernel, rfl⟩
theorem d_X8_sortOfEnd_11 : At cX8_sortOfEnd 11 (.bipush 8) 2 13 := ⟨by decide +kernel, rfl⟩
theorem d_X8_sortOfEnd_13 : At cX8_sortOfEnd 13 (.isub) 1 14 := ⟨by decide +kernel, rfl⟩
theorem d_X8_sortOfEnd_14 : At cX8_sortOfEnd 14 (.iconst 1) 1 15 := ⟨by decide +kernel, rfl⟩
theorem d_X8_sortOfEnd_15 : At cX8_sortOfEnd 15 (.iadd) 1 16 := ⟨by decide +kernel, rfl⟩
theorem d_X8_sortOfEnd_16 : Go cX8_sortOfEnd 16 (.ireturn) 1 := (by decide +kernel : decode cX8_sortOfEnd 16 = .ok (.ireturn, 1))
theorem d_X9_init_0 : At cX9_init 0 (.aload_n 0) 1 1 := ⟨by decide +kernel, rfl⟩
theorem d_X9_init_1 : At cX9_init 1 (.invokespecial 1) 3 4 := ⟨by decide +kernel, rfl⟩
theorem d_X9_init_4 : At cX9_init 4 (.aload_n 0) 1 5 := ⟨by decide +kernel, rfl⟩
theorem d_X9_init_5 : At cX9_init 5 (.sipush 150) 3 8 := ⟨by decide +kernel, rfl⟩
theorem d_X9_init_8 : At cX9_init 8 (.newarray .int) 2 10 := ⟨by decide +kernel, rfl⟩
theorem d_X9_init_10 : At cX9_init 10 (.putfield 7) 3 13 := ⟨by decide +kernel, rfl⟩
theorem d_X9_init_13 : At cX9_init 13 (.aload_n 0) 1 14 := ⟨by decide +kernel, rfl⟩
theorem d_X9_init_14 : At cX9_init 14 (.sipush 150) 3 17 := ⟨by decide +kernel, rfl⟩
theorem d_X9_init_17 : At cX9_init 17 (.newarray .int) 2 19 := ⟨by decide +kernel, rfl⟩
theorem d_X9_init_19 : At cX9_init 19 (.putfield 13) 3 22 := ⟨by decide +kernel, rfl⟩
theorem d_X9_init_22 : At cX9_init 22 (.aload_n 0) 1 23 := ⟨by decide +kernel, rfl⟩
theorem d_X9_init_23 : At cX9_init 23 (.sipush 150) 3 26 := ⟨by decide +kernel, rfl⟩
theorem d_X9_init_26 : At cX9_init 26 (.newarray .int) 2 28 := ⟨by decide +kernel, rfl⟩
theorem d_X9_init_28 : At cX9_init 28 (.putfield 16) 3 31 := ⟨by decide +kernel, rfl⟩
theorem d_X9_init_31 : At cX9_init 31 (.aload_n 0) 1 32 := ⟨by decide +kernel, rfl⟩
theorem d_X9_init_32 : At cX9_init 32 (.iconst 5) 1 33 := ⟨by decide +kernel, rfl⟩
theorem d_X9_init_33 : At cX9_init 33 (.newarray .int) 2 35 := ⟨by decide +kernel, rfl⟩
theorem d_X9_init_35 : At cX9_init 35 (.putfield 19) 3 38 := ⟨by decide +kernel, rfl⟩
theorem d_X9_init_38 : At cX9_init 38 (.aload_n 0) 1 39 := ⟨by decide +kernel, rfl⟩
theorem d_X9_init_39 : At cX9_init 39 (.bipush 32) 2 41 := ⟨by decide +kernel, rfl⟩
theorem d_X9_init_41 : At cX9_init 41 (.newarray .int) 2 43 := ⟨by decide +kernel, rfl⟩
theorem d_X9_init_43 : At cX9_init 43 (.putfield 22) 3 46 := ⟨by decide +kernel, rfl⟩
theorem d_X9_init_46 : At cX9_init 46 (.aload_n 0) 1 47 := ⟨by decide +kernel, rfl⟩
theorem d_X9_init_47 : At cX9_init 47 (.bipush 32) 2 49 := ⟨by decide +kernel, rfl⟩
theorem d_X9_init_49 : At cX9_init 49 (.newarray .int) 2 51 := ⟨by decide +kernel, rfl⟩
theorem d_X9_init_51 : At cX9_init 51 (.putfield 25) 3 54 := ⟨by decide +kernel, rfl⟩
theorem d_X9_init_54 : At cX9_init 54 (.aload_n 0) 1 55 := ⟨by decide +kernel, rfl⟩
theorem d_X9_init_55 : At cX9_init 55 (.iconst 4) 1 56 := ⟨by decide +kernel, rfl⟩
theorem d_X9_init_56 : At cX9_init 56 (.newarray .int) 2 58 := ⟨by decide +kernel, rfl⟩
theorem d_X9_init_58 : At cX9_init 58 (.putfield 28) 3 61 := ⟨by decide +kernel, rfl⟩
theorem d_X9_init_61 : At cX9_init 61 (.aload_n 0) 1 62 := ⟨by decide +kernel, rfl⟩
theorem d_X9_init_62 : At cX9_init 62 (.bipush 12) 2 64 := ⟨by decide +kernel, rfl⟩
theorem d_X9_init_64 : At cX9_init 64 (.newarray .int) 2 66 := ⟨by decide +kernel, rfl⟩
theorem d_X9_init_66 : At cX9_init 66 (.putfield 31) 3 69 := ⟨by decide +kernel, rfl⟩
theorem d_X9_init_69 : At cX9_init 69 (.aload_n 0) 1 70 := ⟨by decide +kernel, rfl⟩
theorem d_X9_init_70 : At cX9_init 70 (.bipush 30) 2 72 := ⟨by decide +kernel, rfl⟩
theorem d_X9_init_72 : At cX9_init 72 (.newarray .int) 2 74 := ⟨by decide +kernel, rfl⟩
theorem d_X9_init_74 : At cX9_init 74 (.putfield 34) 3 77 := ⟨by decide +kernel, rfl⟩
theorem d_X9_init_77 : At cX9_init 77 (.aload_n 0) 1 78 := ⟨by decide +kernel, rfl⟩
theorem d_X9_init_78 : At cX9_init 78 (.sipush 302) 3 81 := ⟨by decide +kernel, rfl⟩
theorem d_X9_init_81 : At cX9_init 81 (.newarray .int) 2 83 := ⟨by decide +kernel, rfl⟩
theorem d_X9_init_83 : At cX9_init 83 (.putfield 37) 3 86 := ⟨by decide +kernel, rfl⟩
theorem d_X9_init_86 : At cX9_init 86 (.aload_n 0) 1 87 := ⟨by decide +kernel, rfl⟩
theorem d_X9_init_87 : At cX9_init 87 (.sipush 906) 3 90 := ⟨by decide +kernel, rfl⟩
theorem d_X9_init_90 : At cX9_init 90 (.newarray .int) 2 92 := ⟨by decide +kernel, rfl⟩
theorem d_X9_init_92 : At cX9_init 92 (.putfield 40) 3 95 := ⟨by decide +kernel, rfl⟩
end
section
theorem d_X9_init_95 : At cX9_init 95 (.aload_n 0) 1 96 := ⟨by decide +kernel, rfl⟩
theorem d_X9_init_96 : At cX9_init 96 (.sipush 906) 3 99 := ⟨by decide +kernel, rfl⟩
theorem d_X9_init_99 : At cX9_init 99 (.newarray .int) 2 101 := ⟨by decide +kernel, rfl⟩
theorem d_X9_init_101 : At cX9_init 101 (.putfield 43) 3 104 := ⟨by decide +kernel, rfl⟩
theorem d_X9_init_104 : At cX9_init 104 (.aload_n 0) 1 105 := ⟨by decide +kernel, rfl⟩
theorem d_X9_init_105 : At cX9_init 105 (.sipush 906) 3 108 := ⟨by decide +kernel, rfl⟩
theorem d_X9_init_108 : At cX9_init 108 (.newarray .int) 2 110 := ⟨by decide +kernel, rfl⟩
theorem d_X9_init_110 : At cX9_init 110 (.putfield 46) 3 113 := ⟨by decide +kernel, rfl⟩
theorem d_X9_init_113 : At cX9_init 113 (.aload_n 0) 1 114 := ⟨by decide +kernel, rfl⟩
theorem d_X9_init_114 : At cX9_init 114 (.sipush 1000) 3 117 := ⟨by decide +kernel, rfl⟩
theorem d_X9_init_117 : At cX9_init 117 (.newarray .int) 2 119 := ⟨by decide +kernel, rfl⟩
theorem d_X9_init_119 : At cX9_init 119 (.putfield 49) 3 122 := ⟨by decide +kernel, rfl⟩
theorem d_X9_init_122 : At cX9_init 122 (.aload_n 0) 1 123 := ⟨by decide +kernel, rfl⟩
theorem d_X9_init_123 : At cX9_init 123 (.sipush 1000) 3 126 := ⟨by decide +kernel, rfl⟩
theorem d_X9_init_126 : At cX9_init 126 (.newarray .int) 2 128 := ⟨by decide +kernel, rfl⟩
theorem d_X9_init_128 : At cX9_init 128 (.putfield 52) 3 131 := ⟨by decide +kernel, rfl⟩
theorem d_X9_init_131 : At cX9_init 131 (.aload_n 0) 1 132 := ⟨by decide +kernel, rfl⟩
theorem d_X9_init_132 : At cX9_init 132 (.sipush 1000) 3 135 := ⟨by decide +kernel, rfl⟩
theorem d_X9_init_135 : At cX9_init 135 (.newarray .int) 2 137 := ⟨by decide +kernel, rfl⟩
theorem d_X9_init_137 : At cX9_init 137 (.putfield 55) 3 140 := ⟨by decide +kernel, rfl⟩
theorem d_X9_init_140 : At cX9_init 140 (.aload_n 0) 1 141 := ⟨by decide +kernel, rfl⟩
theorem d_X9_init_141 : At cX9_init 141 (.sipush 1000) 3 144 := ⟨by decide +kernel, rfl⟩
theorem d_X9_init_144 : At cX9_init 144 (.newarray .int) 2 146 := ⟨by decide +kernel, rfl⟩
theorem d_X9_init_146 : At cX9_init 146 (.putfield 58) 3 149 := ⟨by decide +kernel, rfl⟩
theorem d_X9_init_149 : At cX9_init 149 (.aload_n 0) 1 150 := ⟨by decide +kernel, rfl⟩
theorem d_X9_init_150 : At cX9_init 150 (.sipush 729) 3 153 := ⟨by decide +kernel, rfl⟩
theorem d_X9_init_153 : At cX9_init 153 (.newarray .int) 2 155 := ⟨by decide +kernel, rfl⟩
theorem d_X9_init_155 : At cX9_init 155 (.putfield 61) 3 158 := ⟨by decide +kernel, rfl⟩
theorem d_X9_init_158 : At cX9_init 158 (.iconst 0) 1 159 := ⟨by decide +kernel, rfl⟩
theorem d_X9_init_159 : At cX9_init 159 (.istore_n 1) 1 160 := ⟨by decide +kernel, rfl⟩
theorem d_X9_init_160 : At cX9_init 160 (.iload_n 1) 1 161 := ⟨by decide +kernel, rfl⟩
theorem d_X9_init_161 : At cX9_init 161 (.iconst 4) 1 162 := ⟨by decide +kernel, rfl⟩
theorem d_X9_init_162 : Br cX9_init 162 (.if_icmp .ge 37) (37) 165 199 := ⟨by decide +kernel, rfl, rfl⟩
theorem d_X9_init_165 : At cX9_init 165 (.aload_n 0) 1 166 := ⟨by decide +kernel, rfl⟩
theorem d_X9_init_166 : At cX9_init 166 (.getfield 7) 3 169 := ⟨by decide +kernel, rfl⟩
theorem d_X9_init_169 : At cX9_init 169 (.bipush 30) 2 171 := ⟨by decide +kernel, rfl⟩
theorem d_X9_init_171 : At cX9_init 171 (.iload_n 1) 1 172 := ⟨by decide +kernel, rfl⟩
theorem d_X9_init_172 : At cX9_init 172 (.imul) 1 173 := ⟨by decide +kernel, rfl⟩
theorem d_X9_init_173 : At cX9_init 173 (.bipush 33) 2 175 := ⟨by decide +kernel, rfl⟩
theorem d_X9_init_175 : At cX9_init 175 (.iastore) 1 176 := ⟨by decide +kernel, rfl⟩
theorem d_X9_init_176 : At cX9_init 176 (.aload_n 0) 1 177 := ⟨by decide +kernel, rfl⟩
theorem d_X9_init_177 : At cX9_init 177 (.getfield 13) 3 180 := ⟨by decide +kernel, rfl⟩
theorem d_X9_init_180 : At cX9_init 180 (.bipush 30) 2 182 := ⟨by decide +kernel, rfl⟩
theorem d_X9_init_182 : At cX9_init 182 (.iload_n 1) 1 183 := ⟨by decide +kernel, rfl⟩
theorem d_X9_init_183 : At cX9_init 183 (.imul) 1 184 := ⟨by decide +kernel, rfl⟩
theorem d_X9_init_184 : At cX9_init 184 (.iconst 1) 1 185 := ⟨by decide +kernel, rfl⟩
theorem d_X9_init_185 : At cX9_init 185 (.iastore) 1 186 := ⟨by decide +kernel, rfl⟩
theorem d_X9_init_186 : At cX9_init 186 (.aload_n 0) 1 187 := ⟨by decide +kernel, rfl⟩
theorem d_X9_init_187 : At cX9_init 187 (.getfield 19) 3 190 := ⟨by decide +kernel, rfl⟩
theorem d_X9_init_190 : At cX9_init 190 (.iload_n 1) 1 191 := ⟨by decide +kernel, rfl⟩
theorem d_X9_init_191 : At cX9_init 191 (.iconst 1) 1 192 := ⟨by decide +kernel, rfl⟩
theorem d_X9_init_192 : At cX9_init 192 (.iastore) 1 193 := ⟨by decide +kernel, rfl⟩
theorem d_X9_init_193 : At cX9_init 193 (.iinc 1 1) 3 196 := ⟨by decide +kernel, rfl⟩
theorem d_X9_init_196 : Br cX9_init 196 (.goto (-36)) (-36) 199 160 := ⟨by decide +kernel, rfl, rfl⟩
theorem d_X9_init_199 : At cX9_init 199 (.aload_n 0) 1 200 := ⟨by decide +kernel, rfl⟩
theorem d_X9_init_200 : At cX9_init 200 (.invokevirtual 64) 3 203 := ⟨by decide +kernel, rfl⟩
theorem d_X9_init_203 : Go cX9_init 203 (.return_) 1 := (by decide +kernel : decode cX9_init 203 = .ok (.return_, 1))
theorem d_X9_in_0 : At cX9_in 0 (.lload_n 0) 1 1 := ⟨by decide +kernel, rfl⟩
theorem d_X9_in_1 : At cX9_in 1 (.lload_n 2) 1 2 := ⟨by decide +kernel, rfl⟩
theorem d_X9_in_2 : At cX9_in 2 (.lcmp) 1 3 := ⟨by decide +kernel, rfl⟩
theorem d_X9_in_3 : Br cX9_in 3 (.ifCond .lt 14) (14) 6 17 := ⟨by decide +kernel, rfl, rfl⟩
theorem d_X9_in_6 : At cX9_in 6 (.lload_n 0) 1 7 := ⟨by decide +kernel, rfl⟩
theorem d_X9_in_7 : At cX9_in 7 (.lload 4) 2 9 := ⟨by decide +kernel, rfl⟩
theorem d_X9_in_9 : At cX9_in 9 (.lcmp) 1 10 := ⟨by decide +kernel, rfl⟩
theorem d_X9_in_10 : Br cX9_in 10 (.ifCond .gt 7) (7) 13 17 := ⟨by decide +kernel, rfl, rfl⟩
theorem d_X9_in_13 : At cX9_in 13 (.iconst 1) 1 14 := ⟨by decide +kernel, rfl⟩
theorem d_X9_in_14 : Br cX9_in 14 (.goto 4) (4) 17 18 := ⟨by decide +kernel, rfl, rfl⟩
theorem d_X9_in_17 : At cX9_in 17 (.iconst 0) 1 18 := ⟨by decide +kernel, rfl⟩
theorem d_X9_in_18 : Go cX9_in 18 (.ireturn) 1 := (by decide +kernel : decode cX9_in 18 = .ok (.ireturn, 1))
theorem d_X9_isFunction_0 : At cX9_isFunction 0 (.iload_n 0) 1 1 := ⟨by decide +kernel, rfl⟩
theorem d_X9_isFunction_1 : At cX9_isFunction 1 (.i2l) 1 2 := ⟨by decide +kernel, rfl⟩
theorem d_X9_isFunction_2 : At cX9_isFunction 2 (.lconst 0) 1 3 := ⟨by decide +kernel, rfl⟩
theorem d_X9_isFunction_3 : At cX9_isFunction 3 (.ldc2_w 67) 3 6 := ⟨by decide +kernel, rfl⟩
theorem d_X9_isFunction_6 : At cX9_isFunction 6 (.invokestatic 69) 3 9 := ⟨by decide +kernel, rfl⟩
theorem d_X9_isFunction_9 : Go cX9_isFunction 9 (.ireturn) 1 := (by decide +kernel : decode cX9_isFunction 9 = .ok (.ireturn, 1))
theorem d_X9_argumentsOf_0 : At cX9_argumentsOf 0 (.iload_n 0) 1 1 := ⟨by decide +kernel, rfl⟩
theorem d_X9_argumentsOf_1 : Br cX9_argumentsOf 1 (.ifCond .ne 7) (7) 4 8 := ⟨by decide +kernel, rfl, rfl⟩
theorem d_X9_argumentsOf_4 : At cX9_argumentsOf 4 (.iconst 1) 1 5 := ⟨by decide +kernel, rfl⟩
theorem d_X9_argumentsOf_5 : Br cX9_argumentsOf 5 (.goto 13) (13) 8 18 := ⟨by decide +kernel, rfl, rfl⟩
theorem d_X9_argumentsOf_8 : At cX9_argumentsOf 8 (.iload_n 0) 1 9 := ⟨by decide +kernel, rfl⟩
theorem d_X9_argumentsOf_9 : At cX9_argumentsOf 9 (.iconst 2) 1 10 := ⟨by decide +kernel, rfl⟩
theorem d_X9_argumentsOf_10 : Br cX9_argumentsOf 10 (.if_icmp .ne 7) (7) 13 17 := ⟨by decide +kernel, rfl, rfl⟩
theorem d_X9_argumentsOf_13 : At cX9_argumentsOf 13 (.iconst 3) 1 14 := ⟨by decide +kernel, rfl⟩
theorem d_X9_argumentsOf_14 : Br cX9_argumentsOf 14 (.goto 4) (4) 17 18 := ⟨by decide +kernel, rfl, rfl⟩
theorem d_X9_argumentsOf_17 : At cX9_argumentsOf 17 (.iconst 2) 1 18 := ⟨by decide +kernel, rfl⟩
theorem d_X9_argumentsOf_18 : Go cX9_argumentsOf 18 (.ireturn) 1 := (by decide +kernel : decode cX9_argumentsOf 18 = .ok (.ireturn, 1))
theorem d_X9_say_0 : At cX9_say 0 (.iload_n 1) 1 1 := ⟨by decide +kernel, rfl⟩
theorem d_X9_say_1 : At cX9_say 1 (.i2l) 1 2 := ⟨by decide +kernel, rfl⟩
theorem d_X9_say_2 : At cX9_say 2 (.ldc2_w 73) 3 5 := ⟨by decide +kernel, rfl⟩
theorem d_X9_say_5 : At cX9_say 5 (.ldc2_w 75) 3 8 := ⟨by decide +kernel, rfl⟩
theorem d_X9_say_8 : At cX9_say 8 (.invokestatic 69) 3 11 := ⟨by decide +kernel, rfl⟩
theorem d_X9_say_11 : Br cX9_say 11 (.ifCond .ne 6) (6) 14 17 := ⟨by decide +kernel, rfl, rfl⟩
theorem d_X9_say_14 : At cX9_say 14 (.bipush (-2)) 2 16 := ⟨by decide +kernel, rfl⟩
theorem d_X9_say_16 : Go cX9_say 16 (.ireturn) 1 := (by decide +kernel : decode cX9_say 16 = .ok (.ireturn, 1))
theorem d_X9_say_17 : At cX9_say 17 (.aload_n 0) 1 18 := ⟨by decide +kernel, rfl⟩
theorem d_X9_say_18 : At cX9_say 18 (.getfield 19) 3 21 := ⟨by decide +kernel, rfl⟩
theorem d_X9_say_21 : At cX9_say 21 (.iconst 4) 1 22 := ⟨by decide +kernel, rfl⟩
theorem d_X9_say_22 : At cX9_say 22 (.iaload) 1 23 := ⟨by decide +kernel, rfl⟩
theorem d_X9_say_23 : At cX9_say 23 (.bipush 30) 2 25 := ⟨by decide +kernel, rfl⟩
theorem d_X9_say_25 : Br cX9_say 25 (.if_icmp .ne 6) (6) 28 31 := ⟨by decide +kernel, rfl, rfl⟩
theorem d_X9_say_28 : At cX9_say 28 (.bipush (-4)) 2 30 := ⟨by decide +kernel, rfl⟩
theorem d_X9_say_30 : Go cX9_say 30 (.ireturn) 1 := (by decide +kernel : decode cX9_say 30 = .ok (.ireturn, 1))
theorem d_X9_say_31 : At cX9_say 31 (.aload_n 0) 1 32 := ⟨by decide +kernel, rfl⟩
theorem d_X9_say_32 : At cX9_say 32 (.getfield 7) 3 35 := ⟨by decide +kernel, rfl⟩
theorem d_X9_say_35 : At cX9_say 35 (.bipush 120) 2 37 := ⟨by decide +kernel, rfl⟩
theorem d_X9_say_37 : At cX9_say 37 (.aload_n 0) 1 38 := ⟨by decide +kernel, rfl⟩
theorem d_X9_say_38 : At cX9_say 38 (.getfield 19) 3 41 := ⟨by decide +kernel, rfl⟩
theorem d_X9_say_41 : At cX9_say 41 (.iconst 4) 1 42 := ⟨by decide +kernel, rfl⟩
theorem d_X9_say_42 : At cX9_say 42 (.iaload) 1 43 := ⟨by decide +kernel, rfl⟩
theorem d_X9_say_43 : At cX9_say 43 (.iadd) 1 44 := ⟨by decide +kernel, rfl⟩
theorem d_X9_say_44 : At cX9_say 44 (.iload_n 1) 1 45 := ⟨by decide +kernel, rfl⟩
theorem d_X9_say_45 : At cX9_say 45 (.iastore) 1 46 := ⟨by decide +kernel, rfl⟩
theorem d_X9_say_46 : At cX9_say 46 (.aload_n 0) 1 47 := ⟨by decide +kernel, rfl⟩
theorem d_X9_say_47 : At cX9_say 47 (.getfield 19) 3 50 := ⟨by decide +kernel, rfl⟩
theorem d_X9_say_50 : At cX9_say 50 (.iconst 4) 1 51 := ⟨by decide +kernel, rfl⟩
theorem d_X9_say_51 : At cX9_say 51 (.dup2) 1 52 := ⟨by decide +kernel, rfl⟩
theorem d_X9_say_52 : At cX9_say 52 (.iaload) 1 53 := ⟨by decide +kernel, rfl⟩
theorem d_X9_say_53 : At cX9_say 53 (.iconst 1) 1 54 := ⟨by decide +kernel, rfl⟩
theorem d_X9_say_54 : At cX9_say 54 (.iadd) 1 55 := ⟨by decide +kernel, rfl⟩
theorem d_X9_say_55 : At cX9_say 55 (.iastore) 1 56 := ⟨by decide +kernel, rfl⟩
theorem d_X9_say_56 : At cX9_say 56 (.aload_n 0) 1 57 := ⟨by decide +kernel, rfl⟩
theorem d_X9_say_57 : At cX9_say 57 (.getfield 19) 3 60 := ⟨by decide +kernel, rfl⟩
theorem d_X9_say_60 : At cX9_say 60 (.iconst 4) 1 61 := ⟨by decide +kernel, rfl⟩
theorem d_X9_say_61 : At cX9_say 61 (.iaload) 1 62 := ⟨by decide +kernel, rfl⟩
theorem d_X9_say_62 : Go cX9_say 62 (.ireturn) 1 := (by decide +kernel : decode cX9_say 62 = .ok (.ireturn, 1))
theorem d_X9_wipe_0 : At cX9_wipe 0 (.aload_n 0) 1 1 := ⟨by decide +kernel, rfl⟩
theorem d_X9_wipe_1 : At cX9_wipe 1 (.getfield 19) 3 4 := ⟨by decide +kernel, rfl⟩
theorem d_X9_wipe_4 : At cX9_wipe 4 (.iconst 4) 1 5 := ⟨by decide +kernel, rfl⟩
theorem d_X9_wipe_5 : At cX9_wipe 5 (.iaload) 1 6 := ⟨by decide +kernel, rfl⟩
theorem d_X9_wipe_6 : At cX9_wipe 6 (.istore_n 1) 1 7 := ⟨by decide +kernel, rfl⟩
theorem d_X9_wipe_7 : At cX9_wipe 7 (.aload_n 0) 1 8 := ⟨by decide +kernel, rfl⟩
theorem d_X9_wipe_8 : At cX9_wipe 8 (.getfield 19) 3 11 := ⟨by decide +kernel, rfl⟩
theorem d_X9_wipe_11 : At cX9_wipe 11 (.iconst 4) 1 12 := ⟨by decide +kernel, rfl⟩
theorem d_X9_wipe_12 : At cX9_wipe 12 (.iconst 0) 1 13 := ⟨by decide +kernel, rfl⟩
theorem d_X9_wipe_13 : At cX9_wipe 13 (.iastore) 1 14 := ⟨by decide +kernel, rfl⟩
theorem d_X9_wipe_14 : At cX9_wipe 14 (.iload_n 1) 1 15 := ⟨by decide +kernel, rfl⟩
theorem d_X9_wipe_15 : Go cX9_wipe 15 (.ireturn) 1 := (by decide +kernel : decode cX9_wipe 15 = .ok (.ireturn, 1))
theorem d_X9_calledBy_0 : At cX9_calledBy 0 (.iload_n 0) 1 1 := ⟨by decide +kernel, rfl⟩
theorem d_X9_calledBy_1 : At cX9_calledBy 1 (.bipush 102) 2 3 := ⟨by decide +kernel, rfl⟩
theorem d_X9_calledBy_3 : Br cX9_calledBy 3 (.if_icmp .ne 7) (7) 6 10 := ⟨by decide +kernel, rfl, rfl⟩
theorem d_X9_calledBy_6 : At cX9_calledBy 6 (.iconst 0) 1 7 := ⟨by decide +kernel, rfl⟩
theorem d_X9_calledBy_7 : Br cX9_calledBy 7 (.goto 35) (35) 10 42 := ⟨by decide +kernel, rfl, rfl⟩
theorem d_X9_calledBy_10 : At cX9_calledBy 10 (.iload_n 0) 1 11 := ⟨by decide +kernel, rfl⟩
theorem d_X9_calledBy_11 : At cX9_calledBy 11 (.bipush 103) 2 13 := ⟨by decide +kernel, rfl⟩
theorem d_X9_calledBy_13 : Br cX9_calledBy 13 (.if_icmp .ne 7) (7) 16 20 := ⟨by decide +kernel, rfl, rfl⟩
theorem d_X9_calledBy_16 : At cX9_calledBy 16 (.iconst 1) 1 17 := ⟨by decide +kernel, rfl⟩
theorem d_X9_calledBy_17 : Br cX9_calledBy 17 (.goto 25) (25) 20 42 := ⟨by decide +kernel, rfl, rfl⟩
theorem d_X9_calledBy_20 : At cX9_calledBy 20 (.iload_n 0) 1 21 := ⟨by decide +kernel, rfl⟩
theorem d_X9_calledBy_21 : At cX9_calledBy 21 (.bipush 104) 2 23 := ⟨by decide +kernel, rfl⟩
theorem d_X9_calledBy_23 : Br cX9_calledBy 23 (.if_icmp .ne 7) (7) 26 30 := ⟨by decide +kernel, rfl, rfl⟩
theorem d_X9_calledBy_26 : At cX9_calledBy 26 (.iconst 2) 1 27 := ⟨by decide +kernel, rfl⟩
theorem d_X9_calledBy_27 : Br cX9_calledBy 27 (.goto 15) (15) 30 42 := ⟨by decide +kernel, rfl, rfl⟩
theorem d_X9_calledBy_30 : At cX9_calledBy 30 (.iload_n 0) 1 31 := ⟨by decide +kernel, rfl⟩
theorem d_X9_calledBy_31 : At cX9_calledBy 31 (.bipush 107) 2 33 := ⟨by decide +kernel, rfl⟩
theorem d_X9_calledBy_33 : Br cX9_calledBy 33 (.if_icmp .ne 7) (7) 36 40 := ⟨by decide +kernel, rfl, rfl⟩
theorem d_X9_calledBy_36 : At cX9_calledBy 36 (.iconst 3) 1 37 := ⟨by decide +kernel, rfl⟩
theorem d_X9_calledBy_37 : Br cX9_calledBy 37 (.goto 5) (5) 40 42 := ⟨by decide +kernel, rfl, rfl⟩
theorem d_X9_calledBy_40 : At cX9_calledBy 40 (.bipush (-6)) 2 42 := ⟨by decide +kernel, rfl⟩
theorem d_X9_calledBy_42 : Go cX9_calledBy 42 (.ireturn) 1 := (by decide +kernel : decode cX9_calledBy 42 = .ok (.ireturn, 1))
theorem d_X9_isAct_0 : At cX9_isAct 0 (.iload_n 0) 1 1 := ⟨by decide +kernel, rfl⟩
theorem d_X9_isAct_1 : At cX9_isAct 1 (.bipush 43) 2 3 := ⟨by decide +kernel, rfl⟩
theorem d_X9_isAct_3 : Br cX9_isAct 3 (.if_icmp .eq 21) (21) 6 24 := ⟨by decide +kernel, rfl, rfl⟩
theorem d_X9_isAct_6 : At cX9_isAct 6 (.iload_n 0) 1 7 := ⟨by decide +kernel, rfl⟩
theorem d_X9_isAct_7 : At cX9_isAct 7 (.bipush 45) 2 9 := ⟨by decide +kernel, rfl⟩
theorem d_X9_isAct_9 : Br cX9_isAct 9 (.if_icmp .eq 15) (15) 12 24 := ⟨by decide +kernel, rfl, rfl⟩
theorem d_X9_isAct_12 : At cX9_isAct 12 (.iload_n 0) 1 13 := ⟨by decide +kernel, rfl⟩
theorem d_X9_isAct_13 : At cX9_isAct 13 (.bipush 42) 2 15 := ⟨by decide +kernel, rfl⟩
theorem d_X9_isAct_15 : Br cX9_isAct 15 (.if_icmp .eq 9) (9) 18 24 := ⟨by decide +kernel, rfl, rfl⟩
theorem d_X9_isAct_18 : At cX9_isAct 18 (.iload_n 0) 1 19 := ⟨by decide +kernel, rfl⟩
theorem d_X9_isAct_19 : At cX9_isAct 19 (.bipush 109) 2 21 := ⟨by decide +kernel, rfl⟩
theorem d_X9_isAct_21 : Br cX9_isAct 21 (.if_icmp .ne 7) (7) 24 28 := ⟨by decide +kernel, rfl, rfl⟩
theorem d_X9_isAct_24 : At cX9_isAct 24 (.iconst 1) 1 25 := ⟨by decide +kernel, rfl⟩
theorem d_X9_isAct_25 : Br cX9_isAct 25 (.goto 4) (4) 28 29 := ⟨by decide +kernel, rfl, rfl⟩
theorem d_X9_isAct_28 : At cX9_isAct 28 (.iconst 0) 1 29 := ⟨by decide +kernel, rfl⟩
theorem d_X9_isAct_29 : Go cX9_isAct 29 (.ireturn) 1 := (by decide +kernel : decode cX9_isAct 29 = .ok (.ireturn, 1))
theorem d_X9_isArgument_0 : At cX9_isArgument 0 (.iload_n 0) 1 1 := ⟨by decide +kernel, rfl⟩
theorem d_X9_isArgument_1 : At cX9_isArgument 1 (.i2l) 1 2 := ⟨by decide +kernel, rfl⟩
theorem d_X9_isArgument_2 : At cX9_isArgument 2 (.ldc2_w 77) 3 5 := ⟨by decide +kernel, rfl⟩
theorem d_X9_isArgument_5 : At cX9_isArgument 5 (.ldc2_w 79) 3 8 := ⟨by decide +kernel, rfl⟩
theorem d_X9_isArgument_8 : At cX9_isArgument 8 (.invokestatic 69) 3 11 := ⟨by decide +kernel, rfl⟩
theorem d_X9_isArgument_11 : Go cX9_isArgument 11 (.ireturn) 1 := (by decide +kernel : decode cX9_isArgument 11 = .ok (.ireturn, 1))
theorem d_X9_partsOf_0 : At cX9_partsOf 0 (.iload_n 0) 1 1 := ⟨by decide +kernel, rfl⟩
theorem d_X9_partsOf_1 : At cX9_partsOf 1 (.invokestatic 81) 3 4 := ⟨by decide +kernel, rfl⟩
theorem d_X9_partsOf_4 : Br cX9_partsOf 4 (.ifCond .lt 11) (11) 7 15 := ⟨by decide +kernel, rfl, rfl⟩
theorem d_X9_partsOf_7 : At cX9_partsOf 7 (.iload_n 0) 1 8 := ⟨by decide +kernel, rfl⟩
theorem d_X9_partsOf_8 : At cX9_partsOf 8 (.invokestatic 81) 3 11 := ⟨by decide +kernel, rfl⟩
theorem d_X9_partsOf_11 : At cX9_partsOf 11 (.invokestatic 85) 3 14 := ⟨by decide +kernel, rfl⟩
theorem d_X9_partsOf_14 : Go cX9_partsOf 14 (.ireturn) 1 := (by decide +kernel : decode cX9_partsOf 14 = .ok (.ireturn, 1))
theorem d_X9_partsOf_15 : At cX9_partsOf 15 (.iload_n 0) 1 16 := ⟨by decide +kernel, rfl⟩
theorem d_X9_partsOf_16 : At cX9_partsOf 16 (.invokestatic 88) 3 19 := ⟨by decide +kernel, rfl⟩
theorem d_X9_partsOf_19 : Br cX9_partsOf 19 (.ifCond .eq 5) (5) 22 24 := ⟨by decide +kernel, rfl, rfl⟩
theorem d_X9_partsOf_22 : At cX9_partsOf 22 (.iconst 2) 1 23 := ⟨by decide +kernel, rfl⟩
theorem d_X9_partsOf_23 : Go cX9_partsOf 23 (.ireturn) 1 := (by decide +kernel : decode cX9_partsOf 23 = .ok (.ireturn, 1))
theorem d_X9_partsOf_24 : At cX9_partsOf 24 (.iload_n 0) 1 25 := ⟨by decide +kernel, rfl⟩
theorem d_X9_partsOf_25 : At cX9_partsOf 25 (.invokestatic 92) 3 28 := ⟨by decide +kernel, rfl⟩
theorem d_X9_partsOf_28 : Br cX9_partsOf 28 (.ifCond .eq 20) (20) 31 48 := ⟨by decide +kernel, rfl, rfl⟩
theorem d_X9_partsOf_31 : At cX9_partsOf 31 (.iload_n 0) 1 32 := ⟨by decide +kernel, rfl⟩
theorem d_X9_partsOf_32 : At cX9_partsOf 32 (.bipush 120) 2 34 := ⟨by decide +kernel, rfl⟩
theorem d_X9_partsOf_34 : At cX9_partsOf 34 (.isub) 1 35 := ⟨by decide +kernel, rfl⟩
theorem d_X9_partsOf_35 : At cX9_partsOf 35 (.iload_n 1) 1 36 := ⟨by decide +kernel, rfl⟩
theorem d_X9_partsOf_36 : At cX9_partsOf 36 (.invokestatic 85) 3 39 := ⟨by decide +kernel, rfl⟩
theorem d_X9_partsOf_39 : Br cX9_partsOf 39 (.if_icmp .ge 7) (7) 42 46 := ⟨by decide +kernel, rfl, rfl⟩
theorem d_X9_partsOf_42 : At cX9_partsOf 42 (.iconst 0) 1 43 := ⟨by decide +kernel, rfl⟩
theorem d_X9_partsOf_43 : Br cX9_partsOf 43 (.goto 4) (4) 46 47 := ⟨by decide +kernel, rfl, rfl⟩
theorem d_X9_partsOf_46 : At cX9_partsOf 46 (.iconst (-1)) 1 47 := ⟨by decide +kernel, rfl⟩
theorem d_X9_partsOf_47 : Go cX9_partsOf 47 (.ireturn) 1 := (by decide +kernel : decode cX9_partsOf 47 = .ok (.ireturn, 1))
theorem d_X9_partsOf_48 : At cX9_partsOf 48 (.iload_n 0) 1 49 := ⟨by decide +kernel, rfl⟩
theorem d_X9_partsOf_49 : At cX9_partsOf 49 (.bipush 63) 2 51 := ⟨by decide +kernel, rfl⟩
theorem d_X9_partsOf_51 : Br cX9_partsOf 51 (.if_icmp .ne 7) (7) 54 58 := ⟨by decide +kernel, rfl, rfl⟩
theorem d_X9_partsOf_54 : At cX9_partsOf 54 (.iconst 3) 1 55 := ⟨by decide +kernel, rfl⟩
theorem d_X9_partsOf_55 : Br cX9_partsOf 55 (.goto 28) (28) 58 83 := ⟨by decide +kernel, rfl, rfl⟩
theorem d_X9_partsOf_58 : At cX9_partsOf 58 (.iload_n 0) 1 59 := ⟨by decide +kernel, rfl⟩
theorem d_X9_partsOf_59 : At cX9_partsOf 59 (.bipush 33) 2 61 := ⟨by decide +kernel, rfl⟩
theorem d_X9_partsOf_61 : Br cX9_partsOf 61 (.if_icmp .eq 17) (17) 64 78 := ⟨by decide +kernel, rfl, rfl⟩
theorem d_X9_partsOf_64 : At cX9_partsOf 64 (.iload_n 0) 1 65 := ⟨by decide +kernel, rfl⟩
theorem d_X9_partsOf_65 : At cX9_partsOf 65 (.i2l) 1 66 := ⟨by decide +kernel, rfl⟩
theorem d_X9_partsOf_66 : At cX9_partsOf 66 (.ldc2_w 95) 3 69 := ⟨by decide +kernel, rfl⟩
theorem d_X9_partsOf_69 : At cX9_partsOf 69 (.ldc2_w 97) 3 72 := ⟨by decide +kernel, rfl⟩
theorem d_X9_partsOf_72 : At cX9_partsOf 72 (.invokestatic 69) 3 75 := ⟨by decide +kernel, rfl⟩
theorem d_X9_partsOf_75 : Br cX9_partsOf 75 (.ifCond .eq 7) (7) 78 82 := ⟨by decide +kernel, rfl, rfl⟩
theorem d_X9_partsOf_78 : At cX9_partsOf 78 (.iconst 0) 1 79 := ⟨by decide +kernel, rfl⟩
theorem d_X9_partsOf_79 : Br cX9_partsOf 79 (.goto 4) (4) 82 83 := ⟨by decide +kernel, rfl, rfl⟩
theorem d_X9_partsOf_82 : At cX9_partsOf 82 (.iconst (-1)) 1 83 := ⟨by decide +kernel, rfl⟩
theorem d_X9_partsOf_83 : Go cX9_partsOf 83 (.ireturn) 1 := (by decide +kernel : decode cX9_partsOf 83 = .ok (.ireturn, 1))
theorem d_X9_fault_0 : At cX9_fault 0 (.iload_n 1) 1 1 := ⟨by decide +kernel, rfl⟩
theorem d_X9_fault_1 : At cX9_fault 1 (.invokestatic 99) 3 4 := ⟨by decide +kernel, rfl⟩
theorem d_X9_fault_4 : Br cX9_fault 4 (.ifCond .ne 5) (5) 7 9 := ⟨by decide +kernel, rfl, rfl⟩
theorem d_X9_fault_7 : At cX9_fault 7 (.iconst (-1)) 1 8 := ⟨by decide +kernel, rfl⟩
theorem d_X9_fault_8 : Go cX9_fault 8 (.ireturn) 1 := (by decide +kernel : decode cX9_fault 8 = .ok (.ireturn, 1))
theorem d_X9_fault_9 : At cX9_fault 9 (.iconst 0) 1 10 := ⟨by decide +kernel, rfl⟩
theorem d_X9_fault_10 : At cX9_fault 10 (.istore_n 2) 1 11 := ⟨by decide +kernel, rfl⟩
theorem d_X9_fault_11 : At cX9_fault 11 (.iconst 0) 1 12 := ⟨by decide +kernel, rfl⟩
theorem d_X9_fault_12 : At cX9_fault 12 (.istore_n 3) 1 13 := ⟨by decide +kernel, rfl⟩
theorem d_X9_fault_13 : At cX9_fault 13 (.iconst 0) 1 14 := ⟨by decide +kernel, rfl⟩
theorem d_X9_fault_14 : At cX9_fault 14 (.istore 4) 2 16 := ⟨by decide +kernel, rfl⟩
theorem d_X9_fault_16 : At cX9_fault 16 (.iload 4) 2 18 := ⟨by decide +kernel, rfl⟩
theorem d_X9_fault_18 : At cX9_fault 18 (.aload_n 0) 1 19 := ⟨by decide +kernel, rfl⟩
theorem d_X9_fault_19 : At cX9_fault 19 (.getfield 19) 3 22 := ⟨by decide +kernel, rfl⟩
theorem d_X9_fault_22 : At cX9_fault 22 (.iconst 4) 1 23 := ⟨by decide +kernel, rfl⟩
theorem d_X9_fault_23 : At cX9_fault 23 (.iaload) 1 24 := ⟨by decide +kernel, rfl⟩
theorem d_X9_fault_24 : Br cX9_fault 24 (.if_icmp .ge 98) (98) 27 122 := ⟨by decide +kernel, rfl, rfl⟩
theorem d_X9_fault_27 : At cX9_fault 27 (.aload_n 0) 1 28 := ⟨by decide +kernel, rfl⟩
theorem d_X9_fault_28 : At cX9_fault 28 (.getfield 7) 3 31 := ⟨by decide +kernel, rfl⟩
theorem d_X9_fault_31 : At cX9_fault 31 (.bipush 120) 2 33 := ⟨by decide +kernel, rfl⟩
theorem d_X9_fault_33 : At cX9_fault 33 (.iload 4) 2 35 := ⟨by decide +kernel, rfl⟩
theorem d_X9_fault_35 : At cX9_fault 35 (.iadd) 1 36 := ⟨by decide +kernel, rfl⟩
theorem d_X9_fault_36 : At cX9_fault 36 (.iaload) 1 37 := ⟨by decide +kernel, rfl⟩
theorem d_X9_fault_37 : At cX9_fault 37 (.iload_n 1) 1 38 := ⟨by decide +kernel, rfl⟩
theorem d_X9_fault_38 : At cX9_fault 38 (.invokestatic 102) 3 41 := ⟨by decide +kernel, rfl⟩
theorem d_X9_fault_41 : At cX9_fault 41 (.istore 5) 2 43 := ⟨by decide +kernel, rfl⟩
theorem d_X9_fault_43 : At cX9_fault 43 (.iload_n 3) 1 44 := ⟨by decide +kernel, rfl⟩
theorem d_X9_fault_44 : Br cX9_fault 44 (.ifCond .ne 19) (19) 47 63 := ⟨by decide +kernel, rfl, rfl⟩
theorem d_X9_fault_47 : At cX9_fault 47 (.iload 5) 2 49 := ⟨by decide +kernel, rfl⟩
theorem d_X9_fault_49 : Br cX9_fault 49 (.ifCond .lt 14) (14) 52 63 := ⟨by decide +kernel, rfl, rfl⟩
theorem d_X9_fault_52 : At cX9_fault 52 (.iload 5) 2 54 := ⟨by decide +kernel, rfl⟩
theorem d_X9_fault_54 : Br cX9_fault 54 (.ifCond .le 12) (12) 57 66 := ⟨by decide +kernel, rfl, rfl⟩
theorem d_X9_fault_57 : At cX9_fault 57 (.iload_n 2) 1 58 := ⟨by decide +kernel, rfl⟩
theorem d_X9_fault_58 : At cX9_fault 58 (.bipush 9) 2 60 := ⟨by decide +kernel, rfl⟩
theorem d_X9_fault_60 : Br cX9_fault 60 (.if_icmp .lt 6) (6) 63 66 := ⟨by decide +kernel, rfl, rfl⟩
theorem d_X9_fault_63 : At cX9_fault 63 (.iload 4) 2 65 := ⟨by decide +kernel, rfl⟩
theorem d_X9_fault_65 : Go cX9_fault 65 (.ireturn) 1 := (by decide +kernel : decode cX9_fault 65 = .ok (.ireturn, 1))
theorem d_X9_fault_66 : At cX9_fault 66 (.iinc 2 1) 3 69 := ⟨by decide +kernel, rfl⟩
theorem d_X9_fault_69 : At cX9_fault 69 (.aload_n 0) 1 70 := ⟨by decide +kernel, rfl⟩
theorem d_X9_fault_70 : At cX9_fault 70 (.getfield 22) 3 73 := ⟨by decide +kernel, rfl⟩
theorem d_X9_fault_73 : At cX9_fault 73 (.iload_n 2) 1 74 := ⟨by decide +kernel, rfl⟩
theorem d_X9_fault_74 : At cX9_fault 74 (.iload 5) 2 76 := ⟨by decide +kernel, rfl⟩
theorem d_X9_fault_76 : At cX9_fault 76 (.iastore) 1 77 := ⟨by decide +kernel, rfl⟩
theorem d_X9_fault_77 : At cX9_fault 77 (.iload_n 2) 1 78 := ⟨by decide +kernel, rfl⟩
theorem d_X9_fault_78 : Br cX9_fault 78 (.ifCond .le 28) (28) 81 106 := ⟨by decide +kernel, rfl, rfl⟩
theorem d_X9_fault_81 : At cX9_fault 81 (.aload_n 0) 1 82 := ⟨by decide +kernel, rfl⟩
theorem d_X9_fault_82 : At cX9_fault 82 (.getfield 22) 3 85 := ⟨by decide +kernel, rfl⟩
theorem d_X9_fault_85 : At cX9_fault 85 (.iload_n 2) 1 86 := ⟨by decide +kernel, rfl⟩
theorem d_X9_fault_86 : At cX9_fault 86 (.iaload) 1 87 := ⟨by decide +kernel, rfl⟩
theorem d_X9_fault_87 : Br cX9_fault 87 (.ifCond .ne 19) (19) 90 106 := ⟨by decide +kernel, rfl, rfl⟩
theorem d_X9_fault_90 : At cX9_fault 90 (.iinc 2 (-1)) 3 93 := ⟨by decide +kernel, rfl⟩
theorem d_X9_fault_93 : At cX9_fault 93 (.aload_n 0) 1 94 := ⟨by decide +kernel, rfl⟩
theorem d_X9_fault_94 : At cX9_fault 94 (.getfield 22) 3 97 := ⟨by decide +kernel, rfl⟩
theorem d_X9_fault_97 : At cX9_fault 97 (.iload_n 2) 1 98 := ⟨by decide +kernel, rfl⟩
theorem d_X9_fault_98 : At cX9_fault 98 (.dup2) 1 99 := ⟨by decide +kernel, rfl⟩
theorem d_X9_fault_99 : At cX9_fault 99 (.iaload) 1 100 := ⟨by decide +kernel, rfl⟩
theorem d_X9_fault_100 : At cX9_fault 100 (.iconst 1) 1 101 := ⟨by decide +kernel, rfl⟩
theorem d_X9_fault_101 : At cX9_fault 101 (.isub) 1 102 := ⟨by decide +kernel, rfl⟩
theorem d_X9_fault_102 : At cX9_fault 102 (.iastore) 1 103 := ⟨by decide +kernel, rfl⟩
theorem d_X9_fault_103 : Br cX9_fault 103 (.goto (-26)) (-26) 106 77 := ⟨by decide +kernel, rfl, rfl⟩
theorem d_X9_fault_106 : At cX9_fault 106 (.iload_n 2) 1 107 := ⟨by decide +kernel, rfl⟩
theorem d_X9_fault_107 : Br cX9_fault 107 (.ifCond .ne 7) (7) 110 114 := ⟨by decide +kernel, rfl, rfl⟩
theorem d_X9_fault_110 : At cX9_fault 110 (.iconst 1) 1 111 := ⟨by decide +kernel, rfl⟩
theorem d_X9_fault_111 : Br cX9_fault 111 (.goto 4) (4) 114 115 := ⟨by decide +kernel, rfl, rfl⟩
theorem d_X9_fault_114 : At cX9_fault 114 (.iconst 0) 1 115 := ⟨by decide +kernel, rfl⟩
theorem d_X9_fault_115 : At cX9_fault 115 (.istore_n 3) 1 116 := ⟨by decide +kernel, rfl⟩
theorem d_X9_fault_116 : At cX9_fault 116 (.iinc 4 1) 3 119 := ⟨by decide +kernel, rfl⟩
theorem d_X9_fault_119 : Br cX9_fault 119 (.goto (-103)) (-103) 122 16 := ⟨by decide +kernel, rfl, rfl⟩
theorem d_X9_fault_122 : At cX9_fault 122 (.iload_n 3) 1 123 := ⟨by decide +kernel, rfl⟩
theorem d_X9_fault_123 : Br cX9_fault 123 (.ifCond .eq 8) (8) 126 131 := ⟨by decide +kernel, rfl, rfl⟩
theorem d_X9_fault_126 : At cX9_fault 126 (.bipush (-6)) 2 128 := ⟨by decide +kernel, rfl⟩
theorem d_X9_fault_128 : Br cX9_fault 128 (.goto 9) (9) 131 137 := ⟨by decide +kernel, rfl, rfl⟩
theorem d_X9_fault_131 : At cX9_fault 131 (.aload_n 0) 1 132 := ⟨by decide +kernel, rfl⟩
theorem d_X9_fault_132 : At cX9_fault 132 (.getfield 19) 3 135 := ⟨by decide +kernel, rfl⟩
theorem d_X9_fault_135 : At cX9_fault 135 (.iconst 4) 1 136 := ⟨by decide +kernel, rfl⟩
theorem d_X9_fault_136 : At cX9_fault 136 (.iaload) 1 137 := ⟨by decide +kernel, rfl⟩
theorem d_X9_fault_137 : Go cX9_fault 137 (.ireturn) 1 := (by decide +kernel : decode cX9_fault 137 = .ok (.ireturn, 1))
theorem d_X9_body_0 : At cX9_body 0 (.iload_n 1) 1 1 := ⟨by decide +kernel, rfl⟩
theorem d_X9_body_1 : At cX9_body 1 (.invokestatic 99) 3 4 := ⟨by decide +kernel, rfl⟩
theorem d_X9_body_4 : Br cX9_body 4 (.ifCond .ne 5) (5) 7 9 := ⟨by decide +kernel, rfl, rfl⟩
theorem d_X9_body_7 : At cX9_body 7 (.iconst (-1)) 1 8 := ⟨by decide +kernel, rfl⟩
theorem d_X9_body_8 : Go cX9_body 8 (.ireturn) 1 := (by decide +kernel : decode cX9_body 8 = .ok (.ireturn, 1))
theorem d_X9_body_9 : At cX9_body 9 (.aload_n 0) 1 10 := ⟨by decide +kernel, rfl⟩
theorem d_X9_body_10 : At cX9_body 10 (.iload_n 1) 1 11 := ⟨by decide +kernel, rfl⟩
theorem d_X9_body_11 : At cX9_body 11 (.invokevirtual 106) 3 14 := ⟨by decide +kernel, rfl⟩
theorem d_X9_body_14 : Br cX9_body 14 (.ifCond .lt 6) (6) 17 20 := ⟨by decide +kernel, rfl, rfl⟩
theorem d_X9_body_17 : At cX9_body 17 (.bipush (-5)) 2 19 := ⟨by decide +kernel, rfl⟩
theorem d_X9_body_19 : Go cX9_body 19 (.ireturn) 1 := (by decide +kernel : decode cX9_body 19 = .ok (.ireturn, 1))
theorem d_X9_body_20 : At cX9_body 20 (.bipush 30) 2 22 := ⟨by decide +kernel, rfl⟩
theorem d_X9_body_22 : At cX9_body 22 (.iload_n 1) 1 23 := ⟨by decide +kernel, rfl⟩
theorem d_X9_body_23 : At cX9_body 23 (.imul) 1 24 := ⟨by decide +kernel, rfl⟩
theorem d_X9_body_24 : At cX9_body 24 (.istore_n 2) 1 25 := ⟨by decide +kernel, rfl⟩
theorem d_X9_body_25 : At cX9_body 25 (.iconst 0) 1 26 := ⟨by decide +kernel, rfl⟩
theorem d_X9_body_26 : At cX9_body 26 (.istore_n 3) 1 27 := ⟨by decide +kernel, rfl⟩
theorem d_X9_body_27 : At cX9_body 27 (.iconst 0) 1 28 := ⟨by decide +kernel, rfl⟩
theorem d_X9_body_28 : At cX9_body 28 (.istore 4) 2 30 := ⟨by decide +kernel, rfl⟩
theorem d_X9_body_30 : At cX9_body 30 (.iload 4) 2 32 := ⟨by decide +kernel, rfl⟩
theorem d_X9_body_32 : At cX9_body 32 (.aload_n 0) 1 33 := ⟨by decide +kernel, rfl⟩
theorem d_X9_body_33 : At cX9_body 33 (.getfield 19) 3 36 := ⟨by decide +kernel, rfl⟩
theorem d_X9_body_36 : At cX9_body 36 (.iconst 4) 1 37 := ⟨by decide +kernel, rfl⟩
theorem d_X9_body_37 : At cX9_body 37 (.iaload) 1 38 := ⟨by decide +kernel, rfl⟩
theorem d_X9_body_38 : Br cX9_body 38 (.if_icmp .ge 121) (121) 41 159 := ⟨by decide +kernel, rfl, rfl⟩
theorem d_X9_body_41 : At cX9_body 41 (.aload_n 0) 1 42 := ⟨by decide +kernel, rfl⟩
theorem d_X9_body_42 : At cX9_body 42 (.getfield 7) 3 45 := ⟨by decide +kernel, rfl⟩
theorem d_X9_body_45 : At cX9_body 45 (.iload_n 2) 1 46 := ⟨by decide +kernel, rfl⟩
theorem d_X9_body_46 : At cX9_body 46 (.iload 4) 2 48 := ⟨by decide +kernel, rfl⟩
theorem d_X9_body_48 : At cX9_body 48 (.iadd) 1 49 := ⟨by decide +kernel, rfl⟩
theorem d_X9_body_49 : At cX9_body 49 (.aload_n 0) 1 50 := ⟨by decide +kernel, rfl⟩
theorem d_X9_body_50 : At cX9_body 50 (.getfield 7) 3 53 := ⟨by decide +kernel, rfl⟩
theorem d_X9_body_53 : At cX9_body 53 (.bipush 120) 2 55 := ⟨by decide +kernel, rfl⟩
theorem d_X9_body_55 : At cX9_body 55 (.iload 4) 2 57 := ⟨by decide +kernel, rfl⟩
theorem d_X9_body_57 : At cX9_body 57 (.iadd) 1 58 := ⟨by decide +kernel, rfl⟩
theorem d_X9_body_58 : At cX9_body 58 (.iaload) 1 59 := ⟨by decide +kernel, rfl⟩
theorem d_X9_body_59 : At cX9_body 59 (.iastore) 1 60 := ⟨by decide +kernel, rfl⟩
theorem d_X9_body_60 : At cX9_body 60 (.aload_n 0) 1 61 := ⟨by decide +kernel, rfl⟩
theorem d_X9_body_61 : At cX9_body 61 (.getfield 16) 3 64 := ⟨by decide +kernel, rfl⟩
theorem d_X9_body_64 : At cX9_body 64 (.iload_n 2) 1 65 := ⟨by decide +kernel, rfl⟩
theorem d_X9_body_65 : At cX9_body 65 (.iload 4) 2 67 := ⟨by decide +kernel, rfl⟩
theorem d_X9_body_67 : At cX9_body 67 (.iadd) 1 68 := ⟨by decide +kernel, rfl⟩
theorem d_X9_body_68 : At cX9_body 68 (.iload_n 3) 1 69 := ⟨by decide +kernel, rfl⟩
theorem d_X9_body_69 : At cX9_body 69 (.iastore) 1 70 := ⟨by decide +kernel, rfl⟩
theorem d_X9_body_70 : At cX9_body 70 (.iinc 3 1) 3 73 := ⟨by decide +kernel, rfl⟩
theorem d_X9_body_73 : At cX9_body 73 (.aload_n 0) 1 74 := ⟨by decide +kernel, rfl⟩
theorem d_X9_body_74 : At cX9_body 74 (.getfield 25) 3 77 := ⟨by decide +kernel, rfl⟩
theorem d_X9_body_77 : At cX9_body 77 (.iload_n 3) 1 78 := ⟨by decide +kernel, rfl⟩
theorem d_X9_body_78 : At cX9_body 78 (.iload 4) 2 80 := ⟨by decide +kernel, rfl⟩
theorem d_X9_body_80 : At cX9_body 80 (.iastore) 1 81 := ⟨by decide +kernel, rfl⟩
theorem d_X9_body_81 : At cX9_body 81 (.aload_n 0) 1 82 := ⟨by decide +kernel, rfl⟩
theorem d_X9_body_82 : At cX9_body 82 (.getfield 22) 3 85 := ⟨by decide +kernel, rfl⟩
theorem d_X9_body_85 : At cX9_body 85 (.iload_n 3) 1 86 := ⟨by decide +kernel, rfl⟩
theorem d_X9_body_86 : At cX9_body 86 (.aload_n 0) 1 87 := ⟨by decide +kernel, rfl⟩
theorem d_X9_body_87 : At cX9_body 87 (.getfield 7) 3 90 := ⟨by decide +kernel, rfl⟩
theorem d_X9_body_90 : At cX9_body 90 (.iload_n 2) 1 91 := ⟨by decide +kernel, rfl⟩
theorem d_X9_body_91 : At cX9_body 91 (.iload 4) 2 93 := ⟨by decide +kernel, rfl⟩
theorem d_X9_body_93 : At cX9_body 93 (.iadd) 1 94 := ⟨by decide +kernel, rfl⟩
theorem d_X9_body_94 : At cX9_body 94 (.iaload) 1 95 := ⟨by decide +kernel, rfl⟩
theorem d_X9_body_95 : At cX9_body 95 (.iload_n 1) 1 96 := ⟨by decide +kernel, rfl⟩
theorem d_X9_body_96 : At cX9_body 96 (.invokestatic 102) 3 99 := ⟨by decide +kernel, rfl⟩
theorem d_X9_body_99 : At cX9_body 99 (.iastore) 1 100 := ⟨by decide +kernel, rfl⟩
theorem d_X9_body_100 : At cX9_body 100 (.iload_n 3) 1 101 := ⟨by decide +kernel, rfl⟩
theorem d_X9_body_101 : Br cX9_body 101 (.ifCond .le 52) (52) 104 153 := ⟨by decide +kernel, rfl, rfl⟩
theorem d_X9_body_104 : At cX9_body 104 (.aload_n 0) 1 105 := ⟨by decide +kernel, rfl⟩
theorem d_X9_body_105 : At cX9_body 105 (.getfield 22) 3 108 := ⟨by decide +kernel, rfl⟩
theorem d_X9_body_108 : At cX9_body 108 (.iload_n 3) 1 109 := ⟨by decide +kernel, rfl⟩
theorem d_X9_body_109 : At cX9_body 109 (.iaload) 1 110 := ⟨by decide +kernel, rfl⟩
theorem d_X9_body_110 : Br cX9_body 110 (.ifCond .ne 43) (43) 113 153 := ⟨by decide +kernel, rfl, rfl⟩
theorem d_X9_body_113 : At cX9_body 113 (.aload_n 0) 1 114 := ⟨by decide +kernel, rfl⟩
theorem d_X9_body_114 : At cX9_body 114 (.getfield 13) 3 117 := ⟨by decide +kernel, rfl⟩
theorem d_X9_body_117 : At cX9_body 117 (.iload_n 2) 1 118 := ⟨by decide +kernel, rfl⟩
theorem d_X9_body_118 : At cX9_body 118 (.aload_n 0) 1 119 := ⟨by decide +kernel, rfl⟩
theorem d_X9_body_119 : At cX9_body 119 (.getfield 25) 3 122 := ⟨by decide +kernel, rfl⟩
theorem d_X9_body_122 : At cX9_body 122 (.iload_n 3) 1 123 := ⟨by decide +kernel, rfl⟩
theorem d_X9_body_123 : At cX9_body 123 (.iaload) 1 124 := ⟨by decide +kernel, rfl⟩
theorem d_X9_body_124 : At cX9_body 124 (.iadd) 1 125 := ⟨by decide +kernel, rfl⟩
theorem d_X9_body_125 : At cX9_body 125 (.iload 4) 2 127 := ⟨by decide +kernel, rfl⟩
theorem d_X9_body_127 : At cX9_body 127 (.aload_n 0) 1 128 := ⟨by decide +kernel, rfl⟩
theorem d_X9_body_128 : At cX9_body 128 (.getfield 25) 3 131 := ⟨by decide +kernel, rfl⟩
theorem d_X9_body_131 : At cX9_body 131 (.iload_n 3) 1 132 := ⟨by decide +kernel, rfl⟩
theorem d_X9_body_132 : At cX9_body 132 (.iaload) 1 133 := ⟨by decide +kernel, rfl⟩
theorem d_X9_body_133 : At cX9_body 133 (.isub) 1 134 := ⟨by decide +kernel, rfl⟩
theorem d_X9_body_134 : At cX9_body 134 (.iconst 1) 1 135 := ⟨by decide +kernel, rfl⟩
theorem d_X9_body_135 : At cX9_body 135 (.iadd) 1 136 := ⟨by decide +kernel, rfl⟩
theorem d_X9_body_136 : At cX9_body 136 (.iastore) 1 137 := ⟨by decide +kernel, rfl⟩
theorem d_X9_body_137 : At cX9_body 137 (.iinc 3 (-1)) 3 140 := ⟨by decide +kernel, rfl⟩
theorem d_X9_body_140 : At cX9_body 140 (.aload_n 0) 1 141 := ⟨by decide +kernel, rfl⟩
theorem d_X9_body_141 : At cX9_body 141 (.getfield 22) 3 144 := ⟨by decide +kernel, rfl⟩
theorem d_X9_body_144 : At cX9_body 144 (.iload_n 3) 1 145 := ⟨by decide +kernel, rfl⟩
theorem d_X9_body_145 : At cX9_body 145 (.dup2) 1 146 := ⟨by decide +kernel, rfl⟩
theorem d_X9_body_146 : At cX9_body 146 (.iaload) 1 147 := ⟨by decide +kernel, rfl⟩
theorem d_X9_body_147 : At cX9_body 147 (.iconst 1) 1 148 := ⟨by decide +kernel, rfl⟩
theorem d_X9_body_148 : At cX9_body 148 (.isub) 1 149 := ⟨by decide +kernel, rfl⟩
theorem d_X9_body_149 : At cX9_body 149 (.iastore) 1 150 := ⟨by decide +kernel, rfl⟩
theorem d_X9_body_150 : Br cX9_body 150 (.goto (-50)) (-50) 153 100 := ⟨by decide +kernel, rfl, rfl⟩
theorem d_X9_body_153 : At cX9_body 153 (.iinc 4 1) 3 156 := ⟨by decide +kernel, rfl⟩
theorem d_X9_body_156 : Br cX9_body 156 (.goto (-126)) (-126) 159 30 := ⟨by decide +kernel, rfl, rfl⟩
theorem d_X9_body_159 : At cX9_body 159 (.aload_n 0) 1 160 := ⟨by decide +kernel, rfl⟩
theorem d_X9_body_160 : At cX9_body 160 (.getfield 19) 3 163 := ⟨by decide +kernel, rfl⟩
theorem d_X9_body_163 : At cX9_body 163 (.iload_n 1) 1 164 := ⟨by decide +kernel, rfl⟩
theorem d_X9_body_164 : At cX9_body 164 (.aload_n 0) 1 165 := ⟨by decide +kernel, rfl⟩
theorem d_X9_body_165 : At cX9_body 165 (.getfield 19) 3 168 := ⟨by decide +kernel, rfl⟩
theorem d_X9_body_168 : At cX9_body 168 (.iconst 4) 1 169 := ⟨by decide +kernel, rfl⟩
theorem d_X9_body_169 : At cX9_body 169 (.iaload) 1 170 := ⟨by decide +kernel, rfl⟩
theorem d_X9_body_170 : At cX9_body 170 (.iastore) 1 171 := ⟨by decide +kernel, rfl⟩
theorem d_X9_body_171 : At cX9_body 171 (.aload_n 0) 1 172 := ⟨by decide +kernel, rfl⟩
theorem d_X9_body_172 : At cX9_body 172 (.getfield 19) 3 175 := ⟨by decide +kernel, rfl⟩
theorem d_X9_body_175 : At cX9_body 175 (.iconst 4) 1 176 := ⟨by decide +kernel, rfl⟩
theorem d_X9_body_176 : At cX9_body 176 (.iconst 0) 1 177 := ⟨by decide +kernel, rfl⟩
theorem d_X9_body_177 : At cX9_body 177 (.iastore) 1 178 := ⟨by decide +kernel, rfl⟩
theorem d_X9_body_178 : At cX9_body 178 (.aload_n 0) 1 179 := ⟨by decide +kernel, rfl⟩
theorem d_X9_body_179 : At cX9_body 179 (.invokevirtual 64) 3 182 := ⟨by decide +kernel, rfl⟩
theorem d_X9_body_182 : At cX9_body 182 (.aload_n 0) 1 183 := ⟨by decide +kernel, rfl⟩
theorem d_X9_body_183 : At cX9_body 183 (.getfield 19) 3 186 := ⟨by decide +kernel, rfl⟩
theorem d_X9_body_186 : At cX9_body 186 (.iload_n 1) 1 187 := ⟨by decide +kernel, rfl⟩
theorem d_X9_body_187 : At cX9_body 187 (.iaload) 1 188 := ⟨by decide +kernel, rfl⟩
theorem d_X9_body_188 : Go cX9_body 188 (.ireturn) 1 := (by decide +kernel : decode cX9_body 188 = .ok (.ireturn, 1))
theorem d_X9_isNode_0 : At cX9_isNode 0 (.iload_n 1) 1 1 := ⟨by decide +kernel, rfl⟩
theorem d_X9_isNode_1 : At cX9_isNode 1 (.invokestatic 99) 3 4 := ⟨by decide +kernel, rfl⟩
theorem d_X9_isNode_4 : Br cX9_isNode 4 (.ifCond .eq 25) (25) 7 29 := ⟨by decide +kernel, rfl, rfl⟩
theorem d_X9_isNode_7 : At cX9_isNode 7 (.iload_n 2) 1 8 := ⟨by decide +kernel, rfl⟩
theorem d_X9_isNode_8 : At cX9_isNode 8 (.i2l) 1 9 := ⟨by decide +kernel, rfl⟩
theorem d_X9_isNode_9 : At cX9_isNode 9 (.lconst 0) 1 10 := ⟨by decide +kernel, rfl⟩
theorem d_X9_isNode_10 : At cX9_isNode 10 (.aload_n 0) 1 11 := ⟨by decide +kernel, rfl⟩
theorem d_X9_isNode_11 : At cX9_isNode 11 (.getfield 19) 3 14 := ⟨by decide +kernel, rfl⟩
theorem d_X9_isNode_14 : At cX9_isNode 14 (.iload_n 1) 1 15 := ⟨by decide +kernel, rfl⟩
theorem d_X9_isNode_15 : At cX9_isNode 15 (.iaload) 1 16 := ⟨by decide +kernel, rfl⟩
theorem d_X9_isNode_16 : At cX9_isNode 16 (.iconst 1) 1 17 := ⟨by decide +kernel, rfl⟩
theorem d_X9_isNode_17 : At cX9_isNode 17 (.isub) 1 18 := ⟨by decide +kernel, rfl⟩
theorem d_X9_isNode_18 : At cX9_isNode 18 (.i2l) 1 19 := ⟨by decide +kernel, rfl⟩
theorem d_X9_isNode_19 : At cX9_isNode 19 (.invokestatic 69) 3 22 := ⟨by decide +kernel, rfl⟩
theorem d_X9_isNode_22 : Br cX9_isNode 22 (.ifCond .eq 7) (7) 25 29 := ⟨by decide +kernel, rfl, rfl⟩
theorem d_X9_isNode_25 : At cX9_isNode 25 (.iconst 1) 1 26 := ⟨by decide +kernel, rfl⟩
theorem d_X9_isNode_26 : Br cX9_isNode 26 (.goto 4) (4) 29 30 := ⟨by decide +kernel, rfl, rfl⟩
theorem d_X9_isNode_29 : At cX9_isNode 29 (.iconst 0) 1 30 := ⟨by decide +kernel, rfl⟩
theorem d_X9_isNode_30 : Go cX9_isNode 30 (.ireturn) 1 := (by decide +kernel : decode cX9_isNode 30 = .ok (.ireturn, 1))
theorem d_X9_node_0 : At cX9_node 0 (.aload_n 0) 1 1 := ⟨by decide +kernel, rfl⟩
theorem d_X9_node_1 : At cX9_node 1 (.iload_n 1) 1 2 := ⟨by decide +kernel, rfl⟩
theorem d_X9_node_2 : At cX9_node 2 (.iload_n 2) 1 3 := ⟨by decide +kernel, rfl⟩
theorem d_X9_node_3 : At cX9_node 3 (.invokevirtual 109) 3 6 := ⟨by decide +kernel, rfl⟩
theorem d_X9_node_6 : Br cX9_node 6 (.ifCond .ne 5) (5) 9 11 := ⟨by decide +kernel, rfl, rfl⟩
theorem d_X9_node_9 : At cX9_node 9 (.iconst (-1)) 1 10 := ⟨by decide +kernel, rfl⟩
theorem d_X9_node_10 : Go cX9_node 10 (.ireturn) 1 := (by decide +kernel : decode cX9_node 10 = .ok (.ireturn, 1))
theorem d_X9_node_11 : At cX9_node 11 (.bipush 30) 2 13 := ⟨by decide +kernel, rfl⟩
theorem d_X9_node_13 : At cX9_node 13 (.iload_n 1) 1 14 := ⟨by decide +kernel, rfl⟩
theorem d_X9_node_14 : At cX9_node 14 (.imul) 1 15 := ⟨by decide +kernel, rfl⟩
theorem d_X9_node_15 : At cX9_node 15 (.iload_n 2) 1 16 := ⟨by decide +kernel, rfl⟩
theorem d_X9_node_16 : At cX9_node 16 (.iadd) 1 17 := ⟨by decide +kernel, rfl⟩
theorem d_X9_node_17 : At cX9_node 17 (.istore 4) 2 19 := ⟨by decide +kernel, rfl⟩
theorem d_X9_node_19 : At cX9_node 19 (.iload_n 3) 1 20 := ⟨by decide +kernel, rfl⟩
theorem d_X9_node_20 : Br cX9_node 20 (.ifCond .ne 13) (13) 23 33 := ⟨by decide +kernel, rfl, rfl⟩
theorem d_X9_node_23 : At cX9_node 23 (.aload_n 0) 1 24 := ⟨by decide +kernel, rfl⟩
theorem d_X9_node_24 : At cX9_node 24 (.getfield 7) 3 27 := ⟨by decide +kernel, rfl⟩
theorem d_X9_node_27 : At cX9_node 27 (.iload 4) 2 29 := ⟨by decide +kernel, rfl⟩
theorem d_X9_node_29 : At cX9_node 29 (.iaload) 1 30 := ⟨by decide +kernel, rfl⟩
theorem d_X9_node_30 : Br cX9_node 30 (.goto 35) (35) 33 65 := ⟨by decide +kernel, rfl, rfl⟩
theorem d_X9_node_33 : At cX9_node 33 (.iload_n 3) 1 34 := ⟨by decide +kernel, rfl⟩
theorem d_X9_node_34 : At cX9_node 34 (.iconst 1) 1 35 := ⟨by decide +kernel, rfl⟩
theorem d_X9_node_35 : Br cX9_node 35 (.if_icmp .ne 13) (13) 38 48 := ⟨by decide +kernel, rfl, rfl⟩
theorem d_X9_node_38 : At cX9_node 38 (.aload_n 0) 1 39 := ⟨by decide +kernel, rfl⟩
theorem d_X9_node_39 : At cX9_node 39 (.getfield 13) 3 42 := ⟨by decide +kernel, rfl⟩
theorem d_X9_node_42 : At cX9_node 42 (.iload 4) 2 44 := ⟨by decide +kernel, rfl⟩
theorem d_X9_node_44 : At cX9_node 44 (.iaload) 1 45 := ⟨by decide +kernel, rfl⟩
theorem d_X9_node_45 : Br cX9_node 45 (.goto 20) (20) 48 65 := ⟨by decide +kernel, rfl, rfl⟩
theorem d_X9_node_48 : At cX9_node 48 (.iload_n 3) 1 49 := ⟨by decide +kernel, rfl⟩
theorem d_X9_node_49 : At cX9_node 49 (.iconst 2) 1 50 := ⟨by decide +kernel, rfl⟩
theorem d_X9_node_50 : Br cX9_node 50 (.if_icmp .ne 13) (13) 53 63 := ⟨by decide +kernel, rfl, rfl⟩
theorem d_X9_node_53 : At cX9_node 53 (.aload_n 0) 1 54 := ⟨by decide +kernel, rfl⟩
theorem d_X9_node_54 : At cX9_node 54 (.getfield 16) 3 57 := ⟨by decide +kernel, rfl⟩
theorem d_X9_node_57 : At cX9_node 57 (.iload 4) 2 59 := ⟨by decide +kernel, rfl⟩
theorem d_X9_node_59 : At cX9_node 59 (.iaload) 1 60 := ⟨by decide +kernel, rfl⟩
theorem d_X9_node_60 : Br cX9_node 60 (.goto 5) (5) 63 65 := ⟨by decide +kernel, rfl, rfl⟩
theorem d_X9_node_63 : At cX9_node 63 (.bipush (-2)) 2 65 := ⟨by decide +kernel, rfl⟩
theorem d_X9_node_65 : Go cX9_node 65 (.ireturn) 1 := (by decide +kernel : decode cX9_node 65 = .ok (.ireturn, 1))
theorem d_X9_textOf_0 : At cX9_textOf 0 (.iload_n 2) 1 1 := ⟨by decide +kernel, rfl⟩
theorem d_X9_textOf_1 : At cX9_textOf 1 (.iconst 1) 1 2 := ⟨by decide +kernel, rfl⟩
theorem d_X9_textOf_2 : At cX9_textOf 2 (.iadd) 1 3 := ⟨by decide +kernel, rfl⟩
theorem d_X9_textOf_3 : At cX9_textOf 3 (.istore 4) 2 5 := ⟨by decide +kernel, rfl⟩
theorem d_X9_textOf_5 : At cX9_textOf 5 (.iconst 0) 1 6 := ⟨by decide +kernel, rfl⟩
theorem d_X9_textOf_6 : At cX9_textOf 6 (.istore 5) 2 8 := ⟨by decide +kernel, rfl⟩
theorem d_X9_textOf_8 : At cX9_textOf 8 (.iload 5) 2 10 := ⟨by decide +kernel, rfl⟩
theorem d_X9_textOf_10 : At cX9_textOf 10 (.iload_n 3) 1 11 := ⟨by decide +kernel, rfl⟩
theorem d_X9_textOf_11 : Br cX9_textOf 11 (.if_icmp .ge 26) (26) 14 37 := ⟨by decide +kernel, rfl, rfl⟩
theorem d_X9_textOf_14 : At cX9_textOf 14 (.iload 4) 2 16 := ⟨by decide +kernel, rfl⟩
theorem d_X9_textOf_16 : At cX9_textOf 16 (.aload_n 0) 1 17 := ⟨by decide +kernel, rfl⟩
theorem d_X9_textOf_17 : At cX9_textOf 17 (.getfield 13) 3 20 := ⟨by decide +kernel, rfl⟩
theorem d_X9_textOf_20 : At cX9_textOf 20 (.bipush 30) 2 22 := ⟨by decide +kernel, rfl⟩
theorem d_X9_textOf_22 : At cX9_textOf 22 (.iload_n 1) 1 23 := ⟨by decide +kernel, rfl⟩
theorem d_X9_textOf_23 : At cX9_textOf 23 (.imul) 1 24 := ⟨by decide +kernel, rfl⟩
theorem d_X9_textOf_24 : At cX9_textOf 24 (.iload 4) 2 26 := ⟨by decide +kernel, rfl⟩
theorem d_X9_textOf_26 : At cX9_textOf 26 (.iadd) 1 27 := ⟨by decide +kernel, rfl⟩
theorem d_X9_textOf_27 : At cX9_textOf 27 (.iaload) 1 28 := ⟨by decide +kernel, rfl⟩
theorem d_X9_textOf_28 : At cX9_textOf 28 (.iadd) 1 29 := ⟨by decide +kernel, rfl⟩
theorem d_X9_textOf_29 : At cX9_textOf 29 (.istore 4) 2 31 := ⟨by decide +kernel, rfl⟩
theorem d_X9_textOf_31 : At cX9_textOf 31 (.iinc 5 1) 3 34 := ⟨by decide +kernel, rfl⟩
theorem d_X9_textOf_34 : Br cX9_textOf 34 (.goto (-26)) (-26) 37 8 := ⟨by decide +kernel, rfl, rfl⟩
theorem d_X9_textOf_37 : At cX9_textOf 37 (.iload 4) 2 39 := ⟨by decide +kernel, rfl⟩
theorem d_X9_textOf_39 : Go cX9_textOf 39 (.ireturn) 1 := (by decide +kernel : decode cX9_textOf 39 = .ok (.ireturn, 1))
theorem d_X9_findMay_0 : At cX9_findMay 0 (.aload_n 0) 1 1 := ⟨by decide +kernel, rfl⟩
theorem d_X9_findMay_1 : At cX9_findMay 1 (.getfield 19) 3 4 := ⟨by decide +kernel, rfl⟩
theorem d_X9_findMay_4 : At cX9_findMay 4 (.iload_n 1) 1 5 := ⟨by decide +kernel, rfl⟩
theorem d_X9_findMay_5 : At cX9_findMay 5 (.iaload) 1 6 := ⟨by decide +kernel, rfl⟩
theorem d_X9_findMay_6 : At cX9_findMay 6 (.iconst 1) 1 7 := ⟨by decide +kernel, rfl⟩
theorem d_X9_findMay_7 : At cX9_findMay 7 (.isub) 1 8 := ⟨by decide +kernel, rfl⟩
theorem d_X9_findMay_8 : At cX9_findMay 8 (.istore_n 3) 1 9 := ⟨by decide +kernel, rfl⟩
theorem d_X9_findMay_9 : At cX9_findMay 9 (.iload_n 3) 1 10 := ⟨by decide +kernel, rfl⟩
theorem d_X9_findMay_10 : Br cX9_findMay 10 (.ifCond .lt 224) (224) 13 234 := ⟨by decide +kernel, rfl, rfl⟩
theorem d_X9_findMay_13 : At cX9_findMay 13 (.aload_n 0) 1 14 := ⟨by decide +kernel, rfl⟩
theorem d_X9_findMay_14 : At cX9_findMay 14 (.getfield 7) 3 17 := ⟨by decide +kernel, rfl⟩
theorem d_X9_findMay_17 : At cX9_findMay 17 (.bipush 30) 2 19 := ⟨by decide +kernel, rfl⟩
theorem d_X9_findMay_19 : At cX9_findMay 19 (.iload_n 1) 1 20 := ⟨by decide +kernel, rfl⟩
theorem d_X9_findMay_20 : At cX9_findMay 20 (.imul) 1 21 := ⟨by decide +kernel, rfl⟩
theorem d_X9_findMay_21 : At cX9_findMay 21 (.iload_n 3) 1 22 := ⟨by decide +kernel, rfl⟩
theorem d_X9_findMay_22 : At cX9_findMay 22 (.iadd) 1 23 := ⟨by decide +kernel, rfl⟩
theorem d_X9_findMay_23 : At cX9_findMay 23 (.iaload) 1 24 := ⟨by decide +kernel, rfl⟩
theorem d_X9_findMay_24 : At cX9_findMay 24 (.istore 4) 2 26 := ⟨by decide +kernel, rfl⟩
theorem d_X9_findMay_26 : At cX9_findMay 26 (.iload 4) 2 28 := ⟨by decide +kernel, rfl⟩
theorem d_X9_findMay_28 : At cX9_findMay 28 (.invokestatic 81) 3 31 := ⟨by decide +kernel, rfl⟩
theorem d_X9_findMay_31 : At cX9_findMay 31 (.istore 5) 2 33 := ⟨by decide +kernel, rfl⟩
theorem d_X9_findMay_33 : At cX9_findMay 33 (.iload 5) 2 35 := ⟨by decide +kernel, rfl⟩
theorem d_X9_findMay_35 : Br cX9_findMay 35 (.ifCond .lt 67) (67) 38 102 := ⟨by decide +kernel, rfl, rfl⟩
theorem d_X9_findMay_38 : At cX9_findMay 38 (.iconst 0) 1 39 := ⟨by decide +kernel, rfl⟩
theorem d_X9_findMay_39 : At cX9_findMay 39 (.istore 6) 2 41 := ⟨by decide +kernel, rfl⟩
theorem d_X9_findMay_41 : At cX9_findMay 41 (.iconst 0) 1 42 := ⟨by decide +kernel, rfl⟩
theorem d_X9_findMay_42 : At cX9_findMay 42 (.istore 7) 2 44 := ⟨by decide +kernel, rfl⟩
theorem d_X9_findMay_44 : At cX9_findMay 44 (.iload 7) 2 46 := ⟨by decide +kernel, rfl⟩
theorem d_X9_findMay_46 : At cX9_findMay 46 (.iload 5) 2 48 := ⟨by decide +kernel, rfl⟩
theorem d_X9_findMay_48 : At cX9_findMay 48 (.invokestatic 85) 3 51 := ⟨by decide +kernel, rfl⟩
theorem d_X9_findMay_51 : Br cX9_findMay 51 (.if_icmp .ge 30) (30) 54 81 := ⟨by decide +kernel, rfl, rfl⟩
theorem d_X9_findMay_54 : At cX9_findMay 54 (.iload 6) 2 56 := ⟨by decide +kernel, rfl⟩
theorem d_X9_findMay_56 : At cX9_findMay 56 (.aload_n 0) 1 57 := ⟨by decide +kernel, rfl⟩
theorem d_X9_findMay_57 : At cX9_findMay 57 (.getfield 34) 3 60 := ⟨by decide +kernel, rfl⟩
theorem d_X9_findMay_60 : At cX9_findMay 60 (.aload_n 0) 1 61 := ⟨by decide +kernel, rfl⟩
theorem d_X9_findMay_61 : At cX9_findMay 61 (.iload_n 1) 1 62 := ⟨by decide +kernel, rfl⟩
theorem d_X9_findMay_62 : At cX9_findMay 62 (.iload_n 3) 1 63 := ⟨by decide +kernel, rfl⟩
theorem d_X9_findMay_63 : At cX9_findMay 63 (.iload 7) 2 65 := ⟨by decide +kernel, rfl⟩
theorem d_X9_findMay_65 : At cX9_findMay 65 (.invokevirtual 113) 3 68 := ⟨by decide +kernel, rfl⟩
theorem d_X9_findMay_68 : At cX9_findMay 68 (.iaload) 1 69 := ⟨by decide +kernel, rfl⟩
theorem d_X9_findMay_69 : At cX9_findMay 69 (.iload 7) 2 71 := ⟨by decide +kernel, rfl⟩
theorem d_X9_findMay_71 : At cX9_findMay 71 (.ishl) 1 72 := ⟨by decide +kernel, rfl⟩
theorem d_X9_findMay_72 : At cX9_findMay 72 (.ior) 1 73 := ⟨by decide +kernel, rfl⟩
theorem d_X9_findMay_73 : At cX9_findMay 73 (.istore 6) 2 75 := ⟨by decide +kernel, rfl⟩
theorem d_X9_findMay_75 : At cX9_findMay 75 (.iinc 7 1) 3 78 := ⟨by decide +kernel, rfl⟩
theorem d_X9_findMay_78 : Br cX9_findMay 78 (.goto (-34)) (-34) 81 44 := ⟨by decide +kernel, rfl, rfl⟩
theorem d_X9_findMay_81 : At cX9_findMay 81 (.aload_n 0) 1 82 := ⟨by decide +kernel, rfl⟩
theorem d_X9_findMay_82 : At cX9_findMay 82 (.getfield 34) 3 85 := ⟨by decide +kernel, rfl⟩
theorem d_X9_findMay_85 : At cX9_findMay 85 (.iload_n 3) 1 86 := ⟨by decide +kernel, rfl⟩
theorem d_X9_findMay_86 : At cX9_findMay 86 (.aload_n 0) 1 87 := ⟨by decide +kernel, rfl⟩
theorem d_X9_findMay_87 : At cX9_findMay 87 (.getfield 28) 3 90 := ⟨by decide +kernel, rfl⟩
theorem d_X9_findMay_90 : At cX9_findMay 90 (.iload 5) 2 92 := ⟨by decide +kernel, rfl⟩
theorem d_X9_findMay_92 : At cX9_findMay 92 (.iaload) 1 93 := ⟨by decide +kernel, rfl⟩
theorem d_X9_findMay_93 : At cX9_findMay 93 (.iload 6) 2 95 := ⟨by decide +kernel, rfl⟩
theorem d_X9_findMay_95 : At cX9_findMay 95 (.ishr) 1 96 := ⟨by decide +kernel, rfl⟩
theorem d_X9_findMay_96 : At cX9_findMay 96 (.iconst 1) 1 97 := ⟨by decide +kernel, rfl⟩
theorem d_X9_findMay_97 : At cX9_findMay 97 (.iand) 1 98 := ⟨by decide +kernel, rfl⟩
theorem d_X9_findMay_98 : At cX9_findMay 98 (.iastore) 1 99 := ⟨by decide +kernel, rfl⟩
theorem d_X9_findMay_99 : Br cX9_findMay 99 (.goto 129) (129) 102 228 := ⟨by decide +kernel, rfl, rfl⟩
theorem d_X9_findMay_102 : At cX9_findMay 102 (.iload 4) 2 104 := ⟨by decide +kernel, rfl⟩
theorem d_X9_findMay_104 : At cX9_findMay 104 (.invokestatic 88) 3 107 := ⟨by decide +kernel, rfl⟩
theorem d_X9_findMay_107 : Br cX9_findMay 107 (.ifCond .eq 33) (33) 110 140 := ⟨by decide +kernel, rfl, rfl⟩
theorem d_X9_findMay_110 : At cX9_findMay 110 (.aload_n 0) 1 111 := ⟨by decide +kernel, rfl⟩
theorem d_X9_findMay_111 : At cX9_findMay 111 (.getfield 34) 3 114 := ⟨by decide +kernel, rfl⟩
theorem d_X9_findMay_114 : At cX9_findMay 114 (.iload_n 3) 1 115 := ⟨by decide +kernel, rfl⟩
theorem d_X9_findMay_115 : At cX9_findMay 115 (.aload_n 0) 1 116 := ⟨by decide +kernel, rfl⟩
theorem d_X9_findMay_116 : At cX9_findMay 116 (.getfield 34) 3 119 := ⟨by decide +kernel, rfl⟩
theorem d_X9_findMay_119 : At cX9_findMay 119 (.iload_n 3) 1 120 := ⟨by decide +kernel, rfl⟩
theorem d_X9_findMay_120 : At cX9_findMay 120 (.iconst 1) 1 121 := ⟨by decide +kernel, rfl⟩
theorem d_X9_findMay_121 : At cX9_findMay 121 (.iadd) 1 122 := ⟨by decide +kernel, rfl⟩
theorem d_X9_findMay_122 : At cX9_findMay 122 (.iaload) 1 123 := ⟨by decide +kernel, rfl⟩
theorem d_X9_findMay_123 : At cX9_findMay 123 (.aload_n 0) 1 124 := ⟨by decide +kernel, rfl⟩
theorem d_X9_findMay_124 : At cX9_findMay 124 (.getfield 34) 3 127 := ⟨by decide +kernel, rfl⟩
theorem d_X9_findMay_127 : At cX9_findMay 127 (.aload_n 0) 1 128 := ⟨by decide +kernel, rfl⟩
theorem d_X9_findMay_128 : At cX9_findMay 128 (.iload_n 1) 1 129 := ⟨by decide +kernel, rfl⟩
theorem d_X9_findMay_129 : At cX9_findMay 129 (.iload_n 3) 1 130 := ⟨by decide +kernel, rfl⟩
theorem d_X9_findMay_130 : At cX9_findMay 130 (.iconst 1) 1 131 := ⟨by decide +kernel, rfl⟩
theorem d_X9_findMay_131 : At cX9_findMay 131 (.invokevirtual 113) 3 134 := ⟨by decide +kernel, rfl⟩
theorem d_X9_findMay_134 : At cX9_findMay 134 (.iaload) 1 135 := ⟨by decide +kernel, rfl⟩
theorem d_X9_findMay_135 : At cX9_findMay 135 (.iand) 1 136 := ⟨by decide +kernel, rfl⟩
theorem d_X9_findMay_136 : At cX9_findMay 136 (.iastore) 1 137 := ⟨by decide +kernel, rfl⟩
theorem d_X9_findMay_137 : Br cX9_findMay 137 (.goto 91) (91) 140 228 := ⟨by decide +kernel, rfl, rfl⟩
theorem d_X9_findMay_140 : At cX9_findMay 140 (.iload 4) 2 142 := ⟨by decide +kernel, rfl⟩
theorem d_X9_findMay_142 : At cX9_findMay 142 (.bipush 63) 2 144 := ⟨by decide +kernel, rfl⟩
theorem d_X9_findMay_144 : Br cX9_findMay 144 (.if_icmp .ne 46) (46) 147 190 := ⟨by decide +kernel, rfl, rfl⟩
theorem d_X9_findMay_147 : At cX9_findMay 147 (.aload_n 0) 1 148 := ⟨by decide +kernel, rfl⟩
theorem d_X9_findMay_148 : At cX9_findMay 148 (.getfield 34) 3 151 := ⟨by decide +kernel, rfl⟩
theorem d_X9_findMay_151 : At cX9_findMay 151 (.iload_n 3) 1 152 := ⟨by decide +kernel, rfl⟩
theorem d_X9_findMay_152 : At cX9_findMay 152 (.aload_n 0) 1 153 := ⟨by decide +kernel, rfl⟩
theorem d_X9_findMay_153 : At cX9_findMay 153 (.getfield 34) 3 156 := ⟨by decide +kernel, rfl⟩
theorem d_X9_findMay_156 : At cX9_findMay 156 (.iload_n 3) 1 157 := ⟨by decide +kernel, rfl⟩
theorem d_X9_findMay_157 : At cX9_findMay 157 (.iconst 1) 1 158 := ⟨by decide +kernel, rfl⟩
theorem d_X9_findMay_158 : At cX9_findMay 158 (.iadd) 1 159 := ⟨by decide +kernel, rfl⟩
theorem d_X9_findMay_159 : At cX9_findMay 159 (.iaload) 1 160 := ⟨by decide +kernel, rfl⟩
theorem d_X9_findMay_160 : At cX9_findMay 160 (.aload_n 0) 1 161 := ⟨by decide +kernel, rfl⟩
theorem d_X9_findMay_161 : At cX9_findMay 161 (.getfield 34) 3 164 := ⟨by decide +kernel, rfl⟩
theorem d_X9_findMay_164 : At cX9_findMay 164 (.aload_n 0) 1 165 := ⟨by decide +kernel, rfl⟩
theorem d_X9_findMay_165 : At cX9_findMay 165 (.iload_n 1) 1 166 := ⟨by decide +kernel, rfl⟩
theorem d_X9_findMay_166 : At cX9_findMay 166 (.iload_n 3) 1 167 := ⟨by decide +kernel, rfl⟩
theorem d_X9_findMay_167 : At cX9_findMay 167 (.iconst 1) 1 168 := ⟨by decide +kernel, rfl⟩
theorem d_X9_findMay_168 : At cX9_findMay 168 (.invokevirtual 113) 3 171 := ⟨by decide +kernel, rfl⟩
theorem d_X9_findMay_171 : At cX9_findMay 171 (.iaload) 1 172 := ⟨by decide +kernel, rfl⟩
theorem d_X9_findMay_172 : At cX9_findMay 172 (.aload_n 0) 1 173 := ⟨by decide +kernel, rfl⟩
theorem d_X9_findMay_173 : At cX9_findMay 173 (.getfield 34) 3 176 := ⟨by decide +kernel, rfl⟩
theorem d_X9_findMay_176 : At cX9_findMay 176 (.aload_n 0) 1 177 := ⟨by decide +kernel, rfl⟩
theorem d_X9_findMay_177 : At cX9_findMay 177 (.iload_n 1) 1 178 := ⟨by decide +kernel, rfl⟩
theorem d_X9_findMay_178 : At cX9_findMay 178 (.iload_n 3) 1 179 := ⟨by decide +kernel, rfl⟩
theorem d_X9_findMay_179 : At cX9_findMay 179 (.iconst 2) 1 180 := ⟨by decide +kernel, rfl⟩
theorem d_X9_findMay_180 : At cX9_findMay 180 (.invokevirtual 113) 3 183 := ⟨by decide +kernel, rfl⟩
theorem d_X9_findMay_183 : At cX9_findMay 183 (.iaload) 1 184 := ⟨by decide +kernel, rfl⟩
theorem d_X9_findMay_184 : At cX9_findMay 184 (.ior) 1 185 := ⟨by decide +kernel, rfl⟩
theorem d_X9_findMay_185 : At cX9_findMay 185 (.iand) 1 186 := ⟨by decide +kernel, rfl⟩
theorem d_X9_findMay_186 : At cX9_findMay 186 (.iastore) 1 187 := ⟨by decide +kernel, rfl⟩
theorem d_X9_findMay_187 : Br cX9_findMay 187 (.goto 41) (41) 190 228 := ⟨by decide +kernel, rfl, rfl⟩
theorem d_X9_findMay_190 : At cX9_findMay 190 (.aload_n 0) 1 191 := ⟨by decide +kernel, rfl⟩
theorem d_X9_findMay_191 : At cX9_findMay 191 (.getfield 34) 3 194 := ⟨by decide +kernel, rfl⟩
theorem d_X9_findMay_194 : At cX9_findMay 194 (.iload_n 3) 1 195 := ⟨by decide +kernel, rfl⟩
theorem d_X9_findMay_195 : At cX9_findMay 195 (.iload 4) 2 197 := ⟨by decide +kernel, rfl⟩
theorem d_X9_findMay_197 : At cX9_findMay 197 (.invokestatic 92) 3 200 := ⟨by decide +kernel, rfl⟩
theorem d_X9_findMay_200 : Br cX9_findMay 200 (.ifCond .eq 15) (15) 203 215 := ⟨by decide +kernel, rfl, rfl⟩
theorem d_X9_findMay_203 : At cX9_findMay 203 (.iload_n 2) 1 204 := ⟨by decide +kernel, rfl⟩
theorem d_X9_findMay_204 : At cX9_findMay 204 (.iload 4) 2 206 := ⟨by decide +kernel, rfl⟩
theorem d_X9_findMay_206 : At cX9_findMay 206 (.bipush 120) 2 208 := ⟨by decide +kernel, rfl⟩
theorem d_X9_findMay_208 : At cX9_findMay 208 (.isub) 1 209 := ⟨by decide +kernel, rfl⟩
theorem d_X9_findMay_209 : At cX9_findMay 209 (.ishr) 1 210 := ⟨by decide +kernel, rfl⟩
theorem d_X9_findMay_210 : At cX9_findMay 210 (.iconst 1) 1 211 := ⟨by decide +kernel, rfl⟩
theorem d_X9_findMay_211 : At cX9_findMay 211 (.iand) 1 212 := ⟨by decide +kernel, rfl⟩
theorem d_X9_findMay_212 : Br cX9_findMay 212 (.goto 15) (15) 215 227 := ⟨by decide +kernel, rfl, rfl⟩
theorem d_X9_findMay_215 : At cX9_findMay 215 (.iload 4) 2 217 := ⟨by decide +kernel, rfl⟩
theorem d_X9_findMay_217 : At cX9_findMay 217 (.bipush 33) 2 219 := ⟨by decide +kernel, rfl⟩
theorem d_X9_findMay_219 : Br cX9_findMay 219 (.if_icmp .ne 7) (7) 222 226 := ⟨by decide +kernel, rfl, rfl⟩
theorem d_X9_findMay_222 : At cX9_findMay 222 (.iconst 0) 1 223 := ⟨by decide +kernel, rfl⟩
theorem d_X9_findMay_223 : Br cX9_findMay 223 (.goto 4) (4) 226 227 := ⟨by decide +kernel, rfl, rfl⟩
theorem d_X9_findMay_226 : At cX9_findMay 226 (.iconst 1) 1 227 := ⟨by decide +kernel, rfl⟩
theorem d_X9_findMay_227 : At cX9_findMay 227 (.iastore) 1 228 := ⟨by decide +kernel, rfl⟩
theorem d_X9_findMay_228 : At cX9_findMay 228 (.iinc 3 (-1)) 3 231 := ⟨by decide +kernel, rfl⟩
theorem d_X9_findMay_231 : Br cX9_findMay 231 (.goto (-222)) (-222) 234 9 := ⟨by decide +kernel, rfl, rfl⟩
theorem d_X9_findMay_234 : Go cX9_findMay 234 (.return_) 1 := (by decide +kernel : decode cX9_findMay 234 = .ok (.return_, 1))
theorem d_X9_most_0 : At cX9_most 0 (.iload_n 0) 1 1 := ⟨by decide +kernel, rfl⟩
theorem d_X9_most_1 : At cX9_most 1 (.iload_n 1) 1 2 := ⟨by decide +kernel, rfl⟩
theorem d_X9_most_2 : Br cX9_most 2 (.if_icmp .le 7) (7) 5 9 := ⟨by decide +kernel, rfl, rfl⟩
theorem d_X9_most_5 : At cX9_most 5 (.iload_n 0) 1 6 := ⟨by decide +kernel, rfl⟩
theorem d_X9_most_6 : Br cX9_most 6 (.goto 4) (4) 9 10 := ⟨by decide +kernel, rfl, rfl⟩
theorem d_X9_most_9 : At cX9_most 9 (.iload_n 1) 1 10 := ⟨by decide +kernel, rfl⟩
theorem d_X9_most_10 : Go cX9_most 10 (.ireturn) 1 := (by decide +kernel : decode cX9_most 10 = .ok (.ireturn, 1))
theorem d_X9_held_0 : At cX9_held 0 (.iload_n 0) 1 1 := ⟨by decide +kernel, rfl⟩
theorem d_X9_held_1 : At cX9_held 1 (.iconst 2) 1 2 := ⟨by decide +kernel, rfl⟩
theorem d_X9_held_2 : Br cX9_held 2 (.if_icmp .le 7) (7) 5 9 := ⟨by decide +kernel, rfl, rfl⟩
theorem d_X9_held_5 : At cX9_held 5 (.iconst 2) 1 6 := ⟨by decide +kernel, rfl⟩
theorem d_X9_held_6 : Br cX9_held 6 (.goto 4) (4) 9 10 := ⟨by decide +kernel, rfl, rfl⟩
theorem d_X9_held_9 : At cX9_held 9 (.iload_n 0) 1 10 := ⟨by decide +kernel, rfl⟩
theorem d_X9_held_10 : Go cX9_held 10 (.ireturn) 1 := (by decide +kernel : decode cX9_held 10 = .ok (.ireturn, 1))
theorem d_X9_findUses_0 : At cX9_findUses 0 (.aload_n 0) 1 1 := ⟨by decide +kernel, rfl⟩
theorem d_X9_findUses_1 : At cX9_findUses 1 (.getfield 19) 3 4 := ⟨by decide +kernel, rfl⟩
theorem d_X9_findUses_4 : At cX9_findUses 4 (.iload_n 1) 1 5 := ⟨by decide +kernel, rfl⟩
theorem d_X9_findUses_5 : At cX9_findUses 5 (.iaload) 1 6 := ⟨by decide +kernel, rfl⟩
theorem d_X9_findUses_6 : At cX9_findUses 6 (.iconst 1) 1 7 := ⟨by decide +kernel, rfl⟩
theorem d_X9_findUses_7 : At cX9_findUses 7 (.isub) 1 8 := ⟨by decide +kernel, rfl⟩
theorem d_X9_findUses_8 : At cX9_findUses 8 (.istore_n 3) 1 9 := ⟨by decide +kernel, rfl⟩
theorem d_X9_findUses_9 : At cX9_findUses 9 (.iload_n 3) 1 10 := ⟨by decide +kernel, rfl⟩
theorem d_X9_findUses_10 : Br cX9_findUses 10 (.ifCond .lt 201) (201) 13 211 := ⟨by decide +kernel, rfl, rfl⟩
theorem d_X9_findUses_13 : At cX9_findUses 13 (.aload_n 0) 1 14 := ⟨by decide +kernel, rfl⟩
theorem d_X9_findUses_14 : At cX9_findUses 14 (.getfield 7) 3 17 := ⟨by decide +kernel, rfl⟩
theorem d_X9_findUses_17 : At cX9_findUses 17 (.bipush 30) 2 19 := ⟨by decide +kernel, rfl⟩
theorem d_X9_findUses_19 : At cX9_findUses 19 (.iload_n 1) 1 20 := ⟨by decide +kernel, rfl⟩
theorem d_X9_findUses_20 : At cX9_findUses 20 (.imul) 1 21 := ⟨by decide +kernel, rfl⟩
theorem d_X9_findUses_21 : At cX9_findUses 21 (.iload_n 3) 1 22 := ⟨by decide +kernel, rfl⟩
theorem d_X9_findUses_22 : At cX9_findUses 22 (.iadd) 1 23 := ⟨by decide +kernel, rfl⟩
theorem d_X9_findUses_23 : At cX9_findUses 23 (.iaload) 1 24 := ⟨by decide +kernel, rfl⟩
theorem d_X9_findUses_24 : At cX9_findUses 24 (.istore 4) 2 26 := ⟨by decide +kernel, rfl⟩
theorem d_X9_findUses_26 : At cX9_findUses 26 (.iload 4) 2 28 := ⟨by decide +kernel, rfl⟩
theorem d_X9_findUses_28 : At cX9_findUses 28 (.invokestatic 81) 3 31 := ⟨by decide +kernel, rfl⟩
theorem d_X9_findUses_31 : At cX9_findUses 31 (.istore 5) 2 33 := ⟨by decide +kernel, rfl⟩
theorem d_X9_findUses_33 : At cX9_findUses 33 (.iload 4) 2 35 := ⟨by decide +kernel, rfl⟩
theorem d_X9_findUses_35 : At cX9_findUses 35 (.invokestatic 92) 3 38 := ⟨by decide +kernel, rfl⟩
theorem d_X9_findUses_38 : Br cX9_findUses 38 (.ifCond .eq 16) (16) 41 54 := ⟨by decide +kernel, rfl, rfl⟩
theorem d_X9_findUses_41 : At cX9_findUses 41 (.iload 4) 2 43 := ⟨by decide +kernel, rfl⟩
theorem d_X9_findUses_43 : At cX9_findUses 43 (.bipush 120) 2 45 := ⟨by decide +kernel, rfl⟩
theorem d_X9_findUses_45 : At cX9_findUses 45 (.isub) 1 46 := ⟨by decide +kernel, rfl⟩
theorem d_X9_findUses_46 : At cX9_findUses 46 (.iload_n 2) 1 47 := ⟨by decide +kernel, rfl⟩
theorem d_X9_findUses_47 : Br cX9_findUses 47 (.if_icmp .ne 7) (7) 50 54 := ⟨by decide +kernel, rfl, rfl⟩
theorem d_X9_findUses_50 : At cX9_findUses 50 (.iconst 1) 1 51 := ⟨by decide +kernel, rfl⟩
theorem d_X9_findUses_51 : Br cX9_findUses 51 (.goto 4) (4) 54 55 := ⟨by decide +kernel, rfl, rfl⟩
theorem d_X9_findUses_54 : At cX9_findUses 54 (.iconst 0) 1 55 := ⟨by decide +kernel, rfl⟩
theorem d_X9_findUses_55 : At cX9_findUses 55 (.istore 6) 2 57 := ⟨by decide +kernel, rfl⟩
theorem d_X9_findUses_57 : At cX9_findUses 57 (.iload 5) 2 59 := ⟨by decide +kernel, rfl⟩
theorem d_X9_findUses_59 : Br cX9_findUses 59 (.ifCond .lt 56) (56) 62 115 := ⟨by decide +kernel, rfl, rfl⟩
theorem d_X9_findUses_62 : At cX9_findUses 62 (.iconst 0) 1 63 := ⟨by decide +kernel, rfl⟩
theorem d_X9_findUses_63 : At cX9_findUses 63 (.istore 7) 2 65 := ⟨by decide +kernel, rfl⟩
theorem d_X9_findUses_65 : At cX9_findUses 65 (.iload 7) 2 67 := ⟨by decide +kernel, rfl⟩
theorem d_X9_findUses_67 : At cX9_findUses 67 (.iload 5) 2 69 := ⟨by decide +kernel, rfl⟩
theorem d_X9_findUses_69 : At cX9_findUses 69 (.invokestatic 85) 3 72 := ⟨by decide +kernel, rfl⟩
theorem d_X9_findUses_72 : Br cX9_findUses 72 (.if_icmp .ge 40) (40) 75 112 := ⟨by decide +kernel, rfl, rfl⟩
theorem d_X9_findUses_75 : At cX9_findUses 75 (.iload 6) 2 77 := ⟨by decide +kernel, rfl⟩
theorem d_X9_findUses_77 : At cX9_findUses 77 (.aload_n 0) 1 78 := ⟨by decide +kernel, rfl⟩
theorem d_X9_findUses_78 : At cX9_findUses 78 (.getfield 34) 3 81 := ⟨by decide +kernel, rfl⟩
theorem d_X9_findUses_81 : At cX9_findUses 81 (.aload_n 0) 1 82 := ⟨by decide +kernel, rfl⟩
theorem d_X9_findUses_82 : At cX9_findUses 82 (.iload_n 1) 1 83 := ⟨by decide +kernel, rfl⟩
theorem d_X9_findUses_83 : At cX9_findUses 83 (.iload_n 3) 1 84 := ⟨by decide +kernel, rfl⟩
theorem d_X9_findUses_84 : At cX9_findUses 84 (.iload 7) 2 86 := ⟨by decide +kernel, rfl⟩
theorem d_X9_findUses_86 : At cX9_findUses 86 (.invokevirtual 113) 3 89 := ⟨by decide +kernel, rfl⟩
theorem d_X9_findUses_89 : At cX9_findUses 89 (.iaload) 1 90 := ⟨by decide +kernel, rfl⟩
theorem d_X9_findUses_90 : At cX9_findUses 90 (.aload_n 0) 1 91 := ⟨by decide +kernel, rfl⟩
theorem d_X9_findUses_91 : At cX9_findUses 91 (.getfield 31) 3 94 := ⟨by decide +kernel, rfl⟩
theorem d_X9_findUses_94 : At cX9_findUses 94 (.iconst 3) 1 95 := ⟨by decide +kernel, rfl⟩
theorem d_X9_findUses_95 : At cX9_findUses 95 (.iload 5) 2 97 := ⟨by decide +kernel, rfl⟩
theorem d_X9_findUses_97 : At cX9_findUses 97 (.imul) 1 98 := ⟨by decide +kernel, rfl⟩
theorem d_X9_findUses_98 : At cX9_findUses 98 (.iload 7) 2 100 := ⟨by decide +kernel, rfl⟩
theorem d_X9_findUses_100 : At cX9_findUses 100 (.iadd) 1 101 := ⟨by decide +kernel, rfl⟩
theorem d_X9_findUses_101 : At cX9_findUses 101 (.iaload) 1 102 := ⟨by decide +kernel, rfl⟩
theorem d_X9_findUses_102 : At cX9_findUses 102 (.imul) 1 103 := ⟨by decide +kernel, rfl⟩
theorem d_X9_findUses_103 : At cX9_findUses 103 (.iadd) 1 104 := ⟨by decide +kernel, rfl⟩
theorem d_X9_findUses_104 : At cX9_findUses 104 (.istore 6) 2 106 := ⟨by decide +kernel, rfl⟩
theorem d_X9_findUses_106 : At cX9_findUses 106 (.iinc 7 1) 3 109 := ⟨by decide +kernel, rfl⟩
theorem d_X9_findUses_109 : Br cX9_findUses 109 (.goto (-44)) (-44) 112 65 := ⟨by decide +kernel, rfl, rfl⟩
theorem d_X9_findUses_112 : Br cX9_findUses 112 (.goto 82) (82) 115 194 := ⟨by decide +kernel, rfl, rfl⟩
theorem d_X9_findUses_115 : At cX9_findUses 115 (.iload 4) 2 117 := ⟨by decide +kernel, rfl⟩
theorem d_X9_findUses_117 : At cX9_findUses 117 (.invokestatic 88) 3 120 := ⟨by decide +kernel, rfl⟩
theorem d_X9_findUses_120 : Br cX9_findUses 120 (.ifCond .eq 29) (29) 123 149 := ⟨by decide +kernel, rfl, rfl⟩
theorem d_X9_findUses_123 : At cX9_findUses 123 (.aload_n 0) 1 124 := ⟨by decide +kernel, rfl⟩
theorem d_X9_findUses_124 : At cX9_findUses 124 (.getfield 34) 3 127 := ⟨by decide +kernel, rfl⟩
theorem d_X9_findUses_127 : At cX9_findUses 127 (.iload_n 3) 1 128 := ⟨by decide +kernel, rfl⟩
theorem d_X9_findUses_128 : At cX9_findUses 128 (.iconst 1) 1 129 := ⟨by decide +kernel, rfl⟩
theorem d_X9_findUses_129 : At cX9_findUses 129 (.iadd) 1 130 := ⟨by decide +kernel, rfl⟩
theorem d_X9_findUses_130 : At cX9_findUses 130 (.iaload) 1 131 := ⟨by decide +kernel, rfl⟩
theorem d_X9_findUses_131 : At cX9_findUses 131 (.aload_n 0) 1 132 := ⟨by decide +kernel, rfl⟩
theorem d_X9_findUses_132 : At cX9_findUses 132 (.getfield 34) 3 135 := ⟨by decide +kernel, rfl⟩
theorem d_X9_findUses_135 : At cX9_findUses 135 (.aload_n 0) 1 136 := ⟨by decide +kernel, rfl⟩
theorem d_X9_findUses_136 : At cX9_findUses 136 (.iload_n 1) 1 137 := ⟨by decide +kernel, rfl⟩
theorem d_X9_findUses_137 : At cX9_findUses 137 (.iload_n 3) 1 138 := ⟨by decide +kernel, rfl⟩
theorem d_X9_findUses_138 : At cX9_findUses 138 (.iconst 1) 1 139 := ⟨by decide +kernel, rfl⟩
theorem d_X9_findUses_139 : At cX9_findUses 139 (.invokevirtual 113) 3 142 := ⟨by decide +kernel, rfl⟩
theorem d_X9_findUses_142 : At cX9_findUses 142 (.iaload) 1 143 := ⟨by decide +kernel, rfl⟩
theorem d_X9_findUses_143 : At cX9_findUses 143 (.iadd) 1 144 := ⟨by decide +kernel, rfl⟩
theorem d_X9_findUses_144 : At cX9_findUses 144 (.istore 6) 2 146 := ⟨by decide +kernel, rfl⟩
theorem d_X9_findUses_146 : Br cX9_findUses 146 (.goto 48) (48) 149 194 := ⟨by decide +kernel, rfl, rfl⟩
theorem d_X9_findUses_149 : At cX9_findUses 149 (.iload 4) 2 151 := ⟨by decide +kernel, rfl⟩
theorem d_X9_findUses_151 : At cX9_findUses 151 (.bipush 63) 2 153 := ⟨by decide +kernel, rfl⟩
theorem d_X9_findUses_153 : Br cX9_findUses 153 (.if_icmp .ne 41) (41) 156 194 := ⟨by decide +kernel, rfl, rfl⟩
theorem d_X9_findUses_156 : At cX9_findUses 156 (.aload_n 0) 1 157 := ⟨by decide +kernel, rfl⟩
theorem d_X9_findUses_157 : At cX9_findUses 157 (.getfield 34) 3 160 := ⟨by decide +kernel, rfl⟩
theorem d_X9_findUses_160 : At cX9_findUses 160 (.iload_n 3) 1 161 := ⟨by decide +kernel, rfl⟩
theorem d_X9_findUses_161 : At cX9_findUses 161 (.iconst 1) 1 162 := ⟨by decide +kernel, rfl⟩
theorem d_X9_findUses_162 : At cX9_findUses 162 (.iadd) 1 163 := ⟨by decide +kernel, rfl⟩
theorem d_X9_findUses_163 : At cX9_findUses 163 (.iaload) 1 164 := ⟨by decide +kernel, rfl⟩
theorem d_X9_findUses_164 : At cX9_findUses 164 (.aload_n 0) 1 165 := ⟨by decide +kernel, rfl⟩
theorem d_X9_findUses_165 : At cX9_findUses 165 (.getfield 34) 3 168 := ⟨by decide +kernel, rfl⟩
theorem d_X9_findUses_168 : At cX9_findUses 168 (.aload_n 0) 1 169 := ⟨by decide +kernel, rfl⟩
theorem d_X9_findUses_169 : At cX9_findUses 169 (.iload_n 1) 1 170 := ⟨by decide +kernel, rfl⟩
theorem d_X9_findUses_170 : At cX9_findUses 170 (.iload_n 3) 1 171 := ⟨by decide +kernel, rfl⟩
theorem d_X9_findUses_171 : At cX9_findUses 171 (.iconst 1) 1 172 := ⟨by decide +kernel, rfl⟩
theorem d_X9_findUses_172 : At cX9_findUses 172 (.invokevirtual 113) 3 175 := ⟨by decide +kernel, rfl⟩
theorem d_X9_findUses_175 : At cX9_findUses 175 (.iaload) 1 176 := ⟨by decide +kernel, rfl⟩
theorem d_X9_findUses_176 : At cX9_findUses 176 (.aload_n 0) 1 177 := ⟨by decide +kernel, rfl⟩
theorem d_X9_findUses_177 : At cX9_findUses 177 (.getfield 34) 3 180 := ⟨by decide +kernel, rfl⟩
theorem d_X9_findUses_180 : At cX9_findUses 180 (.aload_n 0) 1 181 := ⟨by decide +kernel, rfl⟩
theorem d_X9_findUses_181 : At cX9_findUses 181 (.iload_n 1) 1 182 := ⟨by decide +kernel, rfl⟩
theorem d_X9_findUses_182 : At cX9_findUses 182 (.iload_n 3) 1 183 := ⟨by decide +kernel, rfl⟩
theorem d_X9_findUses_183 : At cX9_findUses 183 (.iconst 2) 1 184 := ⟨by decide +kernel, rfl⟩
theorem d_X9_findUses_184 : At cX9_findUses 184 (.invokevirtual 113) 3 187 := ⟨by decide +kernel, rfl⟩
theorem d_X9_findUses_187 : At cX9_findUses 187 (.iaload) 1 188 := ⟨by decide +kernel, rfl⟩
theorem d_X9_findUses_188 : At cX9_findUses 188 (.invokestatic 117) 3 191 := ⟨by decide +kernel, rfl⟩
theorem d_X9_findUses_191 : At cX9_findUses 191 (.iadd) 1 192 := ⟨by decide +kernel, rfl⟩
theorem d_X9_findUses_192 : At cX9_findUses 192 (.istore 6) 2 194 := ⟨by decide +kernel, rfl⟩
theorem d_X9_findUses_194 : At cX9_findUses 194 (.aload_n 0) 1 195 := ⟨by decide +kernel, rfl⟩
theorem d_X9_findUses_195 : At cX9_findUses 195 (.getfield 34) 3 198 := ⟨by decide +kernel, rfl⟩
theorem d_X9_findUses_198 : At cX9_findUses 198 (.iload_n 3) 1 199 := ⟨by decide +kernel, rfl⟩
theorem d_X9_findUses_199 : At cX9_findUses 199 (.iload 6) 2 201 := ⟨by decide +kernel, rfl⟩
theorem d_X9_findUses_201 : At cX9_findUses 201 (.invokestatic 120) 3 204 := ⟨by decide +kernel, rfl⟩
theorem d_X9_findUses_204 : At cX9_findUses 204 (.iastore) 1 205 := ⟨by decide +kernel, rfl⟩
theorem d_X9_findUses_205 : At cX9_findUses 205 (.iinc 3 (-1)) 3 208 := ⟨by decide +kernel, rfl⟩
theorem d_X9_findUses_208 : Br cX9_findUses 208 (.goto (-199)) (-199) 211 9 := ⟨by decide +kernel, rfl, rfl⟩
theorem d_X9_findUses_211 : At cX9_findUses 211 (.aload_n 0) 1 212 := ⟨by decide +kernel, rfl⟩
theorem d_X9_findUses_212 : At cX9_findUses 212 (.getfield 34) 3 215 := ⟨by decide +kernel, rfl⟩
theorem d_X9_findUses_215 : At cX9_findUses 215 (.iconst 0) 1 216 := ⟨by decide +kernel, rfl⟩
theorem d_X9_findUses_216 : At cX9_findUses 216 (.iaload) 1 217 := ⟨by decide +kernel, rfl⟩
theorem d_X9_findUses_217 : Go cX9_findUses 217 (.ireturn) 1 := (by decide +kernel : decode cX9_findUses 217 = .ok (.ireturn, 1))
theorem d_X9_layTables_0 : At cX9_layTables 0 (.iconst 0) 1 1 := ⟨by decide +kernel, rfl⟩
theorem d_X9_layTables_1 : At cX9_layTables 1 (.istore_n 1) 1 2 := ⟨by decide +kernel, rfl⟩
theorem d_X9_layTables_2 : At cX9_layTables 2 (.iload_n 1) 1 3 := ⟨by decide +kernel, rfl⟩
theorem d_X9_layTables_3 : At cX9_layTables 3 (.iconst 4) 1 4 := ⟨by decide +kernel, rfl⟩
theorem d_X9_layTables_4 : Br cX9_layTables 4 (.if_icmp .ge 40) (40) 7 44 := ⟨by decide +kernel, rfl, rfl⟩
theorem d_X9_layTables_7 : At cX9_layTables 7 (.aload_n 0) 1 8 := ⟨by decide +kernel, rfl⟩
theorem d_X9_layTables_8 : At cX9_layTables 8 (.getfield 28) 3 11 := ⟨by decide +kernel, rfl⟩
theorem d_X9_layTables_11 : At cX9_layTables 11 (.iload_n 1) 1 12 := ⟨by decide +kernel, rfl⟩
theorem d_X9_layTables_12 : At cX9_layTables 12 (.iconst 0) 1 13 := ⟨by decide +kernel, rfl⟩
theorem d_X9_layTables_13 : At cX9_layTables 13 (.iastore) 1 14 := ⟨by decide +kernel, rfl⟩
theorem d_X9_layTables_14 : At cX9_layTables 14 (.iconst 0) 1 15 := ⟨by decide +kernel, rfl⟩
theorem d_X9_layTables_15 : At cX9_layTables 15 (.istore_n 2) 1 16 := ⟨by decide +kernel, rfl⟩
theorem d_X9_layTables_16 : At cX9_layTables 16 (.iload_n 2) 1 17 := ⟨by decide +kernel, rfl⟩
theorem d_X9_layTables_17 : At cX9_layTables 17 (.iconst 3) 1 18 := ⟨by decide +kernel, rfl⟩
theorem d_X9_layTables_18 : Br cX9_layTables 18 (.if_icmp .ge 20) (20) 21 38 := ⟨by decide +kernel, rfl, rfl⟩
theorem d_X9_layTables_21 : At cX9_layTables 21 (.aload_n 0) 1 22 := ⟨by decide +kernel, rfl⟩
theorem d_X9_layTables_22 : At cX9_layTables 22 (.getfield 31) 3 25 := ⟨by decide +kernel, rfl⟩
theorem d_X9_layTables_25 : At cX9_layTables 25 (.iconst 3) 1 26 := ⟨by decide +kernel, rfl⟩
theorem d_X9_layTables_26 : At cX9_layTables 26 (.iload_n 1) 1 27 := ⟨by decide +kernel, rfl⟩
theorem d_X9_layTables_27 : At cX9_layTables 27 (.imul) 1 28 := ⟨by decide +kernel, rfl⟩
theorem d_X9_layTables_28 : At cX9_layTables 28 (.iload_n 2) 1 29 := ⟨by decide +kernel, rfl⟩
theorem d_X9_layTables_29 : At cX9_layTables 29 (.iadd) 1 30 := ⟨by decide +kernel, rfl⟩
theorem d_X9_layTables_30 : At cX9_layTables 30 (.iconst 0) 1 31 := ⟨by decide +kernel, rfl⟩
theorem d_X9_layTables_31 : At cX9_layTables 31 (.iastore) 1 32 := ⟨by decide +kernel, rfl⟩
theorem d_X9_layTables_32 : At cX9_layTables 32 (.iinc 2 1) 3 35 := ⟨by decide +kernel, rfl⟩
theorem d_X9_layTables_35 : Br cX9_layTables 35 (.goto (-19)) (-19) 38 16 := ⟨by decide +kernel, rfl, rfl⟩
theorem d_X9_layTables_38 : At cX9_layTables 38 (.iinc 1 1) 3 41 := ⟨by decide +kernel, rfl⟩
theorem d_X9_layTables_41 : Br cX9_layTables 41 (.goto (-39)) (-39) 44 2 := ⟨by decide +kernel, rfl, rfl⟩
theorem d_X9_layTables_44 : At cX9_layTables 44 (.iconst 1) 1 45 := ⟨by decide +kernel, rfl⟩
theorem d_X9_layTables_45 : At cX9_layTables 45 (.istore_n 1) 1 46 := ⟨by decide +kernel, rfl⟩
theorem d_X9_layTables_46 : At cX9_layTables 46 (.iload_n 1) 1 47 := ⟨by decide +kernel, rfl⟩
theorem d_X9_layTables_47 : Br cX9_layTables 47 (.ifCond .eq 152) (152) 50 199 := ⟨by decide +kernel, rfl, rfl⟩
theorem d_X9_layTables_50 : At cX9_layTables 50 (.iconst 0) 1 51 := ⟨by decide +kernel, rfl⟩
theorem d_X9_layTables_51 : At cX9_layTables 51 (.istore_n 1) 1 52 := ⟨by decide +kernel, rfl⟩
theorem d_X9_layTables_52 : At cX9_layTables 52 (.iconst 0) 1 53 := ⟨by decide +kernel, rfl⟩
theorem d_X9_layTables_53 : At cX9_layTables 53 (.istore_n 2) 1 54 := ⟨by decide +kernel, rfl⟩
theorem d_X9_layTables_54 : At cX9_layTables 54 (.iload_n 2) 1 55 := ⟨by decide +kernel, rfl⟩
theorem d_X9_layTables_55 : At cX9_layTables 55 (.iconst 4) 1 56 := ⟨by decide +kernel, rfl⟩
theorem d_X9_layTables_56 : Br cX9_layTables 56 (.if_icmp .ge 140) (140) 59 196 := ⟨by decide +kernel, rfl, rfl⟩
theorem d_X9_layTables_59 : At cX9_layTables 59 (.iconst 0) 1 60 := ⟨by decide +kernel, rfl⟩
theorem d_X9_layTables_60 : At cX9_layTables 60 (.istore_n 3) 1 61 := ⟨by decide +kernel, rfl⟩
theorem d_X9_layTables_61 : At cX9_layTables 61 (.iload_n 3) 1 62 := ⟨by decide +kernel, rfl⟩
theorem d_X9_layTables_62 : At cX9_layTables 62 (.iconst 1) 1 63 := ⟨by decide +kernel, rfl⟩
theorem d_X9_layTables_63 : At cX9_layTables 63 (.iload_n 2) 1 64 := ⟨by decide +kernel, rfl⟩
theorem d_X9_layTables_64 : At cX9_layTables 64 (.invokestatic 85) 3 67 := ⟨by decide +kernel, rfl⟩
theorem d_X9_layTables_67 : At cX9_layTables 67 (.ishl) 1 68 := ⟨by decide +kernel, rfl⟩
theorem d_X9_layTables_68 : Br cX9_layTables 68 (.if_icmp .ge 61) (61) 71 129 := ⟨by decide +kernel, rfl, rfl⟩
theorem d_X9_layTables_71 : At cX9_layTables 71 (.aload_n 0) 1 72 := ⟨by decide +kernel, rfl⟩
theorem d_X9_layTables_72 : At cX9_layTables 72 (.iload_n 2) 1 73 := ⟨by decide +kernel, rfl⟩
theorem d_X9_layTables_73 : At cX9_layTables 73 (.iload_n 3) 1 74 := ⟨by decide +kernel, rfl⟩
theorem d_X9_layTables_74 : At cX9_layTables 74 (.invokevirtual 123) 3 77 := ⟨by decide +kernel, rfl⟩
theorem d_X9_layTables_77 : At cX9_layTables 77 (.iload_n 1) 1 78 := ⟨by decide +kernel, rfl⟩
theorem d_X9_layTables_78 : Br cX9_layTables 78 (.ifCond .ne 22) (22) 81 100 := ⟨by decide +kernel, rfl, rfl⟩
theorem d_X9_layTables_81 : At cX9_layTables 81 (.aload_n 0) 1 82 := ⟨by decide +kernel, rfl⟩
theorem d_X9_layTables_82 : At cX9_layTables 82 (.getfield 28) 3 85 := ⟨by decide +kernel, rfl⟩
theorem d_X9_layTables_85 : At cX9_layTables 85 (.iload_n 2) 1 86 := ⟨by decide +kernel, rfl⟩
theorem d_X9_layTables_86 : At cX9_layTables 86 (.iaload) 1 87 := ⟨by decide +kernel, rfl⟩
theorem d_X9_layTables_87 : At cX9_layTables 87 (.iload_n 3) 1 88 := ⟨by decide +kernel, rfl⟩
theorem d_X9_layTables_88 : At cX9_layTables 88 (.ishr) 1 89 := ⟨by decide +kernel, rfl⟩
theorem d_X9_layTables_89 : At cX9_layTables 89 (.iconst 1) 1 90 := ⟨by decide +kernel, rfl⟩
theorem d_X9_layTables_90 : At cX9_layTables 90 (.iand) 1 91 := ⟨by decide +kernel, rfl⟩
theorem d_X9_layTables_91 : At cX9_layTables 91 (.aload_n 0) 1 92 := ⟨by decide +kernel, rfl⟩
theorem d_X9_layTables_92 : At cX9_layTables 92 (.getfield 34) 3 95 := ⟨by decide +kernel, rfl⟩
theorem d_X9_layTables_95 : At cX9_layTables 95 (.iconst 0) 1 96 := ⟨by decide +kernel, rfl⟩
theorem d_X9_layTables_96 : At cX9_layTables 96 (.iaload) 1 97 := ⟨by decide +kernel, rfl⟩
theorem d_X9_layTables_97 : Br cX9_layTables 97 (.if_icmp .eq 7) (7) 100 104 := ⟨by decide +kernel, rfl, rfl⟩
theorem d_X9_layTables_100 : At cX9_layTables 100 (.iconst 1) 1 101 := ⟨by decide +kernel, rfl⟩
theorem d_X9_layTables_101 : Br cX9_layTables 101 (.goto 4) (4) 104 105 := ⟨by decide +kernel, rfl, rfl⟩
theorem d_X9_layTables_104 : At cX9_layTables 104 (.iconst 0) 1 105 := ⟨by decide +kernel, rfl⟩
theorem d_X9_layTables_105 : At cX9_layTables 105 (.istore_n 1) 1 106 := ⟨by decide +kernel, rfl⟩
theorem d_X9_layTables_106 : At cX9_layTables 106 (.aload_n 0) 1 107 := ⟨by decide +kernel, rfl⟩
theorem d_X9_layTables_107 : At cX9_layTables 107 (.getfield 28) 3 110 := ⟨by decide +kernel, rfl⟩
theorem d_X9_layTables_110 : At cX9_layTables 110 (.iload_n 2) 1 111 := ⟨by decide +kernel, rfl⟩
theorem d_X9_layTables_111 : At cX9_layTables 111 (.dup2) 1 112 := ⟨by decide +kernel, rfl⟩
theorem d_X9_layTables_112 : At cX9_layTables 112 (.iaload) 1 113 := ⟨by decide +kernel, rfl⟩
theorem d_X9_layTables_113 : At cX9_layTables 113 (.aload_n 0) 1 114 := ⟨by decide +kernel, rfl⟩
theorem d_X9_layTables_114 : At cX9_layTables 114 (.getfield 34) 3 117 := ⟨by decide +kernel, rfl⟩
theorem d_X9_layTables_117 : At cX9_layTables 117 (.iconst 0) 1 118 := ⟨by decide +kernel, rfl⟩
theorem d_X9_layTables_118 : At cX9_layTables 118 (.iaload) 1 119 := ⟨by decide +kernel, rfl⟩
theorem d_X9_layTables_119 : At cX9_layTables 119 (.iload_n 3) 1 120 := ⟨by decide +kernel, rfl⟩
theorem d_X9_layTables_120 : At cX9_layTables 120 (.ishl) 1 121 := ⟨by decide +kernel, rfl⟩
theorem d_X9_layTables_121 : At cX9_layTables 121 (.ior) 1 122 := ⟨by decide +kernel, rfl⟩
theorem d_X9_layTables_122 : At cX9_layTables 122 (.iastore) 1 123 := ⟨by decide +kernel, rfl⟩
theorem d_X9_layTables_123 : At cX9_layTables 123 (.iinc 3 1) 3 126 := ⟨by decide +kernel, rfl⟩
theorem d_X9_layTables_126 : Br cX9_layTables 126 (.goto (-65)) (-65) 129 61 := ⟨by decide +kernel, rfl, rfl⟩
theorem d_X9_layTables_129 : At cX9_layTables 129 (.iconst 0) 1 130 := ⟨by decide +kernel, rfl⟩
theorem d_X9_layTables_130 : At cX9_layTables 130 (.istore_n 3) 1 131 := ⟨by decide +kernel, rfl⟩
theorem d_X9_layTables_131 : At cX9_layTables 131 (.iload_n 3) 1 132 := ⟨by decide +kernel, rfl⟩
theorem d_X9_layTables_132 : At cX9_layTables 132 (.iload_n 2) 1 133 := ⟨by decide +kernel, rfl⟩
theorem d_X9_layTables_133 : At cX9_layTables 133 (.invokestatic 85) 3 136 := ⟨by decide +kernel, rfl⟩
theorem d_X9_layTables_136 : Br cX9_layTables 136 (.if_icmp .ge 54) (54) 139 190 := ⟨by decide +kernel, rfl, rfl⟩
theorem d_X9_layTables_139 : At cX9_layTables 139 (.aload_n 0) 1 140 := ⟨by decide +kernel, rfl⟩
theorem d_X9_layTables_140 : At cX9_layTables 140 (.iload_n 2) 1 141 := ⟨by decide +kernel, rfl⟩
theorem d_X9_layTables_141 : At cX9_layTables 141 (.iload_n 3) 1 142 := ⟨by decide +kernel, rfl⟩
theorem d_X9_layTables_142 : At cX9_layTables 142 (.invokevirtual 127) 3 145 := ⟨by decide +kernel, rfl⟩
theorem d_X9_layTables_145 : At cX9_layTables 145 (.istore 4) 2 147 := ⟨by decide +kernel, rfl⟩
theorem d_X9_layTables_147 : At cX9_layTables 147 (.iload_n 1) 1 148 := ⟨by decide +kernel, rfl⟩
theorem d_X9_layTables_148 : Br cX9_layTables 148 (.ifCond .ne 18) (18) 151 166 := ⟨by decide +kernel, rfl, rfl⟩
theorem d_X9_layTables_151 : At cX9_layTables 151 (.aload_n 0) 1 152 := ⟨by decide +kernel, rfl⟩
theorem d_X9_layTables_152 : At cX9_layTables 152 (.getfield 31) 3 155 := ⟨by decide +kernel, rfl⟩
theorem d_X9_layTables_155 : At cX9_layTables 155 (.iconst 3) 1 156 := ⟨by decide +kernel, rfl⟩
theorem d_X9_layTables_156 : At cX9_layTables 156 (.iload_n 2) 1 157 := ⟨by decide +kernel, rfl⟩
theorem d_X9_layTables_157 : At cX9_layTables 157 (.imul) 1 158 := ⟨by decide +kernel, rfl⟩
theorem d_X9_layTables_158 : At cX9_layTables 158 (.iload_n 3) 1 159 := ⟨by decide +kernel, rfl⟩
theorem d_X9_layTables_159 : At cX9_layTables 159 (.iadd) 1 160 := ⟨by decide +kernel, rfl⟩
theorem d_X9_layTables_160 : At cX9_layTables 160 (.iaload) 1 161 := ⟨by decide +kernel, rfl⟩
theorem d_X9_layTables_161 : At cX9_layTables 161 (.iload 4) 2 163 := ⟨by decide +kernel, rfl⟩
theorem d_X9_layTables_163 : Br cX9_layTables 163 (.if_icmp .eq 7) (7) 166 170 := ⟨by decide +kernel, rfl, rfl⟩
theorem d_X9_layTables_166 : At cX9_layTables 166 (.iconst 1) 1 167 := ⟨by decide +kernel, rfl⟩
theorem d_X9_layTables_167 : Br cX9_layTables 167 (.goto 4) (4) 170 171 := ⟨by decide +kernel, rfl, rfl⟩
theorem d_X9_layTables_170 : At cX9_layTables 170 (.iconst 0) 1 171 := ⟨by decide +kernel, rfl⟩
theorem d_X9_layTables_171 : At cX9_layTables 171 (.istore_n 1) 1 172 := ⟨by decide +kernel, rfl⟩
theorem d_X9_layTables_172 : At cX9_layTables 172 (.aload_n 0) 1 173 := ⟨by decide +kernel, rfl⟩
theorem d_X9_layTables_173 : At cX9_layTables 173 (.getfield 31) 3 176 := ⟨by decide +kernel, rfl⟩
theorem d_X9_layTables_176 : At cX9_layTables 176 (.iconst 3) 1 177 := ⟨by decide +kernel, rfl⟩
theorem d_X9_layTables_177 : At cX9_layTables 177 (.iload_n 2) 1 178 := ⟨by decide +kernel, rfl⟩
theorem d_X9_layTables_178 : At cX9_layTables 178 (.imul) 1 179 := ⟨by decide +kernel, rfl⟩
theorem d_X9_layTables_179 : At cX9_layTables 179 (.iload_n 3) 1 180 := ⟨by decide +kernel, rfl⟩
theorem d_X9_layTables_180 : At cX9_layTables 180 (.iadd) 1 181 := ⟨by decide +kernel, rfl⟩
theorem d_X9_layTables_181 : At cX9_layTables 181 (.iload 4) 2 183 := ⟨by decide +kernel, rfl⟩
theorem d_X9_layTables_183 : At cX9_layTables 183 (.iastore) 1 184 := ⟨by decide +kernel, rfl⟩
theorem d_X9_layTables_184 : At cX9_layTables 184 (.iinc 3 1) 3 187 := ⟨by decide +kernel, rfl⟩
theorem d_X9_layTables_187 : Br cX9_layTables 187 (.goto (-56)) (-56) 190 131 := ⟨by decide +kernel, rfl, rfl⟩
theorem d_X9_layTables_190 : At cX9_layTables 190 (.iinc 2 1) 3 193 := ⟨by decide +kernel, rfl⟩
theorem d_X9_layTables_193 : Br cX9_layTables 193 (.goto (-139)) (-139) 196 54 := ⟨by decide +kernel, rfl, rfl⟩
theorem d_X9_layTables_196 : Br cX9_layTables 196 (.goto (-150)) (-150) 199 46 := ⟨by decide +kernel, rfl, rfl⟩
theorem d_X9_layTables_199 : Go cX9_layTables 199 (.return_) 1 := (by decide +kernel : decode cX9_layTables 199 = .ok (.return_, 1))
theorem d_X9_allOf_0 : At cX9_allOf 0 (.iconst 1) 1 1 := ⟨by decide +kernel, rfl⟩
theorem d_X9_allOf_1 : At cX9_allOf 1 (.iload_n 0) 1 2 := ⟨by decide +kernel, rfl⟩
theorem d_X9_allOf_2 : At cX9_allOf 2 (.invokestatic 85) 3 5 := ⟨by decide +kernel, rfl⟩
theorem d_X9_allOf_5 : At cX9_allOf 5 (.ishl) 1 6 := ⟨by decide +kernel, rfl⟩
theorem d_X9_allOf_6 : At cX9_allOf 6 (.iconst 1) 1 7 := ⟨by decide +kernel, rfl⟩
theorem d_X9_allOf_7 : At cX9_allOf 7 (.isub) 1 8 := ⟨by decide +kernel, rfl⟩
theorem d_X9_allOf_8 : Go cX9_allOf 8 (.ireturn) 1 := (by decide +kernel : decode cX9_allOf 8 = .ok (.ireturn, 1))
theorem d_X9_mayCome_0 : At cX9_mayCome 0 (.aload_n 0) 1 1 := ⟨by decide +kernel, rfl⟩
theorem d_X9_mayCome_1 : At cX9_mayCome 1 (.getfield 28) 3 4 := ⟨by decide +kernel, rfl⟩
theorem d_X9_mayCome_4 : At cX9_mayCome 4 (.iload_n 1) 1 5 := ⟨by decide +kernel, rfl⟩
theorem d_X9_mayCome_5 : At cX9_mayCome 5 (.iaload) 1 6 := ⟨by decide +kernel, rfl⟩
theorem d_X9_mayCome_6 : At cX9_mayCome 6 (.iload_n 2) 1 7 := ⟨by decide +kernel, rfl⟩
theorem d_X9_mayCome_7 : At cX9_mayCome 7 (.ishr) 1 8 := ⟨by decide +kernel, rfl⟩
theorem d_X9_mayCome_8 : At cX9_mayCome 8 (.iconst 1) 1 9 := ⟨by decide +kernel, rfl⟩
theorem d_X9_mayCome_9 : At cX9_mayCome 9 (.iand) 1 10 := ⟨by decide +kernel, rfl⟩
theorem d_X9_mayCome_10 : At cX9_mayCome 10 (.iconst 1) 1 11 := ⟨by decide +kernel, rfl⟩
theorem d_X9_mayCome_11 : Br cX9_mayCome 11 (.if_icmp .ne 7) (7) 14 18 := ⟨by decide +kernel, rfl, rfl⟩
theorem d_X9_mayCome_14 : At cX9_mayCome 14 (.iconst 1) 1 15 := ⟨by decide +kernel, rfl⟩
theorem d_X9_mayCome_15 : Br cX9_mayCome 15 (.goto 4) (4) 18 19 := ⟨by decide +kernel, rfl, rfl⟩
theorem d_X9_mayCome_18 : At cX9_mayCome 18 (.iconst 0) 1 19 := ⟨by decide +kernel, rfl⟩
theorem d_X9_mayCome_19 : Go cX9_mayCome 19 (.ireturn) 1 := (by decide +kernel : decode cX9_mayCome 19 = .ok (.ireturn, 1))
theorem d_X9_isMust_0 : At cX9_isMust 0 (.aload_n 0) 1 1 := ⟨by decide +kernel, rfl⟩
theorem d_X9_isMust_1 : At cX9_isMust 1 (.iload_n 1) 1 2 := ⟨by decide +kernel, rfl⟩
theorem d_X9_isMust_2 : At cX9_isMust 2 (.iload_n 1) 1 3 := ⟨by decide +kernel, rfl⟩
theorem d_X9_isMust_3 : At cX9_isMust 3 (.invokestatic 130) 3 6 := ⟨by decide +kernel, rfl⟩
theorem d_X9_isMust_6 : At cX9_isMust 6 (.iconst 1) 1 7 := ⟨by decide +kernel, rfl⟩
theorem d_X9_isMust_7 : At cX9_isMust 7 (.iload_n 2) 1 8 := ⟨by decide +kernel, rfl⟩
theorem d_X9_isMust_8 : At cX9_isMust 8 (.ishl) 1 9 := ⟨by decide +kernel, rfl⟩
theorem d_X9_isMust_9 : At cX9_isMust 9 (.iconst (-1)) 1 10 := ⟨by decide +kernel, rfl⟩
theorem d_X9_isMust_10 : At cX9_isMust 10 (.ixor) 1 11 := ⟨by decide +kernel, rfl⟩
theorem d_X9_isMust_11 : At cX9_isMust 11 (.iand) 1 12 := ⟨by decide +kernel, rfl⟩
theorem d_X9_isMust_12 : At cX9_isMust 12 (.invokevirtual 133) 3 15 := ⟨by decide +kernel, rfl⟩
theorem d_X9_isMust_15 : Br cX9_isMust 15 (.ifCond .ne 7) (7) 18 22 := ⟨by decide +kernel, rfl, rfl⟩
theorem d_X9_isMust_18 : At cX9_isMust 18 (.iconst 1) 1 19 := ⟨by decide +kernel, rfl⟩
theorem d_X9_isMust_19 : Br cX9_isMust 19 (.goto 4) (4) 22 23 := ⟨by decide +kernel, rfl, rfl⟩
theorem d_X9_isMust_22 : At cX9_isMust 22 (.iconst 0) 1 23 := ⟨by decide +kernel, rfl⟩
theorem d_X9_isMust_23 : Go cX9_isMust 23 (.ireturn) 1 := (by decide +kernel : decode cX9_isMust 23 = .ok (.ireturn, 1))
theorem d_X9_may_0 : At cX9_may 0 (.iload_n 1) 1 1 := ⟨by decide +kernel, rfl⟩
theorem d_X9_may_1 : At cX9_may 1 (.invokestatic 99) 3 4 := ⟨by decide +kernel, rfl⟩
theorem d_X9_may_4 : Br cX9_may 4 (.ifCond .ne 5) (5) 7 9 := ⟨by decide +kernel, rfl, rfl⟩
theorem d_X9_may_7 : At cX9_may 7 (.iconst (-1)) 1 8 := ⟨by decide +kernel, rfl⟩
theorem d_X9_may_8 : Go cX9_may 8 (.ireturn) 1 := (by decide +kernel : decode cX9_may 8 = .ok (.ireturn, 1))
theorem d_X9_may_9 : At cX9_may 9 (.iload_n 2) 1 10 := ⟨by decide +kernel, rfl⟩
theorem d_X9_may_10 : At cX9_may 10 (.i2l) 1 11 := ⟨by decide +kernel, rfl⟩
theorem d_X9_may_11 : At cX9_may 11 (.lconst 0) 1 12 := ⟨by decide +kernel, rfl⟩
theorem d_X9_may_12 : At cX9_may 12 (.iload_n 1) 1 13 := ⟨by decide +kernel, rfl⟩
theorem d_X9_may_13 : At cX9_may 13 (.invokestatic 130) 3 16 := ⟨by decide +kernel, rfl⟩
theorem d_X9_may_16 : At cX9_may 16 (.i2l) 1 17 := ⟨by decide +kernel, rfl⟩
theorem d_X9_may_17 : At cX9_may 17 (.invokestatic 69) 3 20 := ⟨by decide +kernel, rfl⟩
theorem d_X9_may_20 : Br cX9_may 20 (.ifCond .eq 16) (16) 23 36 := ⟨by decide +kernel, rfl, rfl⟩
theorem d_X9_may_23 : At cX9_may 23 (.aload_n 0) 1 24 := ⟨by decide +kernel, rfl⟩
theorem d_X9_may_24 : At cX9_may 24 (.getfield 28) 3 27 := ⟨by decide +kernel, rfl⟩
theorem d_X9_may_27 : At cX9_may 27 (.iload_n 1) 1 28 := ⟨by decide +kernel, rfl⟩
theorem d_X9_may_28 : At cX9_may 28 (.iaload) 1 29 := ⟨by decide +kernel, rfl⟩
theorem d_X9_may_29 : At cX9_may 29 (.iload_n 2) 1 30 := ⟨by decide +kernel, rfl⟩
theorem d_X9_may_30 : At cX9_may 30 (.ishr) 1 31 := ⟨by decide +kernel, rfl⟩
theorem d_X9_may_31 : At cX9_may 31 (.iconst 1) 1 32 := ⟨by decide +kernel, rfl⟩
theorem d_X9_may_32 : At cX9_may 32 (.iand) 1 33 := ⟨by decide +kernel, rfl⟩
theorem d_X9_may_33 : Br cX9_may 33 (.goto 5) (5) 36 38 := ⟨by decide +kernel, rfl, rfl⟩
theorem d_X9_may_36 : At cX9_may 36 (.bipush (-2)) 2 38 := ⟨by decide +kernel, rfl⟩
theorem d_X9_may_38 : Go cX9_may 38 (.ireturn) 1 := (by decide +kernel : decode cX9_may 38 = .ok (.ireturn, 1))
theorem d_X9_must_0 : At cX9_must 0 (.iload_n 1) 1 1 := ⟨by decide +kernel, rfl⟩
theorem d_X9_must_1 : At cX9_must 1 (.invokestatic 99) 3 4 := ⟨by decide +kernel, rfl⟩
theorem d_X9_must_4 : Br cX9_must 4 (.ifCond .ne 5) (5) 7 9 := ⟨by decide +kernel, rfl, rfl⟩
theorem d_X9_must_7 : At cX9_must 7 (.iconst (-1)) 1 8 := ⟨by decide +kernel, rfl⟩
theorem d_X9_must_8 : Go cX9_must 8 (.ireturn) 1 := (by decide +kernel : decode cX9_must 8 = .ok (.ireturn, 1))
theorem d_X9_must_9 : At cX9_must 9 (.iconst 0) 1 10 := ⟨by decide +kernel, rfl⟩
theorem d_X9_must_10 : At cX9_must 10 (.istore_n 2) 1 11 := ⟨by decide +kernel, rfl⟩
theorem d_X9_must_11 : At cX9_must 11 (.iconst 0) 1 12 := ⟨by decide +kernel, rfl⟩
theorem d_X9_must_12 : At cX9_must 12 (.istore_n 3) 1 13 := ⟨by decide +kernel, rfl⟩
theorem d_X9_must_13 : At cX9_must 13 (.iload_n 3) 1 14 := ⟨by decide +kernel, rfl⟩
theorem d_X9_must_14 : At cX9_must 14 (.iload_n 1) 1 15 := ⟨by decide +kernel, rfl⟩
theorem d_X9_must_15 : At cX9_must 15 (.invokestatic 85) 3 18 := ⟨by decide +kernel, rfl⟩
theorem d_X9_must_18 : Br cX9_must 18 (.if_icmp .ge 28) (28) 21 46 := ⟨by decide +kernel, rfl, rfl⟩
theorem d_X9_must_21 : At cX9_must 21 (.iload_n 2) 1 22 := ⟨by decide +kernel, rfl⟩
theorem d_X9_must_22 : At cX9_must 22 (.aload_n 0) 1 23 := ⟨by decide +kernel, rfl⟩
theorem d_X9_must_23 : At cX9_must 23 (.iload_n 1) 1 24 := ⟨by decide +kernel, rfl⟩
theorem d_X9_must_24 : At cX9_must 24 (.iload_n 3) 1 25 := ⟨by decide +kernel, rfl⟩
theorem d_X9_must_25 : At cX9_must 25 (.invokevirtual 136) 3 28 := ⟨by decide +kernel, rfl⟩
theorem d_X9_must_28 : Br cX9_must 28 (.ifCond .eq 9) (9) 31 37 := ⟨by decide +kernel, rfl, rfl⟩
theorem d_X9_must_31 : At cX9_must 31 (.iconst 1) 1 32 := ⟨by decide +kernel, rfl⟩
theorem d_X9_must_32 : At cX9_must 32 (.iload_n 3) 1 33 := ⟨by decide +kernel, rfl⟩
theorem d_X9_must_33 : At cX9_must 33 (.ishl) 1 34 := ⟨by decide +kernel, rfl⟩
theorem d_X9_must_34 : Br cX9_must 34 (.goto 4) (4) 37 38 := ⟨by decide +kernel, rfl, rfl⟩
theorem d_X9_must_37 : At cX9_must 37 (.iconst 0) 1 38 := ⟨by decide +kernel, rfl⟩
theorem d_X9_must_38 : At cX9_must 38 (.ior) 1 39 := ⟨by decide +kernel, rfl⟩
theorem d_X9_must_39 : At cX9_must 39 (.istore_n 2) 1 40 := ⟨by decide +kernel, rfl⟩
theorem d_X9_must_40 : At cX9_must 40 (.iinc 3 1) 3 43 := ⟨by decide +kernel, rfl⟩
theorem d_X9_must_43 : Br cX9_must 43 (.goto (-30)) (-30) 46 13 := ⟨by decide +kernel, rfl, rfl⟩
theorem d_X9_must_46 : At cX9_must 46 (.iload_n 2) 1 47 := ⟨by decide +kernel, rfl⟩
theorem d_X9_must_47 : Go cX9_must 47 (.ireturn) 1 := (by decide +kernel : decode cX9_must 47 = .ok (.ireturn, 1))
theorem d_X9_isJoint_0 : At cX9_isJoint 0 (.aload_n 0) 1 1 := ⟨by decide +kernel, rfl⟩
theorem d_X9_isJoint_1 : At cX9_isJoint 1 (.iload_n 1) 1 2 := ⟨by decide +kernel, rfl⟩
theorem d_X9_isJoint_2 : At cX9_isJoint 2 (.iload_n 1) 1 3 := ⟨by decide +kernel, rfl⟩
theorem d_X9_isJoint_3 : At cX9_isJoint 3 (.invokestatic 130) 3 6 := ⟨by decide +kernel, rfl⟩
theorem d_X9_isJoint_6 : At cX9_isJoint 6 (.iload_n 2) 1 7 := ⟨by decide +kernel, rfl⟩
theorem d_X9_isJoint_7 : At cX9_isJoint 7 (.iconst (-1)) 1 8 := ⟨by decide +kernel, rfl⟩
theorem d_X9_isJoint_8 : At cX9_isJoint 8 (.ixor) 1 9 := ⟨by decide +kernel, rfl⟩
theorem d_X9_isJoint_9 : At cX9_isJoint 9 (.iand) 1 10 := ⟨by decide +kernel, rfl⟩
theorem d_X9_isJoint_10 : At cX9_isJoint 10 (.invokevirtual 133) 3 13 := ⟨by decide +kernel, rfl⟩
theorem d_X9_isJoint_13 : Br cX9_isJoint 13 (.ifCond .ne 7) (7) 16 20 := ⟨by decide +kernel, rfl, rfl⟩
theorem d_X9_isJoint_16 : At cX9_isJoint 16 (.iconst 1) 1 17 := ⟨by decide +kernel, rfl⟩
theorem d_X9_isJoint_17 : Br cX9_isJoint 17 (.goto 4) (4) 20 21 := ⟨by decide +kernel, rfl, rfl⟩
theorem d_X9_isJoint_20 : At cX9_isJoint 20 (.iconst 0) 1 21 := ⟨by decide +kernel, rfl⟩
theorem d_X9_isJoint_21 : At cX9_isJoint 21 (.istore_n 3) 1 22 := ⟨by decide +kernel, rfl⟩
theorem d_X9_isJoint_22 : At cX9_isJoint 22 (.iconst 0) 1 23 := ⟨by decide +kernel, rfl⟩
theorem d_X9_isJoint_23 : At cX9_isJoint 23 (.istore 4) 2 25 := ⟨by decide +kernel, rfl⟩
theorem d_X9_isJoint_25 : At cX9_isJoint 25 (.iload 4) 2 27 := ⟨by decide +kernel, rfl⟩
theorem d_X9_isJoint_27 : At cX9_isJoint 27 (.iload_n 2) 1 28 := ⟨by decide +kernel, rfl⟩
theorem d_X9_isJoint_28 : Br cX9_isJoint 28 (.if_icmp .ge 45) (45) 31 73 := ⟨by decide +kernel, rfl, rfl⟩
theorem d_X9_isJoint_31 : At cX9_isJoint 31 (.iload_n 3) 1 32 := ⟨by decide +kernel, rfl⟩
theorem d_X9_isJoint_32 : Br cX9_isJoint 32 (.ifCond .eq 41) (41) 35 73 := ⟨by decide +kernel, rfl, rfl⟩
theorem d_X9_isJoint_35 : At cX9_isJoint 35 (.iload 4) 2 37 := ⟨by decide +kernel, rfl⟩
theorem d_X9_isJoint_37 : At cX9_isJoint 37 (.iload_n 2) 1 38 := ⟨by decide +kernel, rfl⟩
theorem d_X9_isJoint_38 : At cX9_isJoint 38 (.iconst (-1)) 1 39 := ⟨by decide +kernel, rfl⟩
theorem d_X9_isJoint_39 : At cX9_isJoint 39 (.ixor) 1 40 := ⟨by decide +kernel, rfl⟩
theorem d_X9_isJoint_40 : At cX9_isJoint 40 (.iand) 1 41 := ⟨by decide +kernel, rfl⟩
theorem d_X9_isJoint_41 : Br cX9_isJoint 41 (.ifCond .ne 20) (20) 44 61 := ⟨by decide +kernel, rfl, rfl⟩
theorem d_X9_isJoint_44 : At cX9_isJoint 44 (.aload_n 0) 1 45 := ⟨by decide +kernel, rfl⟩
theorem d_X9_isJoint_45 : At cX9_isJoint 45 (.iload_n 1) 1 46 := ⟨by decide +kernel, rfl⟩
theorem d_X9_isJoint_46 : At cX9_isJoint 46 (.iload_n 1) 1 47 := ⟨by decide +kernel, rfl⟩
theorem d_X9_isJoint_47 : At cX9_isJoint 47 (.invokestatic 130) 3 50 := ⟨by decide +kernel, rfl⟩
theorem d_X9_isJoint_50 : At cX9_isJoint 50 (.iload 4) 2 52 := ⟨by decide +kernel, rfl⟩
theorem d_X9_isJoint_52 : At cX9_isJoint 52 (.iconst (-1)) 1 53 := ⟨by decide +kernel, rfl⟩
theorem d_X9_isJoint_53 : At cX9_isJoint 53 (.ixor) 1 54 := ⟨by decide +kernel, rfl⟩
theorem d_X9_isJoint_54 : At cX9_isJoint 54 (.iand) 1 55 := ⟨by decide +kernel, rfl⟩
theorem d_X9_isJoint_55 : At cX9_isJoint 55 (.invokevirtual 133) 3 58 := ⟨by decide +kernel, rfl⟩
theorem d_X9_isJoint_58 : Br cX9_isJoint 58 (.ifCond .eq 7) (7) 61 65 := ⟨by decide +kernel, rfl, rfl⟩
theorem d_X9_isJoint_61 : At cX9_isJoint 61 (.iconst 1) 1 62 := ⟨by decide +kernel, rfl⟩
theorem d_X9_isJoint_62 : Br cX9_isJoint 62 (.goto 4) (4) 65 66 := ⟨by decide +kernel, rfl, rfl⟩
theorem d_X9_isJoint_65 : At cX9_isJoint 65 (.iconst 0) 1 66 := ⟨by decide +kernel, rfl⟩
theorem d_X9_isJoint_66 : At cX9_isJoint 66 (.istore_n 3) 1 67 := ⟨by decide +kernel, rfl⟩
theorem d_X9_isJoint_67 : At cX9_isJoint 67 (.iinc 4 1) 3 70 := ⟨by decide +kernel, rfl⟩
theorem d_X9_isJoint_70 : Br cX9_isJoint 70 (.goto (-45)) (-45) 73 25 := ⟨by decide +kernel, rfl, rfl⟩
theorem d_X9_isJoint_73 : At cX9_isJoint 73 (.iload_n 3) 1 74 := ⟨by decide +kernel, rfl⟩
theorem d_X9_isJoint_74 : Go cX9_isJoint 74 (.ireturn) 1 := (by decide +kernel : decode cX9_isJoint 74 = .ok (.ireturn, 1))
theorem d_X9_joint_0 : At cX9_joint 0 (.iload_n 1) 1 1 := ⟨by decide +kernel, rfl⟩
theorem d_X9_joint_1 : At cX9_joint 1 (.invokestatic 99) 3 4 := ⟨by decide +kernel, rfl⟩
theorem d_X9_joint_4 : Br cX9_joint 4 (.ifCond .ne 5) (5) 7 9 := ⟨by decide +kernel, rfl, rfl⟩
theorem d_X9_joint_7 : At cX9_joint 7 (.iconst (-1)) 1 8 := ⟨by decide +kernel, rfl⟩
theorem d_X9_joint_8 : Go cX9_joint 8 (.ireturn) 1 := (by decide +kernel : decode cX9_joint 8 = .ok (.ireturn, 1))
theorem d_X9_joint_9 : At cX9_joint 9 (.iconst 0) 1 10 := ⟨by decide +kernel, rfl⟩
theorem d_X9_joint_10 : At cX9_joint 10 (.istore_n 3) 1 11 := ⟨by decide +kernel, rfl⟩
theorem d_X9_joint_11 : At cX9_joint 11 (.iconst 0) 1 12 := ⟨by decide +kernel, rfl⟩
theorem d_X9_joint_12 : At cX9_joint 12 (.istore 4) 2 14 := ⟨by decide +kernel, rfl⟩
theorem d_X9_joint_14 : At cX9_joint 14 (.iload 4) 2 16 := ⟨by decide +kernel, rfl⟩
theorem d_X9_joint_16 : At cX9_joint 16 (.iload_n 1) 1 17 := ⟨by decide +kernel, rfl⟩
theorem d_X9_joint_17 : At cX9_joint 17 (.invokestatic 130) 3 20 := ⟨by decide +kernel, rfl⟩
theorem d_X9_joint_20 : Br cX9_joint 20 (.if_icmp .gt 30) (30) 23 50 := ⟨by decide +kernel, rfl, rfl⟩
theorem d_X9_joint_23 : At cX9_joint 23 (.aload_n 0) 1 24 := ⟨by decide +kernel, rfl⟩
theorem d_X9_joint_24 : At cX9_joint 24 (.iload_n 1) 1 25 := ⟨by decide +kernel, rfl⟩
theorem d_X9_joint_25 : At cX9_joint 25 (.iload 4) 2 27 := ⟨by decide +kernel, rfl⟩
theorem d_X9_joint_27 : At cX9_joint 27 (.invokevirtual 139) 3 30 := ⟨by decide +kernel, rfl⟩
theorem d_X9_joint_30 : Br cX9_joint 30 (.ifCond .eq 14) (14) 33 44 := ⟨by decide +kernel, rfl, rfl⟩
theorem d_X9_joint_33 : At cX9_joint 33 (.iload_n 3) 1 34 := ⟨by decide +kernel, rfl⟩
theorem d_X9_joint_34 : At cX9_joint 34 (.iload_n 2) 1 35 := ⟨by decide +kernel, rfl⟩
theorem d_X9_joint_35 : Br cX9_joint 35 (.if_icmp .ne 6) (6) 38 41 := ⟨by decide +kernel, rfl, rfl⟩
theorem d_X9_joint_38 : At cX9_joint 38 (.iload 4) 2 40 := ⟨by decide +kernel, rfl⟩
theorem d_X9_joint_40 : Go cX9_joint 40 (.ireturn) 1 := (by decide +kernel : decode cX9_joint 40 = .ok (.ireturn, 1))
theorem d_X9_joint_41 : At cX9_joint 41 (.iinc 3 1) 3 44 := ⟨by decide +kernel, rfl⟩
theorem d_X9_joint_44 : At cX9_joint 44 (.iinc 4 1) 3 47 := ⟨by decide +kernel, rfl⟩
theorem d_X9_joint_47 : Br cX9_joint 47 (.goto (-33)) (-33) 50 14 := ⟨by decide +kernel, rfl, rfl⟩
theorem d_X9_joint_50 : At cX9_joint 50 (.iload_n 2) 1 51 := ⟨by decide +kernel, rfl⟩
theorem d_X9_joint_51 : At cX9_joint 51 (.iconst (-1)) 1 52 := ⟨by decide +kernel, rfl⟩
theorem d_X9_joint_52 : Br cX9_joint 52 (.if_icmp .ne 7) (7) 55 59 := ⟨by decide +kernel, rfl, rfl⟩
theorem d_X9_joint_55 : At cX9_joint 55 (.iload_n 3) 1 56 := ⟨by decide +kernel, rfl⟩
theorem d_X9_joint_56 : Br cX9_joint 56 (.goto 5) (5) 59 61 := ⟨by decide +kernel, rfl, rfl⟩
theorem d_X9_joint_59 : At cX9_joint 59 (.bipush (-6)) 2 61 := ⟨by decide +kernel, rfl⟩
theorem d_X9_joint_61 : Go cX9_joint 61 (.ireturn) 1 := (by decide +kernel : decode cX9_joint 61 = .ok (.ireturn, 1))
theorem d_X9_isOf_0 : At cX9_isOf 0 (.iload_n 0) 1 1 := ⟨by decide +kernel, rfl⟩
theorem d_X9_isOf_1 : At cX9_isOf 1 (.invokestatic 99) 3 4 := ⟨by decide +kernel, rfl⟩
theorem d_X9_isOf_4 : Br cX9_isOf 4 (.ifCond .eq 23) (23) 7 27 := ⟨by decide +kernel, rfl, rfl⟩
theorem d_X9_isOf_7 : At cX9_isOf 7 (.iload_n 1) 1 8 := ⟨by decide +kernel, rfl⟩
theorem d_X9_isOf_8 : At cX9_isOf 8 (.i2l) 1 9 := ⟨by decide +kernel, rfl⟩
theorem d_X9_isOf_9 : At cX9_isOf 9 (.lconst 0) 1 10 := ⟨by decide +kernel, rfl⟩
theorem d_X9_isOf_10 : At cX9_isOf 10 (.iload_n 0) 1 11 := ⟨by decide +kernel, rfl⟩
theorem d_X9_isOf_11 : At cX9_isOf 11 (.invokestatic 85) 3 14 := ⟨by decide +kernel, rfl⟩
theorem d_X9_isOf_14 : At cX9_isOf 14 (.iconst 1) 1 15 := ⟨by decide +kernel, rfl⟩
theorem d_X9_isOf_15 : At cX9_isOf 15 (.isub) 1 16 := ⟨by decide +kernel, rfl⟩
theorem d_X9_isOf_16 : At cX9_isOf 16 (.i2l) 1 17 := ⟨by decide +kernel, rfl⟩
theorem d_X9_isOf_17 : At cX9_isOf 17 (.invokestatic 69) 3 20 := ⟨by decide +kernel, rfl⟩
theorem d_X9_isOf_20 : Br cX9_isOf 20 (.ifCond .eq 7) (7) 23 27 := ⟨by decide +kernel, rfl, rfl⟩
theorem d_X9_isOf_23 : At cX9_isOf 23 (.iconst 1) 1 24 := ⟨by decide +kernel, rfl⟩
theorem d_X9_isOf_24 : Br cX9_isOf 24 (.goto 4) (4) 27 28 := ⟨by decide +kernel, rfl, rfl⟩
theorem d_X9_isOf_27 : At cX9_isOf 27 (.iconst 0) 1 28 := ⟨by decide +kernel, rfl⟩
theorem d_X9_isOf_28 : Go cX9_isOf 28 (.ireturn) 1 := (by decide +kernel : decode cX9_isOf 28 = .ok (.ireturn, 1))
theorem d_X9_uses_0 : At cX9_uses 0 (.iload_n 1) 1 1 := ⟨by decide +kernel, rfl⟩
theorem d_X9_uses_1 : At cX9_uses 1 (.iload_n 2) 1 2 := ⟨by decide +kernel, rfl⟩
theorem d_X9_uses_2 : At cX9_uses 2 (.invokestatic 142) 3 5 := ⟨by decide +kernel, rfl⟩
theorem d_X9_uses_5 : Br cX9_uses 5 (.ifCond .eq 16) (16) 8 21 := ⟨by decide +kernel, rfl, rfl⟩
theorem d_X9_uses_8 : At cX9_uses 8 (.aload_n 0) 1 9 := ⟨by decide +kernel, rfl⟩
theorem d_X9_uses_9 : At cX9_uses 9 (.getfield 31) 3 12 := ⟨by decide +kernel, rfl⟩
theorem d_X9_uses_12 : At cX9_uses 12 (.iconst 3) 1 13 := ⟨by decide +kernel, rfl⟩
theorem d_X9_uses_13 : At cX9_uses 13 (.iload_n 1) 1 14 := ⟨by decide +kernel, rfl⟩
theorem d_X9_uses_14 : At cX9_uses 14 (.imul) 1 15 := ⟨by decide +kernel, rfl⟩
theorem d_X9_uses_15 : At cX9_uses 15 (.iload_n 2) 1 16 := ⟨by decide +kernel, rfl⟩
theorem d_X9_uses_16 : At cX9_uses 16 (.iadd) 1 17 := ⟨by decide +kernel, rfl⟩
theorem d_X9_uses_17 : At cX9_uses 17 (.iaload) 1 18 := ⟨by decide +kernel, rfl⟩
theorem d_X9_uses_18 : Br cX9_uses 18 (.goto 4) (4) 21 22 := ⟨by decide +kernel, rfl, rfl⟩
theorem d_X9_uses_21 : At cX9_uses 21 (.iconst (-1)) 1 22 := ⟨by decide +kernel, rfl⟩
theorem d_X9_uses_22 : Go cX9_uses 22 (.ireturn) 1 := (by decide +kernel : decode cX9_uses 22 = .ok (.ireturn, 1))
theorem d_X9_part_0 : At cX9_part 0 (.aload_n 0) 1 1 := ⟨by decide +kernel, rfl⟩
theorem d_X9_part_1 : At cX9_part 1 (.iload_n 1) 1 2 := ⟨by decide +kernel, rfl⟩
theorem d_X9_part_2 : At cX9_part 2 (.iload_n 2) 1 3 := ⟨by decide +kernel, rfl⟩
theorem d_X9_part_3 : At cX9_part 3 (.invokevirtual 109) 3 6 := ⟨by decide +kernel, rfl⟩
theorem d_X9_part_6 : Br cX9_part 6 (.ifCond .ne 5) (5) 9 11 := ⟨by decide +kernel, rfl, rfl⟩
theorem d_X9_part_9 : At cX9_part 9 (.iconst (-1)) 1 10 := ⟨by decide +kernel, rfl⟩
theorem d_X9_part_10 : Go cX9_part 10 (.ireturn) 1 := (by decide +kernel : decode cX9_part 10 = .ok (.ireturn, 1))
theorem d_X9_part_11 : At cX9_part 11 (.iload_n 3) 1 12 := ⟨by decide +kernel, rfl⟩
theorem d_X9_part_12 : At cX9_part 12 (.i2l) 1 13 := ⟨by decide +kernel, rfl⟩
theorem d_X9_part_13 : At cX9_part 13 (.lconst 0) 1 14 := ⟨by decide +kernel, rfl⟩
theorem d_X9_part_14 : At cX9_part 14 (.lconst 1) 1 15 := ⟨by decide +kernel, rfl⟩
theorem d_X9_part_15 : At cX9_part 15 (.invokestatic 69) 3 18 := ⟨by decide +kernel, rfl⟩
theorem d_X9_part_18 : Br cX9_part 18 (.ifCond .ne 6) (6) 21 24 := ⟨by decide +kernel, rfl, rfl⟩
theorem d_X9_part_21 : At cX9_part 21 (.bipush (-2)) 2 23 := ⟨by decide +kernel, rfl⟩
theorem d_X9_part_23 : Go cX9_part 23 (.ireturn) 1 := (by decide +kernel : decode cX9_part 23 = .ok (.ireturn, 1))
theorem d_X9_part_24 : At cX9_part 24 (.iload_n 3) 1 25 := ⟨by decide +kernel, rfl⟩
theorem d_X9_part_25 : Br cX9_part 25 (.ifCond .ne 19) (19) 28 44 := ⟨by decide +kernel, rfl, rfl⟩
theorem d_X9_part_28 : At cX9_part 28 (.aload_n 0) 1 29 := ⟨by decide +kernel, rfl⟩
theorem d_X9_part_29 : At cX9_part 29 (.iload_n 1) 1 30 := ⟨by decide +kernel, rfl⟩
theorem d_X9_part_30 : At cX9_part 30 (.iload_n 1) 1 31 := ⟨by decide +kernel, rfl⟩
theorem d_X9_part_31 : At cX9_part 31 (.invokestatic 130) 3 34 := ⟨by decide +kernel, rfl⟩
theorem d_X9_part_34 : At cX9_part 34 (.invokevirtual 123) 3 37 := ⟨by decide +kernel, rfl⟩
theorem d_X9_part_37 : At cX9_part 37 (.aload_n 0) 1 38 := ⟨by decide +kernel, rfl⟩
theorem d_X9_part_38 : At cX9_part 38 (.getfield 34) 3 41 := ⟨by decide +kernel, rfl⟩
theorem d_X9_part_41 : At cX9_part 41 (.iload_n 2) 1 42 := ⟨by decide +kernel, rfl⟩
theorem d_X9_part_42 : At cX9_part 42 (.iaload) 1 43 := ⟨by decide +kernel, rfl⟩
theorem d_X9_part_43 : Go cX9_part 43 (.ireturn) 1 := (by decide +kernel : decode cX9_part 43 = .ok (.ireturn, 1))
theorem d_X9_part_44 : At cX9_part 44 (.iconst 0) 1 45 := ⟨by decide +kernel, rfl⟩
theorem d_X9_part_45 : At cX9_part 45 (.istore 4) 2 47 := ⟨by decide +kernel, rfl⟩
theorem d_X9_part_47 : At cX9_part 47 (.iconst 0) 1 48 := ⟨by decide +kernel, rfl⟩
theorem d_X9_part_48 : At cX9_part 48 (.istore 5) 2 50 := ⟨by decide +kernel, rfl⟩
theorem d_X9_part_50 : At cX9_part 50 (.iload 5) 2 52 := ⟨by decide +kernel, rfl⟩
theorem d_X9_part_52 : At cX9_part 52 (.iload_n 1) 1 53 := ⟨by decide +kernel, rfl⟩
theorem d_X9_part_53 : At cX9_part 53 (.invokestatic 85) 3 56 := ⟨by decide +kernel, rfl⟩
theorem d_X9_part_56 : Br cX9_part 56 (.if_icmp .ge 47) (47) 59 103 := ⟨by decide +kernel, rfl, rfl⟩
theorem d_X9_part_59 : At cX9_part 59 (.aload_n 0) 1 60 := ⟨by decide +kernel, rfl⟩
theorem d_X9_part_60 : At cX9_part 60 (.iload_n 1) 1 61 := ⟨by decide +kernel, rfl⟩
theorem d_X9_part_61 : At cX9_part 61 (.iload_n 1) 1 62 := ⟨by decide +kernel, rfl⟩
theorem d_X9_part_62 : At cX9_part 62 (.invokestatic 130) 3 65 := ⟨by decide +kernel, rfl⟩
theorem d_X9_part_65 : At cX9_part 65 (.iconst 1) 1 66 := ⟨by decide +kernel, rfl⟩
theorem d_X9_part_66 : At cX9_part 66 (.iload 5) 2 68 := ⟨by decide +kernel, rfl⟩
theorem d_X9_part_68 : At cX9_part 68 (.ishl) 1 69 := ⟨by decide +kernel, rfl⟩
theorem d_X9_part_69 : At cX9_part 69 (.iconst (-1)) 1 70 := ⟨by decide +kernel, rfl⟩
theorem d_X9_part_70 : At cX9_part 70 (.ixor) 1 71 := ⟨by decide +kernel, rfl⟩
theorem d_X9_part_71 : At cX9_part 71 (.iand) 1 72 := ⟨by decide +kernel, rfl⟩
theorem d_X9_part_72 : At cX9_part 72 (.invokevirtual 123) 3 75 := ⟨by decide +kernel, rfl⟩
theorem d_X9_part_75 : At cX9_part 75 (.iload 4) 2 77 := ⟨by decide +kernel, rfl⟩
theorem d_X9_part_77 : At cX9_part 77 (.aload_n 0) 1 78 := ⟨by decide +kernel, rfl⟩
theorem d_X9_part_78 : At cX9_part 78 (.getfield 34) 3 81 := ⟨by decide +kernel, rfl⟩
theorem d_X9_part_81 : At cX9_part 81 (.iload_n 2) 1 82 := ⟨by decide +kernel, rfl⟩
theorem d_X9_part_82 : At cX9_part 82 (.iaload) 1 83 := ⟨by decide +kernel, rfl⟩
theorem d_X9_part_83 : Br cX9_part 83 (.ifCond .ne 10) (10) 86 93 := ⟨by decide +kernel, rfl, rfl⟩
theorem d_X9_part_86 : At cX9_part 86 (.iconst 1) 1 87 := ⟨by decide +kernel, rfl⟩
theorem d_X9_part_87 : At cX9_part 87 (.iload 5) 2 89 := ⟨by decide +kernel, rfl⟩
theorem d_X9_part_89 : At cX9_part 89 (.ishl) 1 90 := ⟨by decide +kernel, rfl⟩
theorem d_X9_part_90 : Br cX9_part 90 (.goto 4) (4) 93 94 := ⟨by decide +kernel, rfl, rfl⟩
theorem d_X9_part_93 : At cX9_part 93 (.iconst 0) 1 94 := ⟨by decide +kernel, rfl⟩
theorem d_X9_part_94 : At cX9_part 94 (.ior) 1 95 := ⟨by decide +kernel, rfl⟩
theorem d_X9_part_95 : At cX9_part 95 (.istore 4) 2 97 := ⟨by decide +kernel, rfl⟩
theorem d_X9_part_97 : At cX9_part 97 (.iinc 5 1) 3 100 := ⟨by decide +kernel, rfl⟩
theorem d_X9_part_100 : Br cX9_part 100 (.goto (-50)) (-50) 103 50 := ⟨by decide +kernel, rfl, rfl⟩
theorem d_X9_part_103 : At cX9_part 103 (.iload 4) 2 105 := ⟨by decide +kernel, rfl⟩
theorem d_X9_part_105 : Go cX9_part 105 (.ireturn) 1 := (by decide +kernel : decode cX9_part 105 = .ok (.ireturn, 1))
theorem d_X9_waitFor_0 : At cX9_waitFor 0 (.aload_n 0) 1 1 := ⟨by decide +kernel, rfl⟩
theorem d_X9_waitFor_1 : At cX9_waitFor 1 (.getfield 49) 3 4 := ⟨by decide +kernel, rfl⟩
theorem d_X9_waitFor_4 : At cX9_waitFor 4 (.aload_n 0) 1 5 := ⟨by decide +kernel, rfl⟩
theorem d_X9_waitFor_5 : At cX9_waitFor 5 (.getfield 145) 3 8 := ⟨by decide +kernel, rfl⟩
theorem d_X9_waitFor_8 : At cX9_waitFor 8 (.iload_n 1) 1 9 := ⟨by decide +kernel, rfl⟩
theorem d_X9_waitFor_9 : At cX9_waitFor 9 (.iastore) 1 10 := ⟨by decide +kernel, rfl⟩
theorem d_X9_waitFor_10 : At cX9_waitFor 10 (.aload_n 0) 1 11 := ⟨by decide +kernel, rfl⟩
theorem d_X9_waitFor_11 : At cX9_waitFor 11 (.getfield 52) 3 14 := ⟨by decide +kernel, rfl⟩
theorem d_X9_waitFor_14 : At cX9_waitFor 14 (.aload_n 0) 1 15 := ⟨by decide +kernel, rfl⟩
theorem d_X9_waitFor_15 : At cX9_waitFor 15 (.getfield 145) 3 18 := ⟨by decide +kernel, rfl⟩
theorem d_X9_waitFor_18 : At cX9_waitFor 18 (.iload_n 2) 1 19 := ⟨by decide +kernel, rfl⟩
theorem d_X9_waitFor_19 : At cX9_waitFor 19 (.iastore) 1 20 := ⟨by decide +kernel, rfl⟩
theorem d_X9_waitFor_20 : At cX9_waitFor 20 (.aload_n 0) 1 21 := ⟨by decide +kernel, rfl⟩
theorem d_X9_waitFor_21 : At cX9_waitFor 21 (.getfield 55) 3 24 := ⟨by decide +kernel, rfl⟩
theorem d_X9_waitFor_24 : At cX9_waitFor 24 (.aload_n 0) 1 25 := ⟨by decide +kernel, rfl⟩
theorem d_X9_waitFor_25 : At cX9_waitFor 25 (.getfield 145) 3 28 := ⟨by decide +kernel, rfl⟩
theorem d_X9_waitFor_28 : At cX9_waitFor 28 (.iload_n 3) 1 29 := ⟨by decide +kernel, rfl⟩
theorem d_X9_waitFor_29 : At cX9_waitFor 29 (.iastore) 1 30 := ⟨by decide +kernel, rfl⟩
theorem d_X9_waitFor_30 : At cX9_waitFor 30 (.aload_n 0) 1 31 := ⟨by decide +kernel, rfl⟩
theorem d_X9_waitFor_31 : At cX9_waitFor 31 (.getfield 58) 3 34 := ⟨by decide +kernel, rfl⟩
theorem d_X9_waitFor_34 : At cX9_waitFor 34 (.aload_n 0) 1 35 := ⟨by decide +kernel, rfl⟩
theorem d_X9_waitFor_35 : At cX9_waitFor 35 (.getfield 145) 3 38 := ⟨by decide +kernel, rfl⟩
theorem d_X9_waitFor_38 : At cX9_waitFor 38 (.iload 4) 2 40 := ⟨by decide +kernel, rfl⟩
theorem d_X9_waitFor_40 : At cX9_waitFor 40 (.iastore) 1 41 := ⟨by decide +kernel, rfl⟩
theorem d_X9_waitFor_41 : At cX9_waitFor 41 (.aload_n 0) 1 42 := ⟨by decide +kernel, rfl⟩
theorem d_X9_waitFor_42 : At cX9_waitFor 42 (.dup) 1 43 := ⟨by decide +kernel, rfl⟩
theorem d_X9_waitFor_43 : At cX9_waitFor 43 (.getfield 145) 3 46 := ⟨by decide +kernel, rfl⟩
theorem d_X9_waitFor_46 : At cX9_waitFor 46 (.iconst 1) 1 47 := ⟨by decide +kernel, rfl⟩
theorem d_X9_waitFor_47 : At cX9_waitFor 47 (.iadd) 1 48 := ⟨by decide +kernel, rfl⟩
theorem d_X9_waitFor_48 : At cX9_waitFor 48 (.putfield 145) 3 51 := ⟨by decide +kernel, rfl⟩
theorem d_X9_waitFor_51 : Go cX9_waitFor 51 (.return_) 1 := (by decide +kernel : decode cX9_waitFor 51 = .ok (.return_, 1))
theorem d_X9_come_0 : At cX9_come 0 (.aload_n 0) 1 1 := ⟨by decide +kernel, rfl⟩
theorem d_X9_come_1 : At cX9_come 1 (.iconst (-1)) 1 2 := ⟨by decide +kernel, rfl⟩
theorem d_X9_come_2 : At cX9_come 2 (.putfield 149) 3 5 := ⟨by decide +kernel, rfl⟩
theorem d_X9_come_5 : At cX9_come 5 (.aload_n 0) 1 6 := ⟨by decide +kernel, rfl⟩
theorem d_X9_come_6 : At cX9_come 6 (.iload_n 1) 1 7 := ⟨by decide +kernel, rfl⟩
theorem d_X9_come_7 : At cX9_come 7 (.putfield 152) 3 10 := ⟨by decide +kernel, rfl⟩
theorem d_X9_come_10 : Go cX9_come 10 (.return_) 1 := (by decide +kernel : decode cX9_come 10 = .ok (.return_, 1))
theorem d_X9_go_0 : At cX9_go 0 (.aload_n 0) 1 1 := ⟨by decide +kernel, rfl⟩
theorem d_X9_go_1 : At cX9_go 1 (.iload_n 1) 1 2 := ⟨by decide +kernel, rfl⟩
theorem d_X9_go_2 : At cX9_go 2 (.putfield 149) 3 5 := ⟨by decide +kernel, rfl⟩
theorem d_X9_go_5 : At cX9_go 5 (.aload_n 0) 1 6 := ⟨by decide +kernel, rfl⟩
theorem d_X9_go_6 : At cX9_go 6 (.iload_n 2) 1 7 := ⟨by decide +kernel, rfl⟩
theorem d_X9_go_7 : At cX9_go 7 (.putfield 155) 3 10 := ⟨by decide +kernel, rfl⟩
theorem d_X9_go_10 : Go cX9_go 10 (.return_) 1 := (by decide +kernel : decode cX9_go 10 = .ok (.return_, 1))
theorem d_X9_act_0 : At cX9_act 0 (.iload_n 0) 1 1 := ⟨by decide +kernel, rfl⟩
theorem d_X9_act_1 : At cX9_act 1 (.bipush 43) 2 3 := ⟨by decide +kernel, rfl⟩
theorem d_X9_act_3 : Br cX9_act 3 (.if_icmp .ne 12) (12) 6 15 := ⟨by decide +kernel, rfl, rfl⟩
theorem d_X9_act_6 : At cX9_act 6 (.iload_n 1) 1 7 := ⟨by decide +kernel, rfl⟩
theorem d_X9_act_7 : At cX9_act 7 (.iload_n 2) 1 8 := ⟨by decide +kernel, rfl⟩
theorem d_X9_act_8 : At cX9_act 8 (.iadd) 1 9 := ⟨by decide +kernel, rfl⟩
theorem d_X9_act_9 : At cX9_act 9 (.bipush 7) 2 11 := ⟨by decide +kernel, rfl⟩
theorem d_X9_act_11 : At cX9_act 11 (.iand) 1 12 := ⟨by decide +kernel, rfl⟩
theorem d_X9_act_12 : Br cX9_act 12 (.goto 43) (43) 15 55 := ⟨by decide +kernel, rfl, rfl⟩
theorem d_X9_act_15 : At cX9_act 15 (.iload_n 0) 1 16 := ⟨by decide +kernel, rfl⟩
theorem d_X9_act_16 : At cX9_act 16 (.bipush 45) 2 18 := ⟨by decide +kernel, rfl⟩
theorem d_X9_act_18 : Br cX9_act 18 (.if_icmp .ne 12) (12) 21 30 := ⟨by decide +kernel, rfl, rfl⟩
theorem d_X9_act_21 : At cX9_act 21 (.iload_n 1) 1 22 := ⟨by decide +kernel, rfl⟩
theorem d_X9_act_22 : At cX9_act 22 (.iload_n 2) 1 23 := ⟨by decide +kernel, rfl⟩
theorem d_X9_act_23 : At cX9_act 23 (.isub) 1 24 := ⟨by decide +kernel, rfl⟩
theorem d_X9_act_24 : At cX9_act 24 (.bipush 7) 2 26 := ⟨by decide +kernel, rfl⟩
theorem d_X9_act_26 : At cX9_act 26 (.iand) 1 27 := ⟨by decide +kernel, rfl⟩
theorem d_X9_act_27 : Br cX9_act 27 (.goto 28) (28) 30 55 := ⟨by decide +kernel, rfl, rfl⟩
theorem d_X9_act_30 : At cX9_act 30 (.iload_n 0) 1 31 := ⟨by decide +kernel, rfl⟩
theorem d_X9_act_31 : At cX9_act 31 (.bipush 42) 2 33 := ⟨by decide +kernel, rfl⟩
theorem d_X9_act_33 : Br cX9_act 33 (.if_icmp .ne 12) (12) 36 45 := ⟨by decide +kernel, rfl, rfl⟩
theorem d_X9_act_36 : At cX9_act 36 (.iload_n 1) 1 37 := ⟨by decide +kernel, rfl⟩
theorem d_X9_act_37 : At cX9_act 37 (.iload_n 2) 1 38 := ⟨by decide +kernel, rfl⟩
theorem d_X9_act_38 : At cX9_act 38 (.imul) 1 39 := ⟨by decide +kernel, rfl⟩
theorem d_X9_act_39 : At cX9_act 39 (.bipush 7) 2 41 := ⟨by decide +kernel, rfl⟩
theorem d_X9_act_41 : At cX9_act 41 (.iand) 1 42 := ⟨by decide +kernel, rfl⟩
theorem d_X9_act_42 : Br cX9_act 42 (.goto 13) (13) 45 55 := ⟨by decide +kernel, rfl, rfl⟩
theorem d_X9_act_45 : At cX9_act 45 (.iload_n 1) 1 46 := ⟨by decide +kernel, rfl⟩
theorem d_X9_act_46 : At cX9_act 46 (.iload_n 2) 1 47 := ⟨by decide +kernel, rfl⟩
theorem d_X9_act_47 : Br cX9_act 47 (.if_icmp .ge 7) (7) 50 54 := ⟨by decide +kernel, rfl, rfl⟩
theorem d_X9_act_50 : At cX9_act 50 (.iload_n 1) 1 51 := ⟨by decide +kernel, rfl⟩
theorem d_X9_act_51 : Br cX9_act 51 (.goto 4) (4) 54 55 := ⟨by decide +kernel, rfl, rfl⟩
theorem d_X9_act_54 : At cX9_act 54 (.iload_n 2) 1 55 := ⟨by decide +kernel, rfl⟩
theorem d_X9_act_55 : Go cX9_act 55 (.ireturn) 1 := (by decide +kernel : decode cX9_act 55 = .ok (.ireturn, 1))
theorem d_X9_begin_0 : At cX9_begin 0 (.aload_n 0) 1 1 := ⟨by decide +kernel, rfl⟩
theorem d_X9_begin_1 : At cX9_begin 1 (.getfield 158) 3 4 := ⟨by decide +kernel, rfl⟩
theorem d_X9_begin_4 : At cX9_begin 4 (.sipush 300) 3 7 := ⟨by decide +kernel, rfl⟩
theorem d_X9_begin_7 : Br cX9_begin 7 (.if_icmp .ne 10) (10) 10 17 := ⟨by decide +kernel, rfl, rfl⟩
theorem d_X9_begin_10 : At cX9_begin 10 (.aload_n 0) 1 11 := ⟨by decide +kernel, rfl⟩
theorem d_X9_begin_11 : At cX9_begin 11 (.bipush 9) 2 13 := ⟨by decide +kernel, rfl⟩
theorem d_X9_begin_13 : At cX9_begin 13 (.putfield 161) 3 16 := ⟨by decide +kernel, rfl⟩
theorem d_X9_begin_16 : Go cX9_begin 16 (.return_) 1 := (by decide +kernel : decode cX9_begin 16 = .ok (.return_, 1))
theorem d_X9_begin_17 : At cX9_begin 17 (.aload_n 0) 1 18 := ⟨by decide +kernel, rfl⟩
theorem d_X9_begin_18 : At cX9_begin 18 (.dup) 1 19 := ⟨by decide +kernel, rfl⟩
theorem d_X9_begin_19 : At cX9_begin 19 (.getfield 158) 3 22 := ⟨by decide +kernel, rfl⟩
theorem d_X9_begin_22 : At cX9_begin 22 (.iconst 1) 1 23 := ⟨by decide +kernel, rfl⟩
theorem d_X9_begin_23 : At cX9_begin 23 (.iadd) 1 24 := ⟨by decide +kernel, rfl⟩
theorem d_X9_begin_24 : At cX9_begin 24 (.putfield 158) 3 27 := ⟨by decide +kernel, rfl⟩
theorem d_X9_begin_27 : At cX9_begin 27 (.aload_n 0) 1 28 := ⟨by decide +kernel, rfl⟩
theorem d_X9_begin_28 : At cX9_begin 28 (.getfield 37) 3 31 := ⟨by decide +kernel, rfl⟩
theorem d_X9_begin_31 : At cX9_begin 31 (.aload_n 0) 1 32 := ⟨by decide +kernel, rfl⟩
theorem d_X9_begin_32 : At cX9_begin 32 (.getfield 155) 3 35 := ⟨by decide +kernel, rfl⟩
theorem d_X9_begin_35 : At cX9_begin 35 (.iaload) 1 36 := ⟨by decide +kernel, rfl⟩
theorem d_X9_begin_36 : At cX9_begin 36 (.istore_n 2) 1 37 := ⟨by decide +kernel, rfl⟩
theorem d_X9_begin_37 : At cX9_begin 37 (.aload_n 0) 1 38 := ⟨by decide +kernel, rfl⟩
theorem d_X9_begin_38 : At cX9_begin 38 (.getfield 7) 3 41 := ⟨by decide +kernel, rfl⟩
theorem d_X9_begin_41 : At cX9_begin 41 (.bipush 30) 2 43 := ⟨by decide +kernel, rfl⟩
theorem d_X9_begin_43 : At cX9_begin 43 (.iload_n 2) 1 44 := ⟨by decide +kernel, rfl⟩
theorem d_X9_begin_44 : At cX9_begin 44 (.imul) 1 45 := ⟨by decide +kernel, rfl⟩
theorem d_X9_begin_45 : At cX9_begin 45 (.aload_n 0) 1 46 := ⟨by decide +kernel, rfl⟩
theorem d_X9_begin_46 : At cX9_begin 46 (.getfield 149) 3 49 := ⟨by decide +kernel, rfl⟩
theorem d_X9_begin_49 : At cX9_begin 49 (.iadd) 1 50 := ⟨by decide +kernel, rfl⟩
theorem d_X9_begin_50 : At cX9_begin 50 (.iaload) 1 51 := ⟨by decide +kernel, rfl⟩
theorem d_X9_begin_51 : At cX9_begin 51 (.istore_n 3) 1 52 := ⟨by decide +kernel, rfl⟩
theorem d_X9_begin_52 : At cX9_begin 52 (.iload_n 3) 1 53 := ⟨by decide +kernel, rfl⟩
theorem d_X9_begin_53 : At cX9_begin 53 (.invokestatic 81) 3 56 := ⟨by decide +kernel, rfl⟩
theorem d_X9_begin_56 : Br cX9_begin 56 (.ifCond .lt 16) (16) 59 72 := ⟨by decide +kernel, rfl, rfl⟩
theorem d_X9_begin_59 : At cX9_begin 59 (.aload_n 0) 1 60 := ⟨by decide +kernel, rfl⟩
theorem d_X9_begin_60 : At cX9_begin 60 (.iload_n 3) 1 61 := ⟨by decide +kernel, rfl⟩
theorem d_X9_begin_61 : At cX9_begin 61 (.invokestatic 81) 3 64 := ⟨by decide +kernel, rfl⟩
theorem d_X9_begin_64 : At cX9_begin 64 (.iload_n 2) 1 65 := ⟨by decide +kernel, rfl⟩
theorem d_X9_begin_65 : At cX9_begin 65 (.iload_n 1) 1 66 := ⟨by decide +kernel, rfl⟩
theorem d_X9_begin_66 : At cX9_begin 66 (.invokevirtual 164) 3 69 := ⟨by decide +kernel, rfl⟩
theorem d_X9_begin_69 : Br cX9_begin 69 (.goto 102) (102) 72 171 := ⟨by decide +kernel, rfl, rfl⟩
theorem d_X9_begin_72 : At cX9_begin 72 (.iload_n 3) 1 73 := ⟨by decide +kernel, rfl⟩
theorem d_X9_begin_73 : At cX9_begin 73 (.invokestatic 92) 3 76 := ⟨by decide +kernel, rfl⟩
theorem d_X9_begin_76 : Br cX9_begin 76 (.ifCond .eq 22) (22) 79 98 := ⟨by decide +kernel, rfl, rfl⟩
theorem d_X9_begin_79 : At cX9_begin 79 (.aload_n 0) 1 80 := ⟨by decide +kernel, rfl⟩
theorem d_X9_begin_80 : At cX9_begin 80 (.iconst 3) 1 81 := ⟨by decide +kernel, rfl⟩
theorem d_X9_begin_81 : At cX9_begin 81 (.aload_n 0) 1 82 := ⟨by decide +kernel, rfl⟩
theorem d_X9_begin_82 : At cX9_begin 82 (.getfield 155) 3 85 := ⟨by decide +kernel, rfl⟩
theorem d_X9_begin_85 : At cX9_begin 85 (.imul) 1 86 := ⟨by decide +kernel, rfl⟩
theorem d_X9_begin_86 : At cX9_begin 86 (.iload_n 3) 1 87 := ⟨by decide +kernel, rfl⟩
theorem d_X9_begin_87 : At cX9_begin 87 (.iadd) 1 88 := ⟨by decide +kernel, rfl⟩
theorem d_X9_begin_88 : At cX9_begin 88 (.bipush 120) 2 90 := ⟨by decide +kernel, rfl⟩
theorem d_X9_begin_90 : At cX9_begin 90 (.isub) 1 91 := ⟨by decide +kernel, rfl⟩
theorem d_X9_begin_91 : At cX9_begin 91 (.iload_n 1) 1 92 := ⟨by decide +kernel, rfl⟩
theorem d_X9_begin_92 : At cX9_begin 92 (.invokevirtual 168) 3 95 := ⟨by decide +kernel, rfl⟩
theorem d_X9_begin_95 : Br cX9_begin 95 (.goto 76) (76) 98 171 := ⟨by decide +kernel, rfl, rfl⟩
theorem d_X9_begin_98 : At cX9_begin 98 (.iload_n 3) 1 99 := ⟨by decide +kernel, rfl⟩
theorem d_X9_begin_99 : At cX9_begin 99 (.invokestatic 88) 3 102 := ⟨by decide +kernel, rfl⟩
theorem d_X9_begin_102 : Br cX9_begin 102 (.ifCond .ne 9) (9) 105 111 := ⟨by decide +kernel, rfl, rfl⟩
theorem d_X9_begin_105 : At cX9_begin 105 (.iload_n 3) 1 106 := ⟨by decide +kernel, rfl⟩
theorem d_X9_begin_106 : At cX9_begin 106 (.bipush 63) 2 108 := ⟨by decide +kernel, rfl⟩
theorem d_X9_begin_108 : Br cX9_begin 108 (.if_icmp .ne 40) (40) 111 148 := ⟨by decide +kernel, rfl, rfl⟩
theorem d_X9_begin_111 : At cX9_begin 111 (.aload_n 0) 1 112 := ⟨by decide +kernel, rfl⟩
theorem d_X9_begin_112 : At cX9_begin 112 (.iload_n 3) 1 113 := ⟨by decide +kernel, rfl⟩
theorem d_X9_begin_113 : At cX9_begin 113 (.bipush 63) 2 115 := ⟨by decide +kernel, rfl⟩
theorem d_X9_begin_115 : Br cX9_begin 115 (.if_icmp .ne 7) (7) 118 122 := ⟨by decide +kernel, rfl, rfl⟩
theorem d_X9_begin_118 : At cX9_begin 118 (.iconst 3) 1 119 := ⟨by decide +kernel, rfl⟩
theorem d_X9_begin_119 : Br cX9_begin 119 (.goto 4) (4) 122 123 := ⟨by decide +kernel, rfl, rfl⟩
theorem d_X9_begin_122 : At cX9_begin 122 (.iconst 1) 1 123 := ⟨by decide +kernel, rfl⟩
theorem d_X9_begin_123 : At cX9_begin 123 (.aload_n 0) 1 124 := ⟨by decide +kernel, rfl⟩
theorem d_X9_begin_124 : At cX9_begin 124 (.getfield 149) 3 127 := ⟨by decide +kernel, rfl⟩
theorem d_X9_begin_127 : At cX9_begin 127 (.aload_n 0) 1 128 := ⟨by decide +kernel, rfl⟩
theorem d_X9_begin_128 : At cX9_begin 128 (.getfield 155) 3 131 := ⟨by decide +kernel, rfl⟩
theorem d_X9_begin_131 : At cX9_begin 131 (.iconst 0) 1 132 := ⟨by decide +kernel, rfl⟩
theorem d_X9_begin_132 : At cX9_begin 132 (.invokevirtual 171) 3 135 := ⟨by decide +kernel, rfl⟩
theorem d_X9_begin_135 : At cX9_begin 135 (.aload_n 0) 1 136 := ⟨by decide +kernel, rfl⟩
theorem d_X9_begin_136 : At cX9_begin 136 (.dup) 1 137 := ⟨by decide +kernel, rfl⟩
theorem d_X9_begin_137 : At cX9_begin 137 (.getfield 149) 3 140 := ⟨by decide +kernel, rfl⟩
theorem d_X9_begin_140 : At cX9_begin 140 (.iconst 1) 1 141 := ⟨by decide +kernel, rfl⟩
theorem d_X9_begin_141 : At cX9_begin 141 (.iadd) 1 142 := ⟨by decide +kernel, rfl⟩
theorem d_X9_begin_142 : At cX9_begin 142 (.putfield 149) 3 145 := ⟨by decide +kernel, rfl⟩
theorem d_X9_begin_145 : Br cX9_begin 145 (.goto 26) (26) 148 171 := ⟨by decide +kernel, rfl, rfl⟩
theorem d_X9_begin_148 : At cX9_begin 148 (.iload_n 3) 1 149 := ⟨by decide +kernel, rfl⟩
theorem d_X9_begin_149 : At cX9_begin 149 (.bipush 33) 2 151 := ⟨by decide +kernel, rfl⟩
theorem d_X9_begin_151 : Br cX9_begin 151 (.if_icmp .ne 12) (12) 154 163 := ⟨by decide +kernel, rfl, rfl⟩
theorem d_X9_begin_154 : At cX9_begin 154 (.aload_n 0) 1 155 := ⟨by decide +kernel, rfl⟩
theorem d_X9_begin_155 : At cX9_begin 155 (.bipush 8) 2 157 := ⟨by decide +kernel, rfl⟩
theorem d_X9_begin_157 : At cX9_begin 157 (.putfield 161) 3 160 := ⟨by decide +kernel, rfl⟩
theorem d_X9_begin_160 : Br cX9_begin 160 (.goto 11) (11) 163 171 := ⟨by decide +kernel, rfl, rfl⟩
theorem d_X9_begin_163 : At cX9_begin 163 (.aload_n 0) 1 164 := ⟨by decide +kernel, rfl⟩
theorem d_X9_begin_164 : At cX9_begin 164 (.iload_n 3) 1 165 := ⟨by decide +kernel, rfl⟩
theorem d_X9_begin_165 : At cX9_begin 165 (.bipush 48) 2 167 := ⟨by decide +kernel, rfl⟩
theorem d_X9_begin_167 : At cX9_begin 167 (.isub) 1 168 := ⟨by decide +kernel, rfl⟩
theorem d_X9_begin_168 : At cX9_begin 168 (.invokevirtual 175) 3 171 := ⟨by decide +kernel, rfl⟩
theorem d_X9_begin_171 : Go cX9_begin 171 (.return_) 1 := (by decide +kernel : decode cX9_begin 171 = .ok (.return_, 1))
theorem d_X9_beginArgument_0 : At cX9_beginArgument 0 (.aload_n 0) 1 1 := ⟨by decide +kernel, rfl⟩
theorem d_X9_beginArgument_1 : At cX9_beginArgument 1 (.getfield 40) 3 4 := ⟨by decide +kernel, rfl⟩
theorem d_X9_beginArgument_4 : At cX9_beginArgument 4 (.iload_n 1) 1 5 := ⟨by decide +kernel, rfl⟩
theorem d_X9_beginArgument_5 : At cX9_beginArgument 5 (.iaload) 1 6 := ⟨by decide +kernel, rfl⟩
theorem d_X9_beginArgument_6 : At cX9_beginArgument 6 (.bipush 8) 2 8 := ⟨by decide +kernel, rfl⟩
theorem d_X9_beginArgument_8 : Br cX9_beginArgument 8 (.if_icmp .ne 12) (12) 11 20 := ⟨by decide +kernel, rfl, rfl⟩
theorem d_X9_beginArgument_11 : At cX9_beginArgument 11 (.aload_n 0) 1 12 := ⟨by decide +kernel, rfl⟩
theorem d_X9_beginArgument_12 : At cX9_beginArgument 12 (.bipush 8) 2 14 := ⟨by decide +kernel, rfl⟩
theorem d_X9_beginArgument_14 : At cX9_beginArgument 14 (.putfield 161) 3 17 := ⟨by decide +kernel, rfl⟩
theorem d_X9_beginArgument_17 : Br cX9_beginArgument 17 (.goto 53) (53) 20 70 := ⟨by decide +kernel, rfl, rfl⟩
theorem d_X9_beginArgument_20 : At cX9_beginArgument 20 (.aload_n 0) 1 21 := ⟨by decide +kernel, rfl⟩
theorem d_X9_beginArgument_21 : At cX9_beginArgument 21 (.getfield 40) 3 24 := ⟨by decide +kernel, rfl⟩
theorem d_X9_beginArgument_24 : At cX9_beginArgument 24 (.iload_n 1) 1 25 := ⟨by decide +kernel, rfl⟩
theorem d_X9_beginArgument_25 : At cX9_beginArgument 25 (.iaload) 1 26 := ⟨by decide +kernel, rfl⟩
theorem d_X9_beginArgument_26 : Br cX9_beginArgument 26 (.ifCond .lt 16) (16) 29 42 := ⟨by decide +kernel, rfl, rfl⟩
theorem d_X9_beginArgument_29 : At cX9_beginArgument 29 (.aload_n 0) 1 30 := ⟨by decide +kernel, rfl⟩
theorem d_X9_beginArgument_30 : At cX9_beginArgument 30 (.aload_n 0) 1 31 := ⟨by decide +kernel, rfl⟩
theorem d_X9_beginArgument_31 : At cX9_beginArgument 31 (.getfield 40) 3 34 := ⟨by decide +kernel, rfl⟩
theorem d_X9_beginArgument_34 : At cX9_beginArgument 34 (.iload_n 1) 1 35 := ⟨by decide +kernel, rfl⟩
theorem d_X9_beginArgument_35 : At cX9_beginArgument 35 (.iaload) 1 36 := ⟨by decide +kernel, rfl⟩
theorem d_X9_beginArgument_36 : At cX9_beginArgument 36 (.invokevirtual 175) 3 39 := ⟨by decide +kernel, rfl⟩
theorem d_X9_beginArgument_39 : Br cX9_beginArgument 39 (.goto 31) (31) 42 70 := ⟨by decide +kernel, rfl, rfl⟩
theorem d_X9_beginArgument_42 : At cX9_beginArgument 42 (.iload_n 2) 1 43 := ⟨by decide +kernel, rfl⟩
theorem d_X9_beginArgument_43 : Br cX9_beginArgument 43 (.ifCond .eq 11) (11) 46 54 := ⟨by decide +kernel, rfl, rfl⟩
theorem d_X9_beginArgument_46 : At cX9_beginArgument 46 (.aload_n 0) 1 47 := ⟨by decide +kernel, rfl⟩
theorem d_X9_beginArgument_47 : At cX9_beginArgument 47 (.iconst 4) 1 48 := ⟨by decide +kernel, rfl⟩
theorem d_X9_beginArgument_48 : At cX9_beginArgument 48 (.iconst 0) 1 49 := ⟨by decide +kernel, rfl⟩
theorem d_X9_beginArgument_49 : At cX9_beginArgument 49 (.iconst 0) 1 50 := ⟨by decide +kernel, rfl⟩
theorem d_X9_beginArgument_50 : At cX9_beginArgument 50 (.iload_n 1) 1 51 := ⟨by decide +kernel, rfl⟩
theorem d_X9_beginArgument_51 : At cX9_beginArgument 51 (.invokevirtual 171) 3 54 := ⟨by decide +kernel, rfl⟩
theorem d_X9_beginArgument_54 : At cX9_beginArgument 54 (.aload_n 0) 1 55 := ⟨by decide +kernel, rfl⟩
theorem d_X9_beginArgument_55 : At cX9_beginArgument 55 (.aload_n 0) 1 56 := ⟨by decide +kernel, rfl⟩
theorem d_X9_beginArgument_56 : At cX9_beginArgument 56 (.getfield 43) 3 59 := ⟨by decide +kernel, rfl⟩
theorem d_X9_beginArgument_59 : At cX9_beginArgument 59 (.iload_n 1) 1 60 := ⟨by decide +kernel, rfl⟩
theorem d_X9_beginArgument_60 : At cX9_beginArgument 60 (.iaload) 1 61 := ⟨by decide +kernel, rfl⟩
theorem d_X9_beginArgument_61 : At cX9_beginArgument 61 (.aload_n 0) 1 62 := ⟨by decide +kernel, rfl⟩
theorem d_X9_beginArgument_62 : At cX9_beginArgument 62 (.getfield 46) 3 65 := ⟨by decide +kernel, rfl⟩
theorem d_X9_beginArgument_65 : At cX9_beginArgument 65 (.iload_n 1) 1 66 := ⟨by decide +kernel, rfl⟩
theorem d_X9_beginArgument_66 : At cX9_beginArgument 66 (.iaload) 1 67 := ⟨by decide +kernel, rfl⟩
theorem d_X9_beginArgument_67 : At cX9_beginArgument 67 (.invokevirtual 179) 3 70 := ⟨by decide +kernel, rfl⟩
theorem d_X9_beginArgument_70 : Go cX9_beginArgument 70 (.return_) 1 := (by decide +kernel : decode cX9_beginArgument 70 = .ok (.return_, 1))
theorem d_X9_beginCall_0 : At cX9_beginCall 0 (.aload_n 0) 1 1 := ⟨by decide +kernel, rfl⟩
theorem d_X9_beginCall_1 : At cX9_beginCall 1 (.getfield 182) 3 4 := ⟨by decide +kernel, rfl⟩
theorem d_X9_beginCall_4 : At cX9_beginCall 4 (.istore 4) 2 6 := ⟨by decide +kernel, rfl⟩
theorem d_X9_beginCall_6 : At cX9_beginCall 6 (.aload_n 0) 1 7 := ⟨by decide +kernel, rfl⟩
theorem d_X9_beginCall_7 : At cX9_beginCall 7 (.getfield 37) 3 10 := ⟨by decide +kernel, rfl⟩
theorem d_X9_beginCall_10 : At cX9_beginCall 10 (.iload 4) 2 12 := ⟨by decide +kernel, rfl⟩
theorem d_X9_beginCall_12 : At cX9_beginCall 12 (.iload_n 1) 1 13 := ⟨by decide +kernel, rfl⟩
theorem d_X9_beginCall_13 : At cX9_beginCall 13 (.iastore) 1 14 := ⟨by decide +kernel, rfl⟩
theorem d_X9_beginCall_14 : At cX9_beginCall 14 (.iconst 0) 1 15 := ⟨by decide +kernel, rfl⟩
theorem d_X9_beginCall_15 : At cX9_beginCall 15 (.istore 5) 2 17 := ⟨by decide +kernel, rfl⟩
theorem d_X9_beginCall_17 : At cX9_beginCall 17 (.iload 5) 2 19 := ⟨by decide +kernel, rfl⟩
theorem d_X9_beginCall_19 : At cX9_beginCall 19 (.iload_n 1) 1 20 := ⟨by decide +kernel, rfl⟩
theorem d_X9_beginCall_20 : At cX9_beginCall 20 (.invokestatic 85) 3 23 := ⟨by decide +kernel, rfl⟩
theorem d_X9_beginCall_23 : Br cX9_beginCall 23 (.if_icmp .ge 61) (61) 26 84 := ⟨by decide +kernel, rfl, rfl⟩
theorem d_X9_beginCall_26 : At cX9_beginCall 26 (.aload_n 0) 1 27 := ⟨by decide +kernel, rfl⟩
theorem d_X9_beginCall_27 : At cX9_beginCall 27 (.getfield 40) 3 30 := ⟨by decide +kernel, rfl⟩
theorem d_X9_beginCall_30 : At cX9_beginCall 30 (.iconst 3) 1 31 := ⟨by decide +kernel, rfl⟩
theorem d_X9_beginCall_31 : At cX9_beginCall 31 (.iload 4) 2 33 := ⟨by decide +kernel, rfl⟩
theorem d_X9_beginCall_33 : At cX9_beginCall 33 (.imul) 1 34 := ⟨by decide +kernel, rfl⟩
theorem d_X9_beginCall_34 : At cX9_beginCall 34 (.iload 5) 2 36 := ⟨by decide +kernel, rfl⟩
theorem d_X9_beginCall_36 : At cX9_beginCall 36 (.iadd) 1 37 := ⟨by decide +kernel, rfl⟩
theorem d_X9_beginCall_37 : At cX9_beginCall 37 (.iconst (-1)) 1 38 := ⟨by decide +kernel, rfl⟩
theorem d_X9_beginCall_38 : At cX9_beginCall 38 (.iastore) 1 39 := ⟨by decide +kernel, rfl⟩
theorem d_X9_beginCall_39 : At cX9_beginCall 39 (.aload_n 0) 1 40 := ⟨by decide +kernel, rfl⟩
theorem d_X9_beginCall_40 : At cX9_beginCall 40 (.getfield 43) 3 43 := ⟨by decide +kernel, rfl⟩
theorem d_X9_beginCall_43 : At cX9_beginCall 43 (.iconst 3) 1 44 := ⟨by decide +kernel, rfl⟩
theorem d_X9_beginCall_44 : At cX9_beginCall 44 (.iload 4) 2 46 := ⟨by decide +kernel, rfl⟩
theorem d_X9_beginCall_46 : At cX9_beginCall 46 (.imul) 1 47 := ⟨by decide +kernel, rfl⟩
theorem d_X9_beginCall_47 : At cX9_beginCall 47 (.iload 5) 2 49 := ⟨by decide +kernel, rfl⟩
theorem d_X9_beginCall_49 : At cX9_beginCall 49 (.iadd) 1 50 := ⟨by decide +kernel, rfl⟩
theorem d_X9_beginCall_50 : At cX9_beginCall 50 (.aload_n 0) 1 51 := ⟨by decide +kernel, rfl⟩
theorem d_X9_beginCall_51 : At cX9_beginCall 51 (.iload_n 2) 1 52 := ⟨by decide +kernel, rfl⟩
theorem d_X9_beginCall_52 : At cX9_beginCall 52 (.aload_n 0) 1 53 := ⟨by decide +kernel, rfl⟩
theorem d_X9_beginCall_53 : At cX9_beginCall 53 (.getfield 149) 3 56 := ⟨by decide +kernel, rfl⟩
theorem d_X9_beginCall_56 : At cX9_beginCall 56 (.iload 5) 2 58 := ⟨by decide +kernel, rfl⟩
theorem d_X9_beginCall_58 : At cX9_beginCall 58 (.invokevirtual 113) 3 61 := ⟨by decide +kernel, rfl⟩
theorem d_X9_beginCall_61 : At cX9_beginCall 61 (.iastore) 1 62 := ⟨by decide +kernel, rfl⟩
theorem d_X9_beginCall_62 : At cX9_beginCall 62 (.aload_n 0) 1 63 := ⟨by decide +kernel, rfl⟩
theorem d_X9_beginCall_63 : At cX9_beginCall 63 (.getfield 46) 3 66 := ⟨by decide +kernel, rfl⟩
theorem d_X9_beginCall_66 : At cX9_beginCall 66 (.iconst 3) 1 67 := ⟨by decide +kernel, rfl⟩
theorem d_X9_beginCall_67 : At cX9_beginCall 67 (.iload 4) 2 69 := ⟨by decide +kernel, rfl⟩
theorem d_X9_beginCall_69 : At cX9_beginCall 69 (.imul) 1 70 := ⟨by decide +kernel, rfl⟩
theorem d_X9_beginCall_70 : At cX9_beginCall 70 (.iload 5) 2 72 := ⟨by decide +kernel, rfl⟩
theorem d_X9_beginCall_72 : At cX9_beginCall 72 (.iadd) 1 73 := ⟨by decide +kernel, rfl⟩
theorem d_X9_beginCall_73 : At cX9_beginCall 73 (.aload_n 0) 1 74 := ⟨by decide +kernel, rfl⟩
theorem d_X9_beginCall_74 : At cX9_beginCall 74 (.getfield 155) 3 77 := ⟨by decide +kernel, rfl⟩
theorem d_X9_beginCall_77 : At cX9_beginCall 77 (.iastore) 1 78 := ⟨by decide +kernel, rfl⟩
theorem d_X9_beginCall_78 : At cX9_beginCall 78 (.iinc 5 1) 3 81 := ⟨by decide +kernel, rfl⟩
theorem d_X9_beginCall_81 : Br cX9_beginCall 81 (.goto (-64)) (-64) 84 17 := ⟨by decide +kernel, rfl, rfl⟩
theorem d_X9_beginCall_84 : At cX9_beginCall 84 (.aload_n 0) 1 85 := ⟨by decide +kernel, rfl⟩
theorem d_X9_beginCall_85 : At cX9_beginCall 85 (.dup) 1 86 := ⟨by decide +kernel, rfl⟩
theorem d_X9_beginCall_86 : At cX9_beginCall 86 (.getfield 182) 3 89 := ⟨by decide +kernel, rfl⟩
theorem d_X9_beginCall_89 : At cX9_beginCall 89 (.iconst 1) 1 90 := ⟨by decide +kernel, rfl⟩
theorem d_X9_beginCall_90 : At cX9_beginCall 90 (.iadd) 1 91 := ⟨by decide +kernel, rfl⟩
theorem d_X9_beginCall_91 : At cX9_beginCall 91 (.putfield 182) 3 94 := ⟨by decide +kernel, rfl⟩
theorem d_X9_beginCall_94 : At cX9_beginCall 94 (.aload_n 0) 1 95 := ⟨by decide +kernel, rfl⟩
theorem d_X9_beginCall_95 : At cX9_beginCall 95 (.iload 4) 2 97 := ⟨by decide +kernel, rfl⟩
theorem d_X9_beginCall_97 : At cX9_beginCall 97 (.iconst 0) 1 98 := ⟨by decide +kernel, rfl⟩
theorem d_X9_beginCall_98 : At cX9_beginCall 98 (.iload_n 3) 1 99 := ⟨by decide +kernel, rfl⟩
theorem d_X9_beginCall_99 : At cX9_beginCall 99 (.invokevirtual 185) 3 102 := ⟨by decide +kernel, rfl⟩
theorem d_X9_beginCall_102 : Go cX9_beginCall 102 (.return_) 1 := (by decide +kernel : decode cX9_beginCall 102 = .ok (.return_, 1))
theorem d_X9_goAhead_0 : At cX9_goAhead 0 (.aload_n 0) 1 1 := ⟨by decide +kernel, rfl⟩
theorem d_X9_goAhead_1 : At cX9_goAhead 1 (.getfield 37) 3 4 := ⟨by decide +kernel, rfl⟩
theorem d_X9_goAhead_4 : At cX9_goAhead 4 (.iload_n 1) 1 5 := ⟨by decide +kernel, rfl⟩
theorem d_X9_goAhead_5 : At cX9_goAhead 5 (.iaload) 1 6 := ⟨by decide +kernel, rfl⟩
theorem d_X9_goAhead_6 : At cX9_goAhead 6 (.istore 4) 2 8 := ⟨by decide +kernel, rfl⟩
theorem d_X9_goAhead_8 : At cX9_goAhead 8 (.iload_n 2) 1 9 := ⟨by decide +kernel, rfl⟩
theorem d_X9_goAhead_9 : At cX9_goAhead 9 (.istore 5) 2 11 := ⟨by decide +kernel, rfl⟩
theorem d_X9_goAhead_11 : At cX9_goAhead 11 (.iload 5) 2 13 := ⟨by decide +kernel, rfl⟩
theorem d_X9_goAhead_13 : At cX9_goAhead 13 (.iload 4) 2 15 := ⟨by decide +kernel, rfl⟩
theorem d_X9_goAhead_15 : At cX9_goAhead 15 (.invokestatic 85) 3 18 := ⟨by decide +kernel, rfl⟩
theorem d_X9_goAhead_18 : Br cX9_goAhead 18 (.if_icmp .ge 66) (66) 21 84 := ⟨by decide +kernel, rfl, rfl⟩
theorem d_X9_goAhead_21 : At cX9_goAhead 21 (.iload_n 3) 1 22 := ⟨by decide +kernel, rfl⟩
theorem d_X9_goAhead_22 : At cX9_goAhead 22 (.iconst 2) 1 23 := ⟨by decide +kernel, rfl⟩
theorem d_X9_goAhead_23 : Br cX9_goAhead 23 (.if_icmp .eq 19) (19) 26 42 := ⟨by decide +kernel, rfl, rfl⟩
theorem d_X9_goAhead_26 : At cX9_goAhead 26 (.iload_n 3) 1 27 := ⟨by decide +kernel, rfl⟩
theorem d_X9_goAhead_27 : At cX9_goAhead 27 (.iconst 3) 1 28 := ⟨by decide +kernel, rfl⟩
theorem d_X9_goAhead_28 : Br cX9_goAhead 28 (.if_icmp .ne 50) (50) 31 78 := ⟨by decide +kernel, rfl, rfl⟩
theorem d_X9_goAhead_31 : At cX9_goAhead 31 (.aload_n 0) 1 32 := ⟨by decide +kernel, rfl⟩
theorem d_X9_goAhead_32 : At cX9_goAhead 32 (.iload 4) 2 34 := ⟨by decide +kernel, rfl⟩
theorem d_X9_goAhead_34 : At cX9_goAhead 34 (.iload 5) 2 36 := ⟨by decide +kernel, rfl⟩
theorem d_X9_goAhead_36 : At cX9_goAhead 36 (.invokevirtual 136) 3 39 := ⟨by decide +kernel, rfl⟩
theorem d_X9_goAhead_39 : Br cX9_goAhead 39 (.ifCond .eq 39) (39) 42 78 := ⟨by decide +kernel, rfl, rfl⟩
theorem d_X9_goAhead_42 : At cX9_goAhead 42 (.aload_n 0) 1 43 := ⟨by decide +kernel, rfl⟩
theorem d_X9_goAhead_43 : At cX9_goAhead 43 (.iconst 5) 1 44 := ⟨by decide +kernel, rfl⟩
theorem d_X9_goAhead_44 : At cX9_goAhead 44 (.iload 5) 2 46 := ⟨by decide +kernel, rfl⟩
theorem d_X9_goAhead_46 : At cX9_goAhead 46 (.iload_n 1) 1 47 := ⟨by decide +kernel, rfl⟩
theorem d_X9_goAhead_47 : At cX9_goAhead 47 (.iload_n 3) 1 48 := ⟨by decide +kernel, rfl⟩
theorem d_X9_goAhead_48 : At cX9_goAhead 48 (.invokevirtual 171) 3 51 := ⟨by decide +kernel, rfl⟩
theorem d_X9_goAhead_51 : At cX9_goAhead 51 (.aload_n 0) 1 52 := ⟨by decide +kernel, rfl⟩
theorem d_X9_goAhead_52 : At cX9_goAhead 52 (.aload_n 0) 1 53 := ⟨by decide +kernel, rfl⟩
theorem d_X9_goAhead_53 : At cX9_goAhead 53 (.getfield 43) 3 56 := ⟨by decide +kernel, rfl⟩
theorem d_X9_goAhead_56 : At cX9_goAhead 56 (.iconst 3) 1 57 := ⟨by decide +kernel, rfl⟩
theorem d_X9_goAhead_57 : At cX9_goAhead 57 (.iload_n 1) 1 58 := ⟨by decide +kernel, rfl⟩
theorem d_X9_goAhead_58 : At cX9_goAhead 58 (.imul) 1 59 := ⟨by decide +kernel, rfl⟩
theorem d_X9_goAhead_59 : At cX9_goAhead 59 (.iload 5) 2 61 := ⟨by decide +kernel, rfl⟩
theorem d_X9_goAhead_61 : At cX9_goAhead 61 (.iadd) 1 62 := ⟨by decide +kernel, rfl⟩
theorem d_X9_goAhead_62 : At cX9_goAhead 62 (.iaload) 1 63 := ⟨by decide +kernel, rfl⟩
theorem d_X9_goAhead_63 : At cX9_goAhead 63 (.aload_n 0) 1 64 := ⟨by decide +kernel, rfl⟩
theorem d_X9_goAhead_64 : At cX9_goAhead 64 (.getfield 46) 3 67 := ⟨by decide +kernel, rfl⟩
theorem d_X9_goAhead_67 : At cX9_goAhead 67 (.iconst 3) 1 68 := ⟨by decide +kernel, rfl⟩
theorem d_X9_goAhead_68 : At cX9_goAhead 68 (.iload_n 1) 1 69 := ⟨by decide +kernel, rfl⟩
theorem d_X9_goAhead_69 : At cX9_goAhead 69 (.imul) 1 70 := ⟨by decide +kernel, rfl⟩
theorem d_X9_goAhead_70 : At cX9_goAhead 70 (.iload 5) 2 72 := ⟨by decide +kernel, rfl⟩
theorem d_X9_goAhead_72 : At cX9_goAhead 72 (.iadd) 1 73 := ⟨by decide +kernel, rfl⟩
theorem d_X9_goAhead_73 : At cX9_goAhead 73 (.iaload) 1 74 := ⟨by decide +kernel, rfl⟩
theorem d_X9_goAhead_74 : At cX9_goAhead 74 (.invokevirtual 179) 3 77 := ⟨by decide +kernel, rfl⟩
theorem d_X9_goAhead_77 : Go cX9_goAhead 77 (.return_) 1 := (by decide +kernel : decode cX9_goAhead 77 = .ok (.return_, 1))
theorem d_X9_goAhead_78 : At cX9_goAhead 78 (.iinc 5 1) 3 81 := ⟨by decide +kernel, rfl⟩
theorem d_X9_goAhead_81 : Br cX9_goAhead 81 (.goto (-70)) (-70) 84 11 := ⟨by decide +kernel, rfl, rfl⟩
theorem d_X9_goAhead_84 : At cX9_goAhead 84 (.aload_n 0) 1 85 := ⟨by decide +kernel, rfl⟩
theorem d_X9_goAhead_85 : At cX9_goAhead 85 (.iconst 0) 1 86 := ⟨by decide +kernel, rfl⟩
theorem d_X9_goAhead_86 : At cX9_goAhead 86 (.iload_n 1) 1 87 := ⟨by decide +kernel, rfl⟩
theorem d_X9_goAhead_87 : At cX9_goAhead 87 (.invokevirtual 179) 3 90 := ⟨by decide +kernel, rfl⟩
theorem d_X9_goAhead_90 : Go cX9_goAhead 90 (.return_) 1 := (by decide +kernel : decode cX9_goAhead 90 = .ok (.return_, 1))
theorem d_X9_goOn_0 : At cX9_goOn 0 (.aload_n 0) 1 1 := ⟨by decide +kernel, rfl⟩
theorem d_X9_goOn_1 : At cX9_goOn 1 (.dup) 1 2 := ⟨by decide +kernel, rfl⟩
theorem d_X9_goOn_2 : At cX9_goOn 2 (.getfield 145) 3 5 := ⟨by decide +kernel, rfl⟩
theorem d_X9_goOn_5 : At cX9_goOn 5 (.iconst 1) 1 6 := ⟨by decide +kernel, rfl⟩
theorem d_X9_goOn_6 : At cX9_goOn 6 (.isub) 1 7 := ⟨by decide +kernel, rfl⟩
theorem d_X9_goOn_7 : At cX9_goOn 7 (.putfield 145) 3 10 := ⟨by decide +kernel, rfl⟩
theorem d_X9_goOn_10 : At cX9_goOn 10 (.aload_n 0) 1 11 := ⟨by decide +kernel, rfl⟩
theorem d_X9_goOn_11 : At cX9_goOn 11 (.getfield 52) 3 14 := ⟨by decide +kernel, rfl⟩
theorem d_X9_goOn_14 : At cX9_goOn 14 (.aload_n 0) 1 15 := ⟨by decide +kernel, rfl⟩
theorem d_X9_goOn_15 : At cX9_goOn 15 (.getfield 145) 3 18 := ⟨by decide +kernel, rfl⟩
theorem d_X9_goOn_18 : At cX9_goOn 18 (.iaload) 1 19 := ⟨by decide +kernel, rfl⟩
theorem d_X9_goOn_19 : At cX9_goOn 19 (.istore_n 1) 1 20 := ⟨by decide +kernel, rfl⟩
theorem d_X9_goOn_20 : At cX9_goOn 20 (.aload_n 0) 1 21 := ⟨by decide +kernel, rfl⟩
theorem d_X9_goOn_21 : At cX9_goOn 21 (.getfield 55) 3 24 := ⟨by decide +kernel, rfl⟩
theorem d_X9_goOn_24 : At cX9_goOn 24 (.aload_n 0) 1 25 := ⟨by decide +kernel, rfl⟩
theorem d_X9_goOn_25 : At cX9_goOn 25 (.getfield 145) 3 28 := ⟨by decide +kernel, rfl⟩
theorem d_X9_goOn_28 : At cX9_goOn 28 (.iaload) 1 29 := ⟨by decide +kernel, rfl⟩
theorem d_X9_goOn_29 : At cX9_goOn 29 (.istore_n 2) 1 30 := ⟨by decide +kernel, rfl⟩
theorem d_X9_goOn_30 : At cX9_goOn 30 (.aload_n 0) 1 31 := ⟨by decide +kernel, rfl⟩
theorem d_X9_goOn_31 : At cX9_goOn 31 (.getfield 58) 3 34 := ⟨by decide +kernel, rfl⟩
theorem d_X9_goOn_34 : At cX9_goOn 34 (.aload_n 0) 1 35 := ⟨by decide +kernel, rfl⟩
theorem d_X9_goOn_35 : At cX9_goOn 35 (.getfield 145) 3 38 := ⟨by decide +kernel, rfl⟩
theorem d_X9_goOn_38 : At cX9_goOn 38 (.iaload) 1 39 := ⟨by decide +kernel, rfl⟩
theorem d_X9_goOn_39 : At cX9_goOn 39 (.istore_n 3) 1 40 := ⟨by decide +kernel, rfl⟩
theorem d_X9_goOn_40 : At cX9_goOn 40 (.aload_n 0) 1 41 := ⟨by decide +kernel, rfl⟩
theorem d_X9_goOn_41 : At cX9_goOn 41 (.getfield 37) 3 44 := ⟨by decide +kernel, rfl⟩
theorem d_X9_goOn_44 : At cX9_goOn 44 (.iload_n 2) 1 45 := ⟨by decide +kernel, rfl⟩
theorem d_X9_goOn_45 : At cX9_goOn 45 (.iaload) 1 46 := ⟨by decide +kernel, rfl⟩
theorem d_X9_goOn_46 : At cX9_goOn 46 (.istore 4) 2 48 := ⟨by decide +kernel, rfl⟩
theorem d_X9_goOn_48 : At cX9_goOn 48 (.aload_n 0) 1 49 := ⟨by decide +kernel, rfl⟩
theorem d_X9_goOn_49 : At cX9_goOn 49 (.getfield 49) 3 52 := ⟨by decide +kernel, rfl⟩
theorem d_X9_goOn_52 : At cX9_goOn 52 (.aload_n 0) 1 53 := ⟨by decide +kernel, rfl⟩
theorem d_X9_goOn_53 : At cX9_goOn 53 (.getfield 145) 3 56 := ⟨by decide +kernel, rfl⟩
theorem d_X9_goOn_56 : At cX9_goOn 56 (.iaload) 1 57 := ⟨by decide +kernel, rfl⟩
theorem d_X9_goOn_57 : Go cX9_goOn 57 (.tableswitch 125 1 4 #[31, 58, 85, 112]) 31 := (by decide +kernel : decode cX9_goOn 57 = .ok (.tableswitch 125 1 4 #[31, 58, 85, 112], 31))
theorem d_X9_goOn_88 : At cX9_goOn 88 (.aload_n 0) 1 89 := ⟨by decide +kernel, rfl⟩
theorem d_X9_goOn_89 : At cX9_goOn 89 (.iconst 2) 1 90 := ⟨by decide +kernel, rfl⟩
theorem d_X9_goOn_90 : At cX9_goOn 90 (.iload_n 1) 1 91 := ⟨by decide +kernel, rfl⟩
theorem d_X9_goOn_91 : At cX9_goOn 91 (.iload_n 2) 1 92 := ⟨by decide +kernel, rfl⟩
theorem d_X9_goOn_92 : At cX9_goOn 92 (.aload_n 0) 1 93 := ⟨by decide +kernel, rfl⟩
theorem d_X9_goOn_93 : At cX9_goOn 93 (.getfield 152) 3 96 := ⟨by decide +kernel, rfl⟩
theorem d_X9_goOn_96 : At cX9_goOn 96 (.invokevirtual 171) 3 99 := ⟨by decide +kernel, rfl⟩
theorem d_X9_goOn_99 : At cX9_goOn 99 (.aload_n 0) 1 100 := ⟨by decide +kernel, rfl⟩
theorem d_X9_goOn_100 : At cX9_goOn 100 (.aload_n 0) 1 101 := ⟨by decide +kernel, rfl⟩
theorem d_X9_goOn_101 : At cX9_goOn 101 (.iload 4) 2 103 := ⟨by decide +kernel, rfl⟩
theorem d_X9_goOn_103 : At cX9_goOn 103 (.iload_n 1) 1 104 := ⟨by decide +kernel, rfl⟩
theorem d_X9_goOn_104 : At cX9_goOn 104 (.iconst 1) 1 105 := ⟨by decide +kernel, rfl⟩
theorem d_X9_goOn_105 : At cX9_goOn 105 (.invokevirtual 113) 3 108 := ⟨by decide +kernel, rfl⟩
theorem d_X9_goOn_108 : At cX9_goOn 108 (.iload_n 2) 1 109 := ⟨by decide +kernel, rfl⟩
theorem d_X9_goOn_109 : At cX9_goOn 109 (.invokevirtual 179) 3 112 := ⟨by decide +kernel, rfl⟩
theorem d_X9_goOn_112 : Br cX9_goOn 112 (.goto 93) (93) 115 205 := ⟨by decide +kernel, rfl, rfl⟩
theorem d_X9_goOn_115 : At cX9_goOn 115 (.aload_n 0) 1 116 := ⟨by decide +kernel, rfl⟩
theorem d_X9_goOn_116 : At cX9_goOn 116 (.aload_n 0) 1 117 := ⟨by decide +kernel, rfl⟩
theorem d_X9_goOn_117 : At cX9_goOn 117 (.getfield 7) 3 120 := ⟨by decide +kernel, rfl⟩
theorem d_X9_goOn_120 : At cX9_goOn 120 (.bipush 30) 2 122 := ⟨by decide +kernel, rfl⟩
theorem d_X9_goOn_122 : At cX9_goOn 122 (.iload 4) 2 124 := ⟨by decide +kernel, rfl⟩
theorem d_X9_goOn_124 : At cX9_goOn 124 (.imul) 1 125 := ⟨by decide +kernel, rfl⟩
theorem d_X9_goOn_125 : At cX9_goOn 125 (.iload_n 1) 1 126 := ⟨by decide +kernel, rfl⟩
theorem d_X9_goOn_126 : At cX9_goOn 126 (.iadd) 1 127 := ⟨by decide +kernel, rfl⟩
theorem d_X9_goOn_127 : At cX9_goOn 127 (.iaload) 1 128 := ⟨by decide +kernel, rfl⟩
theorem d_X9_goOn_128 : At cX9_goOn 128 (.iload_n 3) 1 129 := ⟨by decide +kernel, rfl⟩
theorem d_X9_goOn_129 : At cX9_goOn 129 (.aload_n 0) 1 130 := ⟨by decide +kernel, rfl⟩
theorem d_X9_goOn_130 : At cX9_goOn 130 (.getfield 152) 3 133 := ⟨by decide +kernel, rfl⟩
theorem d_X9_goOn_133 : At cX9_goOn 133 (.invokestatic 188) 3 136 := ⟨by decide +kernel, rfl⟩
theorem d_X9_goOn_136 : At cX9_goOn 136 (.invokevirtual 175) 3 139 := ⟨by decide +kernel, rfl⟩
theorem d_X9_goOn_139 : Br cX9_goOn 139 (.goto 66) (66) 142 205 := ⟨by decide +kernel, rfl, rfl⟩
theorem d_X9_goOn_142 : At cX9_goOn 142 (.aload_n 0) 1 143 := ⟨by decide +kernel, rfl⟩
theorem d_X9_goOn_143 : At cX9_goOn 143 (.aload_n 0) 1 144 := ⟨by decide +kernel, rfl⟩
theorem d_X9_goOn_144 : At cX9_goOn 144 (.iload 4) 2 146 := ⟨by decide +kernel, rfl⟩
theorem d_X9_goOn_146 : At cX9_goOn 146 (.iload_n 1) 1 147 := ⟨by decide +kernel, rfl⟩
theorem d_X9_goOn_147 : At cX9_goOn 147 (.aload_n 0) 1 148 := ⟨by decide +kernel, rfl⟩
theorem d_X9_goOn_148 : At cX9_goOn 148 (.getfield 152) 3 151 := ⟨by decide +kernel, rfl⟩
theorem d_X9_goOn_151 : Br cX9_goOn 151 (.ifCond .ne 7) (7) 154 158 := ⟨by decide +kernel, rfl, rfl⟩
theorem d_X9_goOn_154 : At cX9_goOn 154 (.iconst 1) 1 155 := ⟨by decide +kernel, rfl⟩
theorem d_X9_goOn_155 : Br cX9_goOn 155 (.goto 4) (4) 158 159 := ⟨by decide +kernel, rfl, rfl⟩
theorem d_X9_goOn_158 : At cX9_goOn 158 (.iconst 2) 1 159 := ⟨by decide +kernel, rfl⟩
theorem d_X9_goOn_159 : At cX9_goOn 159 (.invokevirtual 113) 3 162 := ⟨by decide +kernel, rfl⟩
theorem d_X9_goOn_162 : At cX9_goOn 162 (.iload_n 2) 1 163 := ⟨by decide +kernel, rfl⟩
theorem d_X9_goOn_163 : At cX9_goOn 163 (.invokevirtual 179) 3 166 := ⟨by decide +kernel, rfl⟩
theorem d_X9_goOn_166 : Br cX9_goOn 166 (.goto 39) (39) 169 205 := ⟨by decide +kernel, rfl, rfl⟩
theorem d_X9_goOn_169 : At cX9_goOn 169 (.aload_n 0) 1 170 := ⟨by decide +kernel, rfl⟩
theorem d_X9_goOn_170 : At cX9_goOn 170 (.getfield 40) 3 173 := ⟨by decide +kernel, rfl⟩
theorem d_X9_goOn_173 : At cX9_goOn 173 (.iload_n 3) 1 174 := ⟨by decide +kernel, rfl⟩
theorem d_X9_goOn_174 : At cX9_goOn 174 (.aload_n 0) 1 175 := ⟨by decide +kernel, rfl⟩
theorem d_X9_goOn_175 : At cX9_goOn 175 (.getfield 152) 3 178 := ⟨by decide +kernel, rfl⟩
theorem d_X9_goOn_178 : At cX9_goOn 178 (.iastore) 1 179 := ⟨by decide +kernel, rfl⟩
theorem d_X9_goOn_179 : Br cX9_goOn 179 (.goto 26) (26) 182 205 := ⟨by decide +kernel, rfl, rfl⟩
theorem d_X9_goOn_182 : At cX9_goOn 182 (.aload_n 0) 1 183 := ⟨by decide +kernel, rfl⟩
theorem d_X9_goOn_183 : At cX9_goOn 183 (.getfield 40) 3 186 := ⟨by decide +kernel, rfl⟩
theorem d_X9_goOn_186 : At cX9_goOn 186 (.iconst 3) 1 187 := ⟨by decide +kernel, rfl⟩
theorem d_X9_goOn_187 : At cX9_goOn 187 (.iload_n 2) 1 188 := ⟨by decide +kernel, rfl⟩
theorem d_X9_goOn_188 : At cX9_goOn 188 (.imul) 1 189 := ⟨by decide +kernel, rfl⟩
theorem d_X9_goOn_189 : At cX9_goOn 189 (.iload_n 1) 1 190 := ⟨by decide +kernel, rfl⟩
theorem d_X9_goOn_190 : At cX9_goOn 190 (.iadd) 1 191 := ⟨by decide +kernel, rfl⟩
theorem d_X9_goOn_191 : At cX9_goOn 191 (.aload_n 0) 1 192 := ⟨by decide +kernel, rfl⟩
theorem d_X9_goOn_192 : At cX9_goOn 192 (.getfield 152) 3 195 := ⟨by decide +kernel, rfl⟩
theorem d_X9_goOn_195 : At cX9_goOn 195 (.iastore) 1 196 := ⟨by decide +kernel, rfl⟩
theorem d_X9_goOn_196 : At cX9_goOn 196 (.aload_n 0) 1 197 := ⟨by decide +kernel, rfl⟩
theorem d_X9_goOn_197 : At cX9_goOn 197 (.iload_n 2) 1 198 := ⟨by decide +kernel, rfl⟩
theorem d_X9_goOn_198 : At cX9_goOn 198 (.iload_n 1) 1 199 := ⟨by decide +kernel, rfl⟩
theorem d_X9_goOn_199 : At cX9_goOn 199 (.iconst 1) 1 200 := ⟨by decide +kernel, rfl⟩
theorem d_X9_goOn_200 : At cX9_goOn 200 (.iadd) 1 201 := ⟨by decide +kernel, rfl⟩
theorem d_X9_goOn_201 : At cX9_goOn 201 (.iload_n 3) 1 202 := ⟨by decide +kernel, rfl⟩
theorem d_X9_goOn_202 : At cX9_goOn 202 (.invokevirtual 185) 3 205 := ⟨by decide +kernel, rfl⟩
theorem d_X9_goOn_205 : Go cX9_goOn 205 (.return_) 1 := (by decide +kernel : decode cX9_goOn 205 = .ok (.return_, 1))
theorem d_X9_toldOne_0 : At cX9_toldOne 0 (.iload_n 1) 1 1 := ⟨by decide +kernel, rfl⟩
theorem d_X9_toldOne_1 : At cX9_toldOne 1 (.istore_n 3) 1 2 := ⟨by decide +kernel, rfl⟩
theorem d_X9_toldOne_2 : At cX9_toldOne 2 (.iload_n 0) 1 3 := ⟨by decide +kernel, rfl⟩
theorem d_X9_toldOne_3 : At cX9_toldOne 3 (.invokestatic 85) 3 6 := ⟨by decide +kernel, rfl⟩
theorem d_X9_toldOne_6 : At cX9_toldOne 6 (.iconst 1) 1 7 := ⟨by decide +kernel, rfl⟩
theorem d_X9_toldOne_7 : At cX9_toldOne 7 (.isub) 1 8 := ⟨by decide +kernel, rfl⟩
theorem d_X9_toldOne_8 : At cX9_toldOne 8 (.istore 4) 2 10 := ⟨by decide +kernel, rfl⟩
theorem d_X9_toldOne_10 : At cX9_toldOne 10 (.iload 4) 2 12 := ⟨by decide +kernel, rfl⟩
theorem d_X9_toldOne_12 : At cX9_toldOne 12 (.iload_n 2) 1 13 := ⟨by decide +kernel, rfl⟩
theorem d_X9_toldOne_13 : Br cX9_toldOne 13 (.if_icmp .le 14) (14) 16 27 := ⟨by decide +kernel, rfl, rfl⟩
theorem d_X9_toldOne_16 : At cX9_toldOne 16 (.iload_n 3) 1 17 := ⟨by decide +kernel, rfl⟩
theorem d_X9_toldOne_17 : At cX9_toldOne 17 (.bipush 9) 2 19 := ⟨by decide +kernel, rfl⟩
theorem d_X9_toldOne_19 : At cX9_toldOne 19 (.idiv) 1 20 := ⟨by decide +kernel, rfl⟩
theorem d_X9_toldOne_20 : At cX9_toldOne 20 (.istore_n 3) 1 21 := ⟨by decide +kernel, rfl⟩
theorem d_X9_toldOne_21 : At cX9_toldOne 21 (.iinc 4 (-1)) 3 24 := ⟨by decide +kernel, rfl⟩
theorem d_X9_toldOne_24 : Br cX9_toldOne 24 (.goto (-14)) (-14) 27 10 := ⟨by decide +kernel, rfl, rfl⟩
theorem d_X9_toldOne_27 : At cX9_toldOne 27 (.iload_n 3) 1 28 := ⟨by decide +kernel, rfl⟩
theorem d_X9_toldOne_28 : At cX9_toldOne 28 (.bipush 9) 2 30 := ⟨by decide +kernel, rfl⟩
theorem d_X9_toldOne_30 : At cX9_toldOne 30 (.irem) 1 31 := ⟨by decide +kernel, rfl⟩
theorem d_X9_toldOne_31 : Go cX9_toldOne 31 (.ireturn) 1 := (by decide +kernel : decode cX9_toldOne 31 = .ok (.ireturn, 1))
theorem d_X9_runIt_0 : At cX9_runIt 0 (.aload_n 0) 1 1 := ⟨by decide +kernel, rfl⟩
theorem d_X9_runIt_1 : At cX9_runIt 1 (.iconst 0) 1 2 := ⟨by decide +kernel, rfl⟩
theorem d_X9_runIt_2 : At cX9_runIt 2 (.putfield 158) 3 5 := ⟨by decide +kernel, rfl⟩
theorem d_X9_runIt_5 : At cX9_runIt 5 (.aload_n 0) 1 6 := ⟨by decide +kernel, rfl⟩
theorem d_X9_runIt_6 : At cX9_runIt 6 (.iconst (-1)) 1 7 := ⟨by decide +kernel, rfl⟩
theorem d_X9_runIt_7 : At cX9_runIt 7 (.putfield 161) 3 10 := ⟨by decide +kernel, rfl⟩
theorem d_X9_runIt_10 : At cX9_runIt 10 (.aload_n 0) 1 11 := ⟨by decide +kernel, rfl⟩
theorem d_X9_runIt_11 : At cX9_runIt 11 (.iconst 0) 1 12 := ⟨by decide +kernel, rfl⟩
theorem d_X9_runIt_12 : At cX9_runIt 12 (.putfield 145) 3 15 := ⟨by decide +kernel, rfl⟩
theorem d_X9_runIt_15 : At cX9_runIt 15 (.aload_n 0) 1 16 := ⟨by decide +kernel, rfl⟩
theorem d_X9_runIt_16 : At cX9_runIt 16 (.iconst 1) 1 17 := ⟨by decide +kernel, rfl⟩
theorem d_X9_runIt_17 : At cX9_runIt 17 (.putfield 182) 3 20 := ⟨by decide +kernel, rfl⟩
theorem d_X9_runIt_20 : At cX9_runIt 20 (.aload_n 0) 1 21 := ⟨by decide +kernel, rfl⟩
theorem d_X9_runIt_21 : At cX9_runIt 21 (.getfield 37) 3 24 := ⟨by decide +kernel, rfl⟩
theorem d_X9_runIt_24 : At cX9_runIt 24 (.iconst 0) 1 25 := ⟨by decide +kernel, rfl⟩
theorem d_X9_runIt_25 : At cX9_runIt 25 (.iload_n 1) 1 26 := ⟨by decide +kernel, rfl⟩
theorem d_X9_runIt_26 : At cX9_runIt 26 (.iastore) 1 27 := ⟨by decide +kernel, rfl⟩
theorem d_X9_runIt_27 : At cX9_runIt 27 (.iconst 0) 1 28 := ⟨by decide +kernel, rfl⟩
theorem d_X9_runIt_28 : At cX9_runIt 28 (.istore 4) 2 30 := ⟨by decide +kernel, rfl⟩
theorem d_X9_runIt_30 : At cX9_runIt 30 (.iload 4) 2 32 := ⟨by decide +kernel, rfl⟩
theorem d_X9_runIt_32 : At cX9_runIt 32 (.iload_n 1) 1 33 := ⟨by decide +kernel, rfl⟩
theorem d_X9_runIt_33 : At cX9_runIt 33 (.invokestatic 85) 3 36 := ⟨by decide +kernel, rfl⟩
theorem d_X9_runIt_36 : Br cX9_runIt 36 (.if_icmp .ge 80) (80) 39 116 := ⟨by decide +kernel, rfl, rfl⟩
theorem d_X9_runIt_39 : At cX9_runIt 39 (.aload_n 0) 1 40 := ⟨by decide +kernel, rfl⟩
theorem d_X9_runIt_40 : At cX9_runIt 40 (.getfield 40) 3 43 := ⟨by decide +kernel, rfl⟩
theorem d_X9_runIt_43 : At cX9_runIt 43 (.iload 4) 2 45 := ⟨by decide +kernel, rfl⟩
theorem d_X9_runIt_45 : At cX9_runIt 45 (.iload_n 1) 1 46 := ⟨by decide +kernel, rfl⟩
theorem d_X9_runIt_46 : At cX9_runIt 46 (.iload_n 2) 1 47 := ⟨by decide +kernel, rfl⟩
theorem d_X9_runIt_47 : At cX9_runIt 47 (.iload 4) 2 49 := ⟨by decide +kernel, rfl⟩
theorem d_X9_runIt_49 : At cX9_runIt 49 (.invokestatic 191) 3 52 := ⟨by decide +kernel, rfl⟩
theorem d_X9_runIt_52 : At cX9_runIt 52 (.iastore) 1 53 := ⟨by decide +kernel, rfl⟩
theorem d_X9_runIt_53 : At cX9_runIt 53 (.iload_n 3) 1 54 := ⟨by decide +kernel, rfl⟩
theorem d_X9_runIt_54 : At cX9_runIt 54 (.iconst 2) 1 55 := ⟨by decide +kernel, rfl⟩
theorem d_X9_runIt_55 : Br cX9_runIt 55 (.if_icmp .eq 18) (18) 58 73 := ⟨by decide +kernel, rfl, rfl⟩
theorem d_X9_runIt_58 : At cX9_runIt 58 (.iload_n 3) 1 59 := ⟨by decide +kernel, rfl⟩
theorem d_X9_runIt_59 : At cX9_runIt 59 (.iconst 3) 1 60 := ⟨by decide +kernel, rfl⟩
theorem d_X9_runIt_60 : Br cX9_runIt 60 (.if_icmp .ne 17) (17) 63 77 := ⟨by decide +kernel, rfl, rfl⟩
theorem d_X9_runIt_63 : At cX9_runIt 63 (.aload_n 0) 1 64 := ⟨by decide +kernel, rfl⟩
theorem d_X9_runIt_64 : At cX9_runIt 64 (.iload_n 1) 1 65 := ⟨by decide +kernel, rfl⟩
theorem d_X9_runIt_65 : At cX9_runIt 65 (.iload 4) 2 67 := ⟨by decide +kernel, rfl⟩
theorem d_X9_runIt_67 : At cX9_runIt 67 (.invokevirtual 136) 3 70 := ⟨by decide +kernel, rfl⟩
theorem d_X9_runIt_70 : Br cX9_runIt 70 (.ifCond .eq 7) (7) 73 77 := ⟨by decide +kernel, rfl, rfl⟩
theorem d_X9_runIt_73 : At cX9_runIt 73 (.iconst 1) 1 74 := ⟨by decide +kernel, rfl⟩
theorem d_X9_runIt_74 : Br cX9_runIt 74 (.goto 4) (4) 77 78 := ⟨by decide +kernel, rfl, rfl⟩
theorem d_X9_runIt_77 : At cX9_runIt 77 (.iconst 0) 1 78 := ⟨by decide +kernel, rfl⟩
theorem d_X9_runIt_78 : At cX9_runIt 78 (.istore 5) 2 80 := ⟨by decide +kernel, rfl⟩
theorem d_X9_runIt_80 : At cX9_runIt 80 (.aload_n 0) 1 81 := ⟨by decide +kernel, rfl⟩
theorem d_X9_runIt_81 : At cX9_runIt 81 (.iload 5) 2 83 := ⟨by decide +kernel, rfl⟩
theorem d_X9_runIt_83 : Br cX9_runIt 83 (.ifCond .eq 20) (20) 86 103 := ⟨by decide +kernel, rfl, rfl⟩
theorem d_X9_runIt_86 : At cX9_runIt 86 (.aload_n 0) 1 87 := ⟨by decide +kernel, rfl⟩
theorem d_X9_runIt_87 : At cX9_runIt 87 (.getfield 40) 3 90 := ⟨by decide +kernel, rfl⟩
theorem d_X9_runIt_90 : At cX9_runIt 90 (.iload 4) 2 92 := ⟨by decide +kernel, rfl⟩
theorem d_X9_runIt_92 : At cX9_runIt 92 (.iaload) 1 93 := ⟨by decide +kernel, rfl⟩
theorem d_X9_runIt_93 : At cX9_runIt 93 (.bipush 8) 2 95 := ⟨by decide +kernel, rfl⟩
theorem d_X9_runIt_95 : Br cX9_runIt 95 (.if_icmp .ne 8) (8) 98 103 := ⟨by decide +kernel, rfl, rfl⟩
theorem d_X9_runIt_98 : At cX9_runIt 98 (.bipush 8) 2 100 := ⟨by decide +kernel, rfl⟩
theorem d_X9_runIt_100 : Br cX9_runIt 100 (.goto 7) (7) 103 107 := ⟨by decide +kernel, rfl, rfl⟩
theorem d_X9_runIt_103 : At cX9_runIt 103 (.aload_n 0) 1 104 := ⟨by decide +kernel, rfl⟩
theorem d_X9_runIt_104 : At cX9_runIt 104 (.getfield 161) 3 107 := ⟨by decide +kernel, rfl⟩
theorem d_X9_runIt_107 : At cX9_runIt 107 (.putfield 161) 3 110 := ⟨by decide +kernel, rfl⟩
theorem d_X9_runIt_110 : At cX9_runIt 110 (.iinc 4 1) 3 113 := ⟨by decide +kernel, rfl⟩
theorem d_X9_runIt_113 : Br cX9_runIt 113 (.goto (-83)) (-83) 116 30 := ⟨by decide +kernel, rfl, rfl⟩
theorem d_X9_runIt_116 : At cX9_runIt 116 (.aload_n 0) 1 117 := ⟨by decide +kernel, rfl⟩
theorem d_X9_runIt_117 : At cX9_runIt 117 (.iconst 0) 1 118 := ⟨by decide +kernel, rfl⟩
theorem d_X9_runIt_118 : At cX9_runIt 118 (.iconst 0) 1 119 := ⟨by decide +kernel, rfl⟩
theorem d_X9_runIt_119 : At cX9_runIt 119 (.invokevirtual 179) 3 122 := ⟨by decide +kernel, rfl⟩
theorem d_X9_runIt_122 : At cX9_runIt 122 (.aload_n 0) 1 123 := ⟨by decide +kernel, rfl⟩
theorem d_X9_runIt_123 : At cX9_runIt 123 (.getfield 161) 3 126 := ⟨by decide +kernel, rfl⟩
theorem d_X9_runIt_126 : Br cX9_runIt 126 (.ifCond .ge 43) (43) 129 169 := ⟨by decide +kernel, rfl, rfl⟩
theorem d_X9_runIt_129 : At cX9_runIt 129 (.aload_n 0) 1 130 := ⟨by decide +kernel, rfl⟩
theorem d_X9_runIt_130 : At cX9_runIt 130 (.getfield 149) 3 133 := ⟨by decide +kernel, rfl⟩
theorem d_X9_runIt_133 : Br cX9_runIt 133 (.ifCond .lt 11) (11) 136 144 := ⟨by decide +kernel, rfl, rfl⟩
theorem d_X9_runIt_136 : At cX9_runIt 136 (.aload_n 0) 1 137 := ⟨by decide +kernel, rfl⟩
theorem d_X9_runIt_137 : At cX9_runIt 137 (.iload_n 3) 1 138 := ⟨by decide +kernel, rfl⟩
theorem d_X9_runIt_138 : At cX9_runIt 138 (.invokevirtual 194) 3 141 := ⟨by decide +kernel, rfl⟩
theorem d_X9_runIt_141 : Br cX9_runIt 141 (.goto (-19)) (-19) 144 122 := ⟨by decide +kernel, rfl, rfl⟩
theorem d_X9_runIt_144 : At cX9_runIt 144 (.aload_n 0) 1 145 := ⟨by decide +kernel, rfl⟩
theorem d_X9_runIt_145 : At cX9_runIt 145 (.getfield 145) 3 148 := ⟨by decide +kernel, rfl⟩
theorem d_X9_runIt_148 : Br cX9_runIt 148 (.ifCond .le 10) (10) 151 158 := ⟨by decide +kernel, rfl, rfl⟩
theorem d_X9_runIt_151 : At cX9_runIt 151 (.aload_n 0) 1 152 := ⟨by decide +kernel, rfl⟩
theorem d_X9_runIt_152 : At cX9_runIt 152 (.invokevirtual 197) 3 155 := ⟨by decide +kernel, rfl⟩
theorem d_X9_runIt_155 : Br cX9_runIt 155 (.goto (-33)) (-33) 158 122 := ⟨by decide +kernel, rfl, rfl⟩
theorem d_X9_runIt_158 : At cX9_runIt 158 (.aload_n 0) 1 159 := ⟨by decide +kernel, rfl⟩
theorem d_X9_runIt_159 : At cX9_runIt 159 (.aload_n 0) 1 160 := ⟨by decide +kernel, rfl⟩
theorem d_X9_runIt_160 : At cX9_runIt 160 (.getfield 152) 3 163 := ⟨by decide +kernel, rfl⟩
theorem d_X9_runIt_163 : At cX9_runIt 163 (.putfield 161) 3 166 := ⟨by decide +kernel, rfl⟩
theorem d_X9_runIt_166 : Br cX9_runIt 166 (.goto (-44)) (-44) 169 122 := ⟨by decide +kernel, rfl, rfl⟩
theorem d_X9_runIt_169 : Go cX9_runIt 169 (.return_) 1 := (by decide +kernel : decode cX9_runIt 169 = .ok (.return_, 1))
theorem d_X9_rowsOf_0 : At cX9_rowsOf 0 (.iload_n 0) 1 1 := ⟨by decide +kernel, rfl⟩
theorem d_X9_rowsOf_1 : At cX9_rowsOf 1 (.invokestatic 85) 3 4 := ⟨by decide +kernel, rfl⟩
theorem d_X9_rowsOf_4 : At cX9_rowsOf 4 (.iconst 1) 1 5 := ⟨by decide +kernel, rfl⟩
theorem d_X9_rowsOf_5 : Br cX9_rowsOf 5 (.if_icmp .ne 8) (8) 8 13 := ⟨by decide +kernel, rfl, rfl⟩
theorem d_X9_rowsOf_8 : At cX9_rowsOf 8 (.bipush 9) 2 10 := ⟨by decide +kernel, rfl⟩
theorem d_X9_rowsOf_10 : Br cX9_rowsOf 10 (.goto 19) (19) 13 29 := ⟨by decide +kernel, rfl, rfl⟩
theorem d_X9_rowsOf_13 : At cX9_rowsOf 13 (.iload_n 0) 1 14 := ⟨by decide +kernel, rfl⟩
theorem d_X9_rowsOf_14 : At cX9_rowsOf 14 (.invokestatic 85) 3 17 := ⟨by decide +kernel, rfl⟩
theorem d_X9_rowsOf_17 : At cX9_rowsOf 17 (.iconst 2) 1 18 := ⟨by decide +kernel, rfl⟩
theorem d_X9_rowsOf_18 : Br cX9_rowsOf 18 (.if_icmp .ne 8) (8) 21 26 := ⟨by decide +kernel, rfl, rfl⟩
theorem d_X9_rowsOf_21 : At cX9_rowsOf 21 (.bipush 81) 2 23 := ⟨by decide +kernel, rfl⟩
theorem d_X9_rowsOf_23 : Br cX9_rowsOf 23 (.goto 6) (6) 26 29 := ⟨by decide +kernel, rfl, rfl⟩
theorem d_X9_rowsOf_26 : At cX9_rowsOf 26 (.sipush 729) 3 29 := ⟨by decide +kernel, rfl⟩
theorem d_X9_rowsOf_29 : Go cX9_rowsOf 29 (.ireturn) 1 := (by decide +kernel : decode cX9_rowsOf 29 = .ok (.ireturn, 1))
theorem d_X9_isWay_0 : At cX9_isWay 0 (.iload_n 0) 1 1 := ⟨by decide +kernel, rfl⟩
theorem d_X9_isWay_1 : At cX9_isWay 1 (.i2l) 1 2 := ⟨by decide +kernel, rfl⟩
theorem d_X9_isWay_2 : At cX9_isWay 2 (.lconst 0) 1 3 := ⟨by decide +kernel, rfl⟩
theorem d_X9_isWay_3 : At cX9_isWay 3 (.ldc2_w 67) 3 6 := ⟨by decide +kernel, rfl⟩
theorem d_X9_isWay_6 : At cX9_isWay 6 (.invokestatic 69) 3 9 := ⟨by decide +kernel, rfl⟩
theorem d_X9_isWay_9 : Go cX9_isWay 9 (.ireturn) 1 := (by decide +kernel : decode cX9_isWay 9 = .ok (.ireturn, 1))
theorem d_X9_run_0 : At cX9_run 0 (.iload_n 1) 1 1 := ⟨by decide +kernel, rfl⟩
theorem d_X9_run_1 : At cX9_run 1 (.invokestatic 99) 3 4 := ⟨by decide +kernel, rfl⟩
theorem d_X9_run_4 : Br cX9_run 4 (.ifCond .ne 5) (5) 7 9 := ⟨by decide +kernel, rfl, rfl⟩
theorem d_X9_run_7 : At cX9_run 7 (.iconst (-1)) 1 8 := ⟨by decide +kernel, rfl⟩
theorem d_X9_run_8 : Go cX9_run 8 (.ireturn) 1 := (by decide +kernel : decode cX9_run 8 = .ok (.ireturn, 1))
theorem d_X9_run_9 : At cX9_run 9 (.iload_n 2) 1 10 := ⟨by decide +kernel, rfl⟩
theorem d_X9_run_10 : At cX9_run 10 (.i2l) 1 11 := ⟨by decide +kernel, rfl⟩
theorem d_X9_run_11 : At cX9_run 11 (.lconst 0) 1 12 := ⟨by decide +kernel, rfl⟩
theorem d_X9_run_12 : At cX9_run 12 (.iload_n 1) 1 13 := ⟨by decide +kernel, rfl⟩
theorem d_X9_run_13 : At cX9_run 13 (.invokestatic 200) 3 16 := ⟨by decide +kernel, rfl⟩
theorem d_X9_run_16 : At cX9_run 16 (.iconst 1) 1 17 := ⟨by decide +kernel, rfl⟩
theorem d_X9_run_17 : At cX9_run 17 (.isub) 1 18 := ⟨by decide +kernel, rfl⟩
theorem d_X9_run_18 : At cX9_run 18 (.i2l) 1 19 := ⟨by decide +kernel, rfl⟩
theorem d_X9_run_19 : At cX9_run 19 (.invokestatic 69) 3 22 := ⟨by decide +kernel, rfl⟩
theorem d_X9_run_22 : Br cX9_run 22 (.ifCond .eq 21) (21) 25 43 := ⟨by decide +kernel, rfl, rfl⟩
theorem d_X9_run_25 : At cX9_run 25 (.iload_n 3) 1 26 := ⟨by decide +kernel, rfl⟩
theorem d_X9_run_26 : At cX9_run 26 (.invokestatic 203) 3 29 := ⟨by decide +kernel, rfl⟩
theorem d_X9_run_29 : Br cX9_run 29 (.ifCond .eq 14) (14) 32 43 := ⟨by decide +kernel, rfl, rfl⟩
theorem d_X9_run_32 : At cX9_run 32 (.iload 4) 2 34 := ⟨by decide +kernel, rfl⟩
theorem d_X9_run_34 : At cX9_run 34 (.i2l) 1 35 := ⟨by decide +kernel, rfl⟩
theorem d_X9_run_35 : At cX9_run 35 (.lconst 0) 1 36 := ⟨by decide +kernel, rfl⟩
theorem d_X9_run_36 : At cX9_run 36 (.lconst 1) 1 37 := ⟨by decide +kernel, rfl⟩
theorem d_X9_run_37 : At cX9_run 37 (.invokestatic 69) 3 40 := ⟨by decide +kernel, rfl⟩
theorem d_X9_run_40 : Br cX9_run 40 (.ifCond .ne 6) (6) 43 46 := ⟨by decide +kernel, rfl, rfl⟩
theorem d_X9_run_43 : At cX9_run 43 (.bipush (-2)) 2 45 := ⟨by decide +kernel, rfl⟩
theorem d_X9_run_45 : Go cX9_run 45 (.ireturn) 1 := (by decide +kernel : decode cX9_run 45 = .ok (.ireturn, 1))
theorem d_X9_run_46 : At cX9_run 46 (.aload_n 0) 1 47 := ⟨by decide +kernel, rfl⟩
theorem d_X9_run_47 : At cX9_run 47 (.iload_n 1) 1 48 := ⟨by decide +kernel, rfl⟩
theorem d_X9_run_48 : At cX9_run 48 (.iload_n 2) 1 49 := ⟨by decide +kernel, rfl⟩
theorem d_X9_run_49 : At cX9_run 49 (.iload_n 3) 1 50 := ⟨by decide +kernel, rfl⟩
theorem d_X9_run_50 : At cX9_run 50 (.invokevirtual 206) 3 53 := ⟨by decide +kernel, rfl⟩
theorem d_X9_run_53 : At cX9_run 53 (.iload 4) 2 55 := ⟨by decide +kernel, rfl⟩
theorem d_X9_run_55 : Br cX9_run 55 (.ifCond .ne 10) (10) 58 65 := ⟨by decide +kernel, rfl, rfl⟩
theorem d_X9_run_58 : At cX9_run 58 (.aload_n 0) 1 59 := ⟨by decide +kernel, rfl⟩
theorem d_X9_run_59 : At cX9_run 59 (.getfield 161) 3 62 := ⟨by decide +kernel, rfl⟩
theorem d_X9_run_62 : Br cX9_run 62 (.goto 7) (7) 65 69 := ⟨by decide +kernel, rfl, rfl⟩
theorem d_X9_run_65 : At cX9_run 65 (.aload_n 0) 1 66 := ⟨by decide +kernel, rfl⟩
theorem d_X9_run_66 : At cX9_run 66 (.getfield 158) 3 69 := ⟨by decide +kernel, rfl⟩
theorem d_X9_run_69 : Go cX9_run 69 (.ireturn) 1 := (by decide +kernel : decode cX9_run 69 = .ok (.ireturn, 1))
theorem d_X9_areNumbers_0 : At cX9_areNumbers 0 (.iconst 1) 1 1 := ⟨by decide +kernel, rfl⟩
theorem d_X9_areNumbers_1 : At cX9_areNumbers 1 (.istore_n 2) 1 2 := ⟨by decide +kernel, rfl⟩
theorem d_X9_areNumbers_2 : At cX9_areNumbers 2 (.iconst 0) 1 3 := ⟨by decide +kernel, rfl⟩
theorem d_X9_areNumbers_3 : At cX9_areNumbers 3 (.istore_n 3) 1 4 := ⟨by decide +kernel, rfl⟩
theorem d_X9_areNumbers_4 : At cX9_areNumbers 4 (.iload_n 3) 1 5 := ⟨by decide +kernel, rfl⟩
theorem d_X9_areNumbers_5 : At cX9_areNumbers 5 (.iload_n 0) 1 6 := ⟨by decide +kernel, rfl⟩
theorem d_X9_areNumbers_6 : At cX9_areNumbers 6 (.invokestatic 85) 3 9 := ⟨by decide +kernel, rfl⟩
theorem d_X9_areNumbers_9 : Br cX9_areNumbers 9 (.if_icmp .ge 30) (30) 12 39 := ⟨by decide +kernel, rfl, rfl⟩
theorem d_X9_areNumbers_12 : At cX9_areNumbers 12 (.iload_n 2) 1 13 := ⟨by decide +kernel, rfl⟩
theorem d_X9_areNumbers_13 : Br cX9_areNumbers 13 (.ifCond .eq 18) (18) 16 31 := ⟨by decide +kernel, rfl, rfl⟩
theorem d_X9_areNumbers_16 : At cX9_areNumbers 16 (.iload_n 0) 1 17 := ⟨by decide +kernel, rfl⟩
theorem d_X9_areNumbers_17 : At cX9_areNumbers 17 (.iload_n 1) 1 18 := ⟨by decide +kernel, rfl⟩
theorem d_X9_areNumbers_18 : At cX9_areNumbers 18 (.iload_n 3) 1 19 := ⟨by decide +kernel, rfl⟩
theorem d_X9_areNumbers_19 : At cX9_areNumbers 19 (.invokestatic 191) 3 22 := ⟨by decide +kernel, rfl⟩
theorem d_X9_areNumbers_22 : At cX9_areNumbers 22 (.bipush 8) 2 24 := ⟨by decide +kernel, rfl⟩
theorem d_X9_areNumbers_24 : Br cX9_areNumbers 24 (.if_icmp .ge 7) (7) 27 31 := ⟨by decide +kernel, rfl, rfl⟩
theorem d_X9_areNumbers_27 : At cX9_areNumbers 27 (.iconst 1) 1 28 := ⟨by decide +kernel, rfl⟩
theorem d_X9_areNumbers_28 : Br cX9_areNumbers 28 (.goto 4) (4) 31 32 := ⟨by decide +kernel, rfl, rfl⟩
theorem d_X9_areNumbers_31 : At cX9_areNumbers 31 (.iconst 0) 1 32 := ⟨by decide +kernel, rfl⟩
theorem d_X9_areNumbers_32 : At cX9_areNumbers 32 (.istore_n 2) 1 33 := ⟨by decide +kernel, rfl⟩
theorem d_X9_areNumbers_33 : At cX9_areNumbers 33 (.iinc 3 1) 3 36 := ⟨by decide +kernel, rfl⟩
theorem d_X9_areNumbers_36 : Br cX9_areNumbers 36 (.goto (-32)) (-32) 39 4 := ⟨by decide +kernel, rfl, rfl⟩
theorem d_X9_areNumbers_39 : At cX9_areNumbers 39 (.iload_n 2) 1 40 := ⟨by decide +kernel, rfl⟩
theorem d_X9_areNumbers_40 : Go cX9_areNumbers 40 (.ireturn) 1 := (by decide +kernel : decode cX9_areNumbers 40 = .ok (.ireturn, 1))
theorem d_X9_ends_0 : At cX9_ends 0 (.iload_n 1) 1 1 := ⟨by decide +kernel, rfl⟩
theorem d_X9_ends_1 : At cX9_ends 1 (.invokestatic 99) 3 4 := ⟨by decide +kernel, rfl⟩
theorem d_X9_ends_4 : Br cX9_ends 4 (.ifCond .ne 5) (5) 7 9 := ⟨by decide +kernel, rfl, rfl⟩
theorem d_X9_ends_7 : At cX9_ends 7 (.iconst (-1)) 1 8 := ⟨by decide +kernel, rfl⟩
theorem d_X9_ends_8 : Go cX9_ends 8 (.ireturn) 1 := (by decide +kernel : decode cX9_ends 8 = .ok (.ireturn, 1))
theorem d_X9_ends_9 : At cX9_ends 9 (.iload_n 2) 1 10 := ⟨by decide +kernel, rfl⟩
theorem d_X9_ends_10 : At cX9_ends 10 (.i2l) 1 11 := ⟨by decide +kernel, rfl⟩
theorem d_X9_ends_11 : At cX9_ends 11 (.lconst 0) 1 12 := ⟨by decide +kernel, rfl⟩
theorem d_X9_ends_12 : At cX9_ends 12 (.ldc2_w 209) 3 15 := ⟨by decide +kernel, rfl⟩
theorem d_X9_ends_15 : At cX9_ends 15 (.invokestatic 69) 3 18 := ⟨by decide +kernel, rfl⟩
theorem d_X9_ends_18 : Br cX9_ends 18 (.ifCond .ne 6) (6) 21 24 := ⟨by decide +kernel, rfl, rfl⟩
theorem d_X9_ends_21 : At cX9_ends 21 (.bipush (-2)) 2 23 := ⟨by decide +kernel, rfl⟩
theorem d_X9_ends_23 : Go cX9_ends 23 (.ireturn) 1 := (by decide +kernel : decode cX9_ends 23 = .ok (.ireturn, 1))
theorem d_X9_ends_24 : At cX9_ends 24 (.iconst 0) 1 25 := ⟨by decide +kernel, rfl⟩
theorem d_X9_ends_25 : At cX9_ends 25 (.istore_n 3) 1 26 := ⟨by decide +kernel, rfl⟩
theorem d_X9_ends_26 : At cX9_ends 26 (.iconst 0) 1 27 := ⟨by decide +kernel, rfl⟩
theorem d_X9_ends_27 : At cX9_ends 27 (.istore 4) 2 29 := ⟨by decide +kernel, rfl⟩
theorem d_X9_ends_29 : At cX9_ends 29 (.iload 4) 2 31 := ⟨by decide +kernel, rfl⟩
theorem d_X9_ends_31 : At cX9_ends 31 (.iload_n 1) 1 32 := ⟨by decide +kernel, rfl⟩
theorem d_X9_ends_32 : At cX9_ends 32 (.invokestatic 200) 3 35 := ⟨by decide +kernel, rfl⟩
theorem d_X9_ends_35 : Br cX9_ends 35 (.if_icmp .ge 65) (65) 38 100 := ⟨by decide +kernel, rfl, rfl⟩
theorem d_X9_ends_38 : At cX9_ends 38 (.iload_n 1) 1 39 := ⟨by decide +kernel, rfl⟩
theorem d_X9_ends_39 : At cX9_ends 39 (.iload 4) 2 41 := ⟨by decide +kernel, rfl⟩
theorem d_X9_ends_41 : At cX9_ends 41 (.invokestatic 211) 3 44 := ⟨by decide +kernel, rfl⟩
theorem d_X9_ends_44 : Br cX9_ends 44 (.ifCond .eq 50) (50) 47 94 := ⟨by decide +kernel, rfl, rfl⟩
theorem d_X9_ends_47 : At cX9_ends 47 (.aload_n 0) 1 48 := ⟨by decide +kernel, rfl⟩
theorem d_X9_ends_48 : At cX9_ends 48 (.iload_n 1) 1 49 := ⟨by decide +kernel, rfl⟩
theorem d_X9_ends_49 : At cX9_ends 49 (.iload 4) 2 51 := ⟨by decide +kernel, rfl⟩
theorem d_X9_ends_51 : At cX9_ends 51 (.iconst 1) 1 52 := ⟨by decide +kernel, rfl⟩
theorem d_X9_ends_52 : At cX9_ends 52 (.invokevirtual 206) 3 55 := ⟨by decide +kernel, rfl⟩
theorem d_X9_ends_55 : At cX9_ends 55 (.iload_n 3) 1 56 := ⟨by decide +kernel, rfl⟩
theorem d_X9_ends_56 : At cX9_ends 56 (.aload_n 0) 1 57 := ⟨by decide +kernel, rfl⟩
theorem d_X9_ends_57 : At cX9_ends 57 (.getfield 161) 3 60 := ⟨by decide +kernel, rfl⟩
theorem d_X9_ends_60 : At cX9_ends 60 (.bipush 8) 2 62 := ⟨by decide +kernel, rfl⟩
theorem d_X9_ends_62 : Br cX9_ends 62 (.if_icmp .ge 7) (7) 65 69 := ⟨by decide +kernel, rfl, rfl⟩
theorem d_X9_ends_65 : At cX9_ends 65 (.iconst 0) 1 66 := ⟨by decide +kernel, rfl⟩
theorem d_X9_ends_66 : Br cX9_ends 66 (.goto 17) (17) 69 83 := ⟨by decide +kernel, rfl, rfl⟩
theorem d_X9_ends_69 : At cX9_ends 69 (.aload_n 0) 1 70 := ⟨by decide +kernel, rfl⟩
theorem d_X9_ends_70 : At cX9_ends 70 (.getfield 161) 3 73 := ⟨by decide +kernel, rfl⟩
theorem d_X9_ends_73 : At cX9_ends 73 (.bipush 8) 2 75 := ⟨by decide +kernel, rfl⟩
theorem d_X9_ends_75 : Br cX9_ends 75 (.if_icmp .ne 7) (7) 78 82 := ⟨by decide +kernel, rfl, rfl⟩
theorem d_X9_ends_78 : At cX9_ends 78 (.iconst 1) 1 79 := ⟨by decide +kernel, rfl⟩
theorem d_X9_ends_79 : Br cX9_ends 79 (.goto 4) (4) 82 83 := ⟨by decide +kernel, rfl, rfl⟩
theorem d_X9_ends_82 : At cX9_ends 82 (.iconst 2) 1 83 := ⟨by decide +kernel, rfl⟩
theorem d_X9_ends_83 : At cX9_ends 83 (.iload_n 2) 1 84 := ⟨by decide +kernel, rfl⟩
theorem d_X9_ends_84 : Br cX9_ends 84 (.if_icmp .ne 7) (7) 87 91 := ⟨by decide +kernel, rfl, rfl⟩
theorem d_X9_ends_87 : At cX9_ends 87 (.iconst 1) 1 88 := ⟨by decide +kernel, rfl⟩
theorem d_X9_ends_88 : Br cX9_ends 88 (.goto 4) (4) 91 92 := ⟨by decide +kernel, rfl, rfl⟩
theorem d_X9_ends_91 : At cX9_ends 91 (.iconst 0) 1 92 := ⟨by decide +kernel, rfl⟩
theorem d_X9_ends_92 : At cX9_ends 92 (.iadd) 1 93 := ⟨by decide +kernel, rfl⟩
theorem d_X9_ends_93 : At cX9_ends 93 (.istore_n 3) 1 94 := ⟨by decide +kernel, rfl⟩
theorem d_X9_ends_94 : At cX9_ends 94 (.iinc 4 1) 3 97 := ⟨by decide +kernel, rfl⟩
theorem d_X9_ends_97 : Br cX9_ends 97 (.goto (-68)) (-68) 100 29 := ⟨by decide +kernel, rfl, rfl⟩
theorem d_X9_ends_100 : At cX9_ends 100 (.iload_n 3) 1 101 := ⟨by decide +kernel, rfl⟩
theorem d_X9_ends_101 : Go cX9_ends 101 (.ireturn) 1 := (by decide +kernel : decode cX9_ends 101 = .ok (.ireturn, 1))
theorem d_X9_matters_0 : At cX9_matters 0 (.iload_n 1) 1 1 := ⟨by decide +kernel, rfl⟩
theorem d_X9_matters_1 : At cX9_matters 1 (.iload_n 2) 1 2 := ⟨by decide +kernel, rfl⟩
theorem d_X9_matters_2 : At cX9_matters 2 (.invokestatic 142) 3 5 := ⟨by decide +kernel, rfl⟩
theorem d_X9_matters_5 : Br cX9_matters 5 (.ifCond .ne 5) (5) 8 10 := ⟨by decide +kernel, rfl, rfl⟩
theorem d_X9_matters_8 : At cX9_matters 8 (.iconst (-1)) 1 9 := ⟨by decide +kernel, rfl⟩
theorem d_X9_matters_9 : Go cX9_matters 9 (.ireturn) 1 := (by decide +kernel : decode cX9_matters 9 = .ok (.ireturn, 1))
theorem d_X9_matters_10 : At cX9_matters 10 (.iconst 1) 1 11 := ⟨by decide +kernel, rfl⟩
theorem d_X9_matters_11 : At cX9_matters 11 (.istore_n 3) 1 12 := ⟨by decide +kernel, rfl⟩
theorem d_X9_matters_12 : At cX9_matters 12 (.iload_n 1) 1 13 := ⟨by decide +kernel, rfl⟩
theorem d_X9_matters_13 : At cX9_matters 13 (.invokestatic 85) 3 16 := ⟨by decide +kernel, rfl⟩
theorem d_X9_matters_16 : At cX9_matters 16 (.iconst 1) 1 17 := ⟨by decide +kernel, rfl⟩
theorem d_X9_matters_17 : At cX9_matters 17 (.isub) 1 18 := ⟨by decide +kernel, rfl⟩
theorem d_X9_matters_18 : At cX9_matters 18 (.istore 4) 2 20 := ⟨by decide +kernel, rfl⟩
theorem d_X9_matters_20 : At cX9_matters 20 (.iload 4) 2 22 := ⟨by decide +kernel, rfl⟩
theorem d_X9_matters_22 : At cX9_matters 22 (.iload_n 2) 1 23 := ⟨by decide +kernel, rfl⟩
theorem d_X9_matters_23 : Br cX9_matters 23 (.if_icmp .le 14) (14) 26 37 := ⟨by decide +kernel, rfl, rfl⟩
theorem d_X9_matters_26 : At cX9_matters 26 (.iload_n 3) 1 27 := ⟨by decide +kernel, rfl⟩
theorem d_X9_matters_27 : At cX9_matters 27 (.bipush 9) 2 29 := ⟨by decide +kernel, rfl⟩
theorem d_X9_matters_29 : At cX9_matters 29 (.imul) 1 30 := ⟨by decide +kernel, rfl⟩
theorem d_X9_matters_30 : At cX9_matters 30 (.istore_n 3) 1 31 := ⟨by decide +kernel, rfl⟩
theorem d_X9_matters_31 : At cX9_matters 31 (.iinc 4 (-1)) 3 34 := ⟨by decide +kernel, rfl⟩
theorem d_X9_matters_34 : Br cX9_matters 34 (.goto (-14)) (-14) 37 20 := ⟨by decide +kernel, rfl, rfl⟩
theorem d_X9_matters_37 : At cX9_matters 37 (.iconst 0) 1 38 := ⟨by decide +kernel, rfl⟩
theorem d_X9_matters_38 : At cX9_matters 38 (.istore 4) 2 40 := ⟨by decide +kernel, rfl⟩
theorem d_X9_matters_40 : At cX9_matters 40 (.iload 4) 2 42 := ⟨by decide +kernel, rfl⟩
theorem d_X9_matters_42 : At cX9_matters 42 (.iload_n 1) 1 43 := ⟨by decide +kernel, rfl⟩
theorem d_X9_matters_43 : At cX9_matters 43 (.invokestatic 200) 3 46 := ⟨by decide +kernel, rfl⟩
theorem d_X9_matters_46 : Br cX9_matters 46 (.if_icmp .ge 28) (28) 49 74 := ⟨by decide +kernel, rfl, rfl⟩
theorem d_X9_matters_49 : At cX9_matters 49 (.aload_n 0) 1 50 := ⟨by decide +kernel, rfl⟩
theorem d_X9_matters_50 : At cX9_matters 50 (.iload_n 1) 1 51 := ⟨by decide +kernel, rfl⟩
theorem d_X9_matters_51 : At cX9_matters 51 (.iload 4) 2 53 := ⟨by decide +kernel, rfl⟩
theorem d_X9_matters_53 : At cX9_matters 53 (.iconst 1) 1 54 := ⟨by decide +kernel, rfl⟩
theorem d_X9_matters_54 : At cX9_matters 54 (.invokevirtual 206) 3 57 := ⟨by decide +kernel, rfl⟩
theorem d_X9_matters_57 : At cX9_matters 57 (.aload_n 0) 1 58 := ⟨by decide +kernel, rfl⟩
theorem d_X9_matters_58 : At cX9_matters 58 (.getfield 61) 3 61 := ⟨by decide +kernel, rfl⟩
theorem d_X9_matters_61 : At cX9_matters 61 (.iload 4) 2 63 := ⟨by decide +kernel, rfl⟩
theorem d_X9_matters_63 : At cX9_matters 63 (.aload_n 0) 1 64 := ⟨by decide +kernel, rfl⟩
theorem d_X9_matters_64 : At cX9_matters 64 (.getfield 161) 3 67 := ⟨by decide +kernel, rfl⟩
theorem d_X9_matters_67 : At cX9_matters 67 (.iastore) 1 68 := ⟨by decide +kernel, rfl⟩
theorem d_X9_matters_68 : At cX9_matters 68 (.iinc 4 1) 3 71 := ⟨by decide +kernel, rfl⟩
theorem d_X9_matters_71 : Br cX9_matters 71 (.goto (-31)) (-31) 74 40 := ⟨by decide +kernel, rfl, rfl⟩
theorem d_X9_matters_74 : At cX9_matters 74 (.iconst 0) 1 75 := ⟨by decide +kernel, rfl⟩
theorem d_X9_matters_75 : At cX9_matters 75 (.istore 4) 2 77 := ⟨by decide +kernel, rfl⟩
theorem d_X9_matters_77 : At cX9_matters 77 (.iload 4) 2 79 := ⟨by decide +kernel, rfl⟩
theorem d_X9_matters_79 : At cX9_matters 79 (.iload_n 1) 1 80 := ⟨by decide +kernel, rfl⟩
theorem d_X9_matters_80 : At cX9_matters 80 (.invokestatic 200) 3 83 := ⟨by decide +kernel, rfl⟩
theorem d_X9_matters_83 : Br cX9_matters 83 (.if_icmp .ge 63) (63) 86 146 := ⟨by decide +kernel, rfl, rfl⟩
theorem d_X9_matters_86 : At cX9_matters 86 (.iload_n 1) 1 87 := ⟨by decide +kernel, rfl⟩
theorem d_X9_matters_87 : At cX9_matters 87 (.iload 4) 2 89 := ⟨by decide +kernel, rfl⟩
theorem d_X9_matters_89 : At cX9_matters 89 (.invokestatic 211) 3 92 := ⟨by decide +kernel, rfl⟩
theorem d_X9_matters_92 : Br cX9_matters 92 (.ifCond .eq 19) (19) 95 111 := ⟨by decide +kernel, rfl, rfl⟩
theorem d_X9_matters_95 : At cX9_matters 95 (.iload_n 1) 1 96 := ⟨by decide +kernel, rfl⟩
theorem d_X9_matters_96 : At cX9_matters 96 (.iload 4) 2 98 := ⟨by decide +kernel, rfl⟩
theorem d_X9_matters_98 : At cX9_matters 98 (.iload_n 2) 1 99 := ⟨by decide +kernel, rfl⟩
theorem d_X9_matters_99 : At cX9_matters 99 (.invokestatic 191) 3 102 := ⟨by decide +kernel, rfl⟩
theorem d_X9_matters_102 : At cX9_matters 102 (.bipush 7) 2 104 := ⟨by decide +kernel, rfl⟩
theorem d_X9_matters_104 : Br cX9_matters 104 (.if_icmp .ge 7) (7) 107 111 := ⟨by decide +kernel, rfl, rfl⟩
theorem d_X9_matters_107 : At cX9_matters 107 (.iconst 1) 1 108 := ⟨by decide +kernel, rfl⟩
theorem d_X9_matters_108 : Br cX9_matters 108 (.goto 4) (4) 111 112 := ⟨by decide +kernel, rfl, rfl⟩
theorem d_X9_matters_111 : At cX9_matters 111 (.iconst 0) 1 112 := ⟨by decide +kernel, rfl⟩
theorem d_X9_matters_112 : At cX9_matters 112 (.istore 5) 2 114 := ⟨by decide +kernel, rfl⟩
theorem d_X9_matters_114 : At cX9_matters 114 (.iload 5) 2 116 := ⟨by decide +kernel, rfl⟩
theorem d_X9_matters_116 : Br cX9_matters 116 (.ifCond .eq 24) (24) 119 140 := ⟨by decide +kernel, rfl, rfl⟩
theorem d_X9_matters_119 : At cX9_matters 119 (.aload_n 0) 1 120 := ⟨by decide +kernel, rfl⟩
theorem d_X9_matters_120 : At cX9_matters 120 (.getfield 61) 3 123 := ⟨by decide +kernel, rfl⟩
theorem d_X9_matters_123 : At cX9_matters 123 (.iload 4) 2 125 := ⟨by decide +kernel, rfl⟩
theorem d_X9_matters_125 : At cX9_matters 125 (.iaload) 1 126 := ⟨by decide +kernel, rfl⟩
theorem d_X9_matters_126 : At cX9_matters 126 (.aload_n 0) 1 127 := ⟨by decide +kernel, rfl⟩
theorem d_X9_matters_127 : At cX9_matters 127 (.getfield 61) 3 130 := ⟨by decide +kernel, rfl⟩
theorem d_X9_matters_130 : At cX9_matters 130 (.iload 4) 2 132 := ⟨by decide +kernel, rfl⟩
theorem d_X9_matters_132 : At cX9_matters 132 (.iload_n 3) 1 133 := ⟨by decide +kernel, rfl⟩
theorem d_X9_matters_133 : At cX9_matters 133 (.iadd) 1 134 := ⟨by decide +kernel, rfl⟩
theorem d_X9_matters_134 : At cX9_matters 134 (.iaload) 1 135 := ⟨by decide +kernel, rfl⟩
theorem d_X9_matters_135 : Br cX9_matters 135 (.if_icmp .eq 5) (5) 138 140 := ⟨by decide +kernel, rfl, rfl⟩
theorem d_X9_matters_138 : At cX9_matters 138 (.iconst 1) 1 139 := ⟨by decide +kernel, rfl⟩
theorem d_X9_matters_139 : Go cX9_matters 139 (.ireturn) 1 := (by decide +kernel : decode cX9_matters 139 = .ok (.ireturn, 1))
theorem d_X9_matters_140 : At cX9_matters 140 (.iinc 4 1) 3 143 := ⟨by decide +kernel, rfl⟩
theorem d_X9_matters_143 : Br cX9_matters 143 (.goto (-66)) (-66) 146 77 := ⟨by decide +kernel, rfl, rfl⟩
theorem d_X9_matters_146 : At cX9_matters 146 (.iconst 0) 1 147 := ⟨by decide +kernel, rfl⟩
theorem d_X9_matters_147 : Go cX9_matters 147 (.ireturn) 1 := (by decide +kernel : decode cX9_matters 147 = .ok (.ireturn, 1))
theorem d_X9_steps_0 : At cX9_steps 0 (.iload_n 1) 1 1 := ⟨by decide +kernel, rfl⟩
theorem d_X9_steps_1 : At cX9_steps 1 (.invokestatic 99) 3 4 := ⟨by decide +kernel, rfl⟩
theorem d_X9_steps_4 : Br cX9_steps 4 (.ifCond .ne 5) (5) 7 9 := ⟨by decide +kernel, rfl, rfl⟩
theorem d_X9_steps_7 : At cX9_steps 7 (.iconst (-1)) 1 8 := ⟨by decide +kernel, rfl⟩
theorem d_X9_steps_8 : Go cX9_steps 8 (.ireturn) 1 := (by decide +kernel : decode cX9_steps 8 = .ok (.ireturn, 1))
theorem d_X9_steps_9 : At cX9_steps 9 (.iload_n 2) 1 10 := ⟨by decide +kernel, rfl⟩
theorem d_X9_steps_10 : At cX9_steps 10 (.invokestatic 203) 3 13 := ⟨by decide +kernel, rfl⟩
theorem d_X9_steps_13 : Br cX9_steps 13 (.ifCond .ne 6) (6) 16 19 := ⟨by decide +kernel, rfl, rfl⟩
theorem d_X9_steps_16 : At cX9_steps 16 (.bipush (-2)) 2 18 := ⟨by decide +kernel, rfl⟩
theorem d_X9_steps_18 : Go cX9_steps 18 (.ireturn) 1 := (by decide +kernel : decode cX9_steps 18 = .ok (.ireturn, 1))
theorem d_X9_steps_19 : At cX9_steps 19 (.iconst 0) 1 20 := ⟨by decide +kernel, rfl⟩
theorem d_X9_steps_20 : At cX9_steps 20 (.istore_n 3) 1 21 := ⟨by decide +kernel, rfl⟩
theorem d_X9_steps_21 : At cX9_steps 21 (.iconst 0) 1 22 := ⟨by decide +kernel, rfl⟩
theorem d_X9_steps_22 : At cX9_steps 22 (.istore 4) 2 24 := ⟨by decide +kernel, rfl⟩
theorem d_X9_steps_24 : At cX9_steps 24 (.iload 4) 2 26 := ⟨by decide +kernel, rfl⟩
theorem d_X9_steps_26 : At cX9_steps 26 (.iload_n 1) 1 27 := ⟨by decide +kernel, rfl⟩
theorem d_X9_steps_27 : At cX9_steps 27 (.invokestatic 200) 3 30 := ⟨by decide +kernel, rfl⟩
theorem d_X9_steps_30 : Br cX9_steps 30 (.if_icmp .ge 50) (50) 33 80 := ⟨by decide +kernel, rfl, rfl⟩
theorem d_X9_steps_33 : At cX9_steps 33 (.iload_n 1) 1 34 := ⟨by decide +kernel, rfl⟩
theorem d_X9_steps_34 : At cX9_steps 34 (.iload 4) 2 36 := ⟨by decide +kernel, rfl⟩
theorem d_X9_steps_36 : At cX9_steps 36 (.invokestatic 211) 3 39 := ⟨by decide +kernel, rfl⟩
theorem d_X9_steps_39 : Br cX9_steps 39 (.ifCond .eq 35) (35) 42 74 := ⟨by decide +kernel, rfl, rfl⟩
theorem d_X9_steps_42 : At cX9_steps 42 (.aload_n 0) 1 43 := ⟨by decide +kernel, rfl⟩
theorem d_X9_steps_43 : At cX9_steps 43 (.iload_n 1) 1 44 := ⟨by decide +kernel, rfl⟩
theorem d_X9_steps_44 : At cX9_steps 44 (.iload 4) 2 46 := ⟨by decide +kernel, rfl⟩
theorem d_X9_steps_46 : At cX9_steps 46 (.iconst 1) 1 47 := ⟨by decide +kernel, rfl⟩
theorem d_X9_steps_47 : At cX9_steps 47 (.invokevirtual 206) 3 50 := ⟨by decide +kernel, rfl⟩
theorem d_X9_steps_50 : At cX9_steps 50 (.aload_n 0) 1 51 := ⟨by decide +kernel, rfl⟩
theorem d_X9_steps_51 : At cX9_steps 51 (.getfield 161) 3 54 := ⟨by decide +kernel, rfl⟩
theorem d_X9_steps_54 : At cX9_steps 54 (.bipush 8) 2 56 := ⟨by decide +kernel, rfl⟩
theorem d_X9_steps_56 : Br cX9_steps 56 (.if_icmp .ge 18) (18) 59 74 := ⟨by decide +kernel, rfl, rfl⟩
theorem d_X9_steps_59 : At cX9_steps 59 (.aload_n 0) 1 60 := ⟨by decide +kernel, rfl⟩
theorem d_X9_steps_60 : At cX9_steps 60 (.iload_n 1) 1 61 := ⟨by decide +kernel, rfl⟩
theorem d_X9_steps_61 : At cX9_steps 61 (.iload 4) 2 63 := ⟨by decide +kernel, rfl⟩
theorem d_X9_steps_63 : At cX9_steps 63 (.iload_n 2) 1 64 := ⟨by decide +kernel, rfl⟩
theorem d_X9_steps_64 : At cX9_steps 64 (.invokevirtual 206) 3 67 := ⟨by decide +kernel, rfl⟩
theorem d_X9_steps_67 : At cX9_steps 67 (.iload_n 3) 1 68 := ⟨by decide +kernel, rfl⟩
theorem d_X9_steps_68 : At cX9_steps 68 (.aload_n 0) 1 69 := ⟨by decide +kernel, rfl⟩
theorem d_X9_steps_69 : At cX9_steps 69 (.getfield 158) 3 72 := ⟨by decide +kernel, rfl⟩
theorem d_X9_steps_72 : At cX9_steps 72 (.iadd) 1 73 := ⟨by decide +kernel, rfl⟩
theorem d_X9_steps_73 : At cX9_steps 73 (.istore_n 3) 1 74 := ⟨by decide +kernel, rfl⟩
theorem d_X9_steps_74 : At cX9_steps 74 (.iinc 4 1) 3 77 := ⟨by decide +kernel, rfl⟩
theorem d_X9_steps_77 : Br cX9_steps 77 (.goto (-53)) (-53) 80 24 := ⟨by decide +kernel, rfl, rfl⟩
theorem d_X9_steps_80 : At cX9_steps 80 (.iload_n 3) 1 81 := ⟨by decide +kernel, rfl⟩
theorem d_X9_steps_81 : Go cX9_steps 81 (.ireturn) 1 := (by decide +kernel : decode cX9_steps 81 = .ok (.ireturn, 1))
theorem d_X9_unlike_0 : At cX9_unlike 0 (.iload_n 1) 1 1 := ⟨by decide +kernel, rfl⟩
theorem d_X9_unlike_1 : At cX9_unlike 1 (.invokestatic 99) 3 4 := ⟨by decide +kernel, rfl⟩
theorem d_X9_unlike_4 : Br cX9_unlike 4 (.ifCond .ne 5) (5) 7 9 := ⟨by decide +kernel, rfl, rfl⟩
theorem d_X9_unlike_7 : At cX9_unlike 7 (.iconst (-1)) 1 8 := ⟨by decide +kernel, rfl⟩
theorem d_X9_unlike_8 : Go cX9_unlike 8 (.ireturn) 1 := (by decide +kernel : decode cX9_unlike 8 = .ok (.ireturn, 1))
theorem d_X9_unlike_9 : At cX9_unlike 9 (.iload_n 2) 1 10 := ⟨by decide +kernel, rfl⟩
theorem d_X9_unlike_10 : At cX9_unlike 10 (.invokestatic 203) 3 13 := ⟨by decide +kernel, rfl⟩
theorem d_X9_unlike_13 : Br cX9_unlike 13 (.ifCond .eq 21) (21) 16 34 := ⟨by decide +kernel, rfl, rfl⟩
theorem d_X9_unlike_16 : At cX9_unlike 16 (.iload_n 3) 1 17 := ⟨by decide +kernel, rfl⟩
theorem d_X9_unlike_17 : At cX9_unlike 17 (.invokestatic 203) 3 20 := ⟨by decide +kernel, rfl⟩
theorem d_X9_unlike_20 : Br cX9_unlike 20 (.ifCond .eq 14) (14) 23 34 := ⟨by decide +kernel, rfl, rfl⟩
theorem d_X9_unlike_23 : At cX9_unlike 23 (.iload 4) 2 25 := ⟨by decide +kernel, rfl⟩
theorem d_X9_unlike_25 : At cX9_unlike 25 (.i2l) 1 26 := ⟨by decide +kernel, rfl⟩
theorem d_X9_unlike_26 : At cX9_unlike 26 (.lconst 0) 1 27 := ⟨by decide +kernel, rfl⟩
theorem d_X9_unlike_27 : At cX9_unlike 27 (.lconst 1) 1 28 := ⟨by decide +kernel, rfl⟩
theorem d_X9_unlike_28 : At cX9_unlike 28 (.invokestatic 69) 3 31 := ⟨by decide +kernel, rfl⟩
theorem d_X9_unlike_31 : Br cX9_unlike 31 (.ifCond .ne 6) (6) 34 37 := ⟨by decide +kernel, rfl, rfl⟩
theorem d_X9_unlike_34 : At cX9_unlike 34 (.bipush (-2)) 2 36 := ⟨by decide +kernel, rfl⟩
theorem d_X9_unlike_36 : Go cX9_unlike 36 (.ireturn) 1 := (by decide +kernel : decode cX9_unlike 36 = .ok (.ireturn, 1))
theorem d_X9_unlike_37 : At cX9_unlike 37 (.iconst 0) 1 38 := ⟨by decide +kernel, rfl⟩
theorem d_X9_unlike_38 : At cX9_unlike 38 (.istore 5) 2 40 := ⟨by decide +kernel, rfl⟩
theorem d_X9_unlike_40 : At cX9_unlike 40 (.bipush (-6)) 2 42 := ⟨by decide +kernel, rfl⟩
theorem d_X9_unlike_42 : At cX9_unlike 42 (.istore 6) 2 44 := ⟨by decide +kernel, rfl⟩
theorem d_X9_unlike_44 : At cX9_unlike 44 (.iconst 0) 1 45 := ⟨by decide +kernel, rfl⟩
theorem d_X9_unlike_45 : At cX9_unlike 45 (.istore 7) 2 47 := ⟨by decide +kernel, rfl⟩
theorem d_X9_unlike_47 : At cX9_unlike 47 (.iload 7) 2 49 := ⟨by decide +kernel, rfl⟩
theorem d_X9_unlike_49 : At cX9_unlike 49 (.iload_n 1) 1 50 := ⟨by decide +kernel, rfl⟩
theorem d_X9_unlike_50 : At cX9_unlike 50 (.invokestatic 200) 3 53 := ⟨by decide +kernel, rfl⟩
theorem d_X9_unlike_53 : Br cX9_unlike 53 (.if_icmp .ge 73) (73) 56 126 := ⟨by decide +kernel, rfl, rfl⟩
theorem d_X9_unlike_56 : At cX9_unlike 56 (.aload_n 0) 1 57 := ⟨by decide +kernel, rfl⟩
theorem d_X9_unlike_57 : At cX9_unlike 57 (.iload_n 1) 1 58 := ⟨by decide +kernel, rfl⟩
theorem d_X9_unlike_58 : At cX9_unlike 58 (.iload 7) 2 60 := ⟨by decide +kernel, rfl⟩
theorem d_X9_unlike_60 : At cX9_unlike 60 (.iload_n 2) 1 61 := ⟨by decide +kernel, rfl⟩
theorem d_X9_unlike_61 : At cX9_unlike 61 (.invokevirtual 206) 3 64 := ⟨by decide +kernel, rfl⟩
theorem d_X9_unlike_64 : At cX9_unlike 64 (.aload_n 0) 1 65 := ⟨by decide +kernel, rfl⟩
theorem d_X9_unlike_65 : At cX9_unlike 65 (.getfield 161) 3 68 := ⟨by decide +kernel, rfl⟩
theorem d_X9_unlike_68 : At cX9_unlike 68 (.istore 8) 2 70 := ⟨by decide +kernel, rfl⟩
theorem d_X9_unlike_70 : At cX9_unlike 70 (.aload_n 0) 1 71 := ⟨by decide +kernel, rfl⟩
theorem d_X9_unlike_71 : At cX9_unlike 71 (.iload_n 1) 1 72 := ⟨by decide +kernel, rfl⟩
theorem d_X9_unlike_72 : At cX9_unlike 72 (.iload 7) 2 74 := ⟨by decide +kernel, rfl⟩
theorem d_X9_unlike_74 : At cX9_unlike 74 (.iload_n 3) 1 75 := ⟨by decide +kernel, rfl⟩
theorem d_X9_unlike_75 : At cX9_unlike 75 (.invokevirtual 206) 3 78 := ⟨by decide +kernel, rfl⟩
theorem d_X9_unlike_78 : At cX9_unlike 78 (.iload 5) 2 80 := ⟨by decide +kernel, rfl⟩
theorem d_X9_unlike_80 : Br cX9_unlike 80 (.ifCond .ne 17) (17) 83 97 := ⟨by decide +kernel, rfl, rfl⟩
theorem d_X9_unlike_83 : At cX9_unlike 83 (.iload 8) 2 85 := ⟨by decide +kernel, rfl⟩
theorem d_X9_unlike_85 : At cX9_unlike 85 (.aload_n 0) 1 86 := ⟨by decide +kernel, rfl⟩
theorem d_X9_unlike_86 : At cX9_unlike 86 (.getfield 161) 3 89 := ⟨by decide +kernel, rfl⟩
theorem d_X9_unlike_89 : Br cX9_unlike 89 (.if_icmp .eq 8) (8) 92 97 := ⟨by decide +kernel, rfl, rfl⟩
theorem d_X9_unlike_92 : At cX9_unlike 92 (.iload 7) 2 94 := ⟨by decide +kernel, rfl⟩
theorem d_X9_unlike_94 : Br cX9_unlike 94 (.goto 5) (5) 97 99 := ⟨by decide +kernel, rfl, rfl⟩
theorem d_X9_unlike_97 : At cX9_unlike 97 (.iload 6) 2 99 := ⟨by decide +kernel, rfl⟩
theorem d_X9_unlike_99 : At cX9_unlike 99 (.istore 6) 2 101 := ⟨by decide +kernel, rfl⟩
theorem d_X9_unlike_101 : At cX9_unlike 101 (.iload 5) 2 103 := ⟨by decide +kernel, rfl⟩
theorem d_X9_unlike_103 : At cX9_unlike 103 (.iload 8) 2 105 := ⟨by decide +kernel, rfl⟩
theorem d_X9_unlike_105 : At cX9_unlike 105 (.aload_n 0) 1 106 := ⟨by decide +kernel, rfl⟩
theorem d_X9_unlike_106 : At cX9_unlike 106 (.getfield 161) 3 109 := ⟨by decide +kernel, rfl⟩
theorem d_X9_unlike_109 : Br cX9_unlike 109 (.if_icmp .eq 7) (7) 112 116 := ⟨by decide +kernel, rfl, rfl⟩
theorem d_X9_unlike_112 : At cX9_unlike 112 (.iconst 1) 1 113 := ⟨by decide +kernel, rfl⟩
theorem d_X9_unlike_113 : Br cX9_unlike 113 (.goto 4) (4) 116 117 := ⟨by decide +kernel, rfl, rfl⟩
theorem d_X9_unlike_116 : At cX9_unlike 116 (.iconst 0) 1 117 := ⟨by decide +kernel, rfl⟩
theorem d_X9_unlike_117 : At cX9_unlike 117 (.iadd) 1 118 := ⟨by decide +kernel, rfl⟩
theorem d_X9_unlike_118 : At cX9_unlike 118 (.istore 5) 2 120 := ⟨by decide +kernel, rfl⟩
theorem d_X9_unlike_120 : At cX9_unlike 120 (.iinc 7 1) 3 123 := ⟨by decide +kernel, rfl⟩
theorem d_X9_unlike_123 : Br cX9_unlike 123 (.goto (-76)) (-76) 126 47 := ⟨by decide +kernel, rfl, rfl⟩
theorem d_X9_unlike_126 : At cX9_unlike 126 (.iload 4) 2 128 := ⟨by decide +kernel, rfl⟩
theorem d_X9_unlike_128 : Br cX9_unlike 128 (.ifCond .ne 8) (8) 131 136 := ⟨by decide +kernel, rfl, rfl⟩
theorem d_X9_unlike_131 : At cX9_unlike 131 (.iload 5) 2 133 := ⟨by decide +kernel, rfl⟩
theorem d_X9_unlike_133 : Br cX9_unlike 133 (.goto 5) (5) 136 138 := ⟨by decide +kernel, rfl, rfl⟩
theorem d_X9_unlike_136 : At cX9_unlike 136 (.iload 6) 2 138 := ⟨by decide +kernel, rfl⟩
theorem d_X9_unlike_138 : Go cX9_unlike 138 (.ireturn) 1 := (by decide +kernel : decode cX9_unlike 138 = .ok (.ireturn, 1))
theorem d_X9_told_0 : At cX9_told 0 (.iload_n 1) 1 1 := ⟨by decide +kernel, rfl⟩
theorem d_X9_told_1 : Br cX9_told 1 (.ifCond .ne 12) (12) 4 13 := ⟨by decide +kernel, rfl, rfl⟩
theorem d_X9_told_4 : At cX9_told 4 (.aload_n 0) 1 5 := ⟨by decide +kernel, rfl⟩
theorem d_X9_told_5 : At cX9_told 5 (.getfield 19) 3 8 := ⟨by decide +kernel, rfl⟩
theorem d_X9_told_8 : At cX9_told 8 (.iconst 4) 1 9 := ⟨by decide +kernel, rfl⟩
theorem d_X9_told_9 : At cX9_told 9 (.iaload) 1 10 := ⟨by decide +kernel, rfl⟩
theorem d_X9_told_10 : Br cX9_told 10 (.goto 28) (28) 13 38 := ⟨by decide +kernel, rfl, rfl⟩
theorem d_X9_told_13 : At cX9_told 13 (.iload_n 1) 1 14 := ⟨by decide +kernel, rfl⟩
theorem d_X9_told_14 : At cX9_told 14 (.i2l) 1 15 := ⟨by decide +kernel, rfl⟩
theorem d_X9_told_15 : At cX9_told 15 (.lconst 1) 1 16 := ⟨by decide +kernel, rfl⟩
theorem d_X9_told_16 : At cX9_told 16 (.ldc2_w 214) 3 19 := ⟨by decide +kernel, rfl⟩
theorem d_X9_told_19 : At cX9_told 19 (.invokestatic 69) 3 22 := ⟨by decide +kernel, rfl⟩
theorem d_X9_told_22 : Br cX9_told 22 (.ifCond .eq 14) (14) 25 36 := ⟨by decide +kernel, rfl, rfl⟩
theorem d_X9_told_25 : At cX9_told 25 (.aload_n 0) 1 26 := ⟨by decide +kernel, rfl⟩
theorem d_X9_told_26 : At cX9_told 26 (.getfield 19) 3 29 := ⟨by decide +kernel, rfl⟩
theorem d_X9_told_29 : At cX9_told 29 (.iload_n 1) 1 30 := ⟨by decide +kernel, rfl⟩
theorem d_X9_told_30 : At cX9_told 30 (.iconst 1) 1 31 := ⟨by decide +kernel, rfl⟩
theorem d_X9_told_31 : At cX9_told 31 (.isub) 1 32 := ⟨by decide +kernel, rfl⟩
theorem d_X9_told_32 : At cX9_told 32 (.iaload) 1 33 := ⟨by decide +kernel, rfl⟩
theorem d_X9_told_33 : Br cX9_told 33 (.goto 5) (5) 36 38 := ⟨by decide +kernel, rfl, rfl⟩
theorem d_X9_told_36 : At cX9_told 36 (.bipush (-2)) 2 38 := ⟨by decide +kernel, rfl⟩
theorem d_X9_told_38 : Go cX9_told 38 (.ireturn) 1 := (by decide +kernel : decode cX9_told 38 = .ok (.ireturn, 1))
theorem d_J9_max_7cf53_0 : At cJ9_max_7cf53 0 (.iload_n 0) 1 1 := ⟨by decide +kernel, rfl⟩
theorem d_J9_max_7cf53_1 : At cJ9_max_7cf53 1 (.iload_n 1) 1 2 := ⟨by decide +kernel, rfl⟩
theorem d_J9_max_7cf53_2 : Br cJ9_max_7cf53 2 (.if_icmp .lt 7) (7) 5 9 := ⟨by decide +kernel, rfl, rfl⟩
theorem d_J9_max_7cf53_5 : At cJ9_max_7cf53 5 (.iload_n 0) 1 6 := ⟨by decide +kernel, rfl⟩
theorem d_J9_max_7cf53_6 : Br cJ9_max_7cf53 6 (.goto 4) (4) 9 10 := ⟨by decide +kernel, rfl, rfl⟩
theorem d_J9_max_7cf53_9 : At cJ9_max_7cf53 9 (.iload_n 1) 1 10 := ⟨by decide +kernel, rfl⟩
theorem d_J9_max_7cf53_10 : Go cJ9_max_7cf53 10 (.ireturn) 1 := (by decide +kernel : decode cJ9_max_7cf53 10 = .ok (.ireturn, 1))
theorem d_J9_min_7cf53_0 : At cJ9_min_7cf53 0 (.iload_n 0) 1 1 := ⟨by decide +kernel, rfl⟩
theorem d_J9_min_7cf53_1 : At cJ9_min_7cf53 1 (.iload_n 1) 1 2 := ⟨by decide +kernel, rfl⟩
theorem d_J9_min_7cf53_2 : Br cJ9_min_7cf53 2 (.if_icmp .gt 7) (7) 5 9 := ⟨by decide +kernel, rfl, rfl⟩
theorem d_J9_min_7cf53_5 : At cJ9_min_7cf53 5 (.iload_n 0) 1 6 := ⟨by decide +kernel, rfl⟩
theorem d_J9_min_7cf53_6 : Br cJ9_min_7cf53 6 (.goto 4) (4) 9 10 := ⟨by decide +kernel, rfl, rfl⟩
theorem d_J9_min_7cf53_9 : At cJ9_min_7cf53 9 (.iload_n 1) 1 10 := ⟨by decide +kernel, rfl⟩
theorem d_J9_min_7cf53_10 : Go cJ9_min_7cf53 10 (.ireturn) 1 := (by decide +kernel : decode cJ9_min_7cf53 10 = .ok (.ireturn, 1))
theorem d_J7_fill_53178_0 : At cJ7_fill_53178 0 (.iconst 0) 1 1 := ⟨by decide +kernel, rfl⟩
theorem d_J7_fill_53178_1 : At cJ7_fill_53178 1 (.istore_n 2) 1 2 := ⟨by decide +kernel, rfl⟩
theorem d_J7_fill_53178_2 : At cJ7_fill_53178 2 (.aload_n 0) 1 3 := ⟨by decide +kernel, rfl⟩
theorem d_J7_fill_53178_3 : At cJ7_fill_53178 3 (.arraylength) 1 4 := ⟨by decide +kernel, rfl⟩
theorem d_J7_fill_53178_4 : At cJ7_fill_53178 4 (.istore_n 3) 1 5 := ⟨by decide +kernel, rfl⟩
theorem d_J7_fill_53178_5 : At cJ7_fill_53178 5 (.iload_n 2) 1 6 := ⟨by decide +kernel, rfl⟩
theorem d_J7_fill_53178_6 : At cJ7_fill_53178 6 (.iload_n 3) 1 7 := ⟨by decide +kernel, rfl⟩
theorem d_J7_fill_53178_7 : Br cJ7_fill_53178 7 (.if_icmp .ge 13) (13) 10 20 := ⟨by decide +kernel, rfl, rfl⟩
theorem d_J7_fill_53178_10 : At cJ7_fill_53178 10 (.aload_n 0) 1 11 := ⟨by decide +kernel, rfl⟩
theorem d_J7_fill_53178_11 : At cJ7_fill_53178 11 (.iload_n 2) 1 12 := ⟨by decide +kernel, rfl⟩
theorem d_J7_fill_53178_12 : At cJ7_fill_53178 12 (.iload_n 1) 1 13 := ⟨by decide +kernel, rfl⟩
theorem d_J7_fill_53178_13 : At cJ7_fill_53178 13 (.iastore) 1 14 := ⟨by decide +kernel, rfl⟩
theorem d_J7_fill_53178_14 : At cJ7_fill_53178 14 (.iinc 2 1) 3 17 := ⟨by decide +kernel, rfl⟩
theorem d_J7_fill_53178_17 : Br cJ7_fill_53178 17 (.goto (-12)) (-12) 20 5 := ⟨by decide +kernel, rfl, rfl⟩
theorem d_J7_fill_53178_20 : Go cJ7_fill_53178 20 (.return_) 1 := (by decide +kernel : decode cJ7_fill_53178 20 = .ok (.return_, 1))
theorem d_L_law_0 : At cL_law 0 (.new 7) 3 3 := ⟨by decide +kernel, rfl⟩
theorem d_L_law_3 : At cL_law 3 (.dup) 1 4 := ⟨by decide +kernel, rfl⟩
theorem d_L_law_4 : At cL_law 4 (.invokespecial 9) 3 7 := ⟨by decide +kernel, rfl⟩
theorem d_L_law_7 : At cL_law 7 (.astore_n 1) 1 8 := ⟨by decide +kernel, rfl⟩
theorem d_L_law_8 : At cL_law 8 (.new 10) 3 11 := ⟨by decide +kernel, rfl⟩
theorem d_L_law_11 : At cL_law 11 (.dup) 1 12 := ⟨by decide +kernel, rfl⟩
theorem d_L_law_12 : At cL_law 12 (.invokespecial 12) 3 15 := ⟨by decide +kernel, rfl⟩
theorem d_L_law_15 : At cL_law 15 (.astore_n 2) 1 16 := ⟨by decide +kernel, rfl⟩
theorem d_L_law_16 : At cL_law 16 (.iconst 0) 1 17 := ⟨by decide +kernel, rfl⟩
theorem d_L_law_17 : At cL_law 17 (.istore_n 3) 1 18 := ⟨by decide +kernel, rfl⟩
theorem d_L_law_18 : At cL_law 18 (.iload_n 3) 1 19 := ⟨by decide +kernel, rfl⟩
theorem d_L_law_19 : At cL_law 19 (.aload_n 0) 1 20 := ⟨by decide +kernel, rfl⟩
theorem d_L_law_20 : At cL_law 20 (.arraylength) 1 21 := ⟨by decide +kernel, rfl⟩
theorem d_L_law_21 : At cL_law 21 (.iconst 5) 1 22 := ⟨by decide +kernel, rfl⟩
theorem d_L_law_22 : At cL_law 22 (.isub) 1 23 := ⟨by decide +kernel, rfl⟩
theorem d_L_law_23 : Br cL_law 23 (.if_icmp .gt 613) (613) 26 636 := ⟨by decide +kernel, rfl, rfl⟩
theorem d_L_law_26 : At cL_law 26 (.aload_n 0) 1 27 := ⟨by decide +kernel, rfl⟩
theorem d_L_law_27 : At cL_law 27 (.iload_n 3) 1 28 := ⟨by decide +kernel, rfl⟩
theorem d_L_law_28 : At cL_law 28 (.iaload) 1 29 := ⟨by decide +kernel, rfl⟩
theorem d_L_law_29 : At cL_law 29 (.bipush 15) 2 31 := ⟨by decide +kernel, rfl⟩
theorem d_L_law_31 : At cL_law 31 (.iand) 1 32 := ⟨by decide +kernel, rfl⟩
theorem d_L_law_32 : Go cL_law 32 (.tableswitch 598 0 15 #[80, 103, 116, 139, 162, 205, 258, 291, 314, 347, 380, 423, 456, 489, 522, 575]) 80 := (by decide +kernel : decode cL_law 32 = .ok (.tableswitch 598 0 15 #[80, 103, 116, 139, 162, 205, 258, 291, 314, 347, 380, 423, 456, 489, 522, 575], 80))
theorem d_L_law_112 : At cL_law 112 (.aload_n 1) 1 113 := ⟨by decide +kernel, rfl⟩
theorem d_L_law_113 : At cL_law 113 (.aload_n 0) 1 114 := ⟨by decide +kernel, rfl⟩
theorem d_L_law_114 : At cL_law 114 (.iload_n 3) 1 115 := ⟨by decide +kernel, rfl⟩
theorem d_L_law_115 : At cL_law 115 (.iconst 1) 1 116 := ⟨by decide +kernel, rfl⟩
theorem d_L_law_116 : At cL_law 116 (.iadd) 1 117 := ⟨by decide +kernel, rfl⟩
theorem d_L_law_117 : At cL_law 117 (.iaload) 1 118 := ⟨by decide +kernel, rfl⟩
theorem d_L_law_118 : At cL_law 118 (.invokevirtual 13) 3 121 := ⟨by decide +kernel, rfl⟩
theorem d_L_law_121 : At cL_law 121 (.aload_n 2) 1 122 := ⟨by decide +kernel, rfl⟩
theorem d_L_law_122 : At cL_law 122 (.aload_n 0) 1 123 := ⟨by decide +kernel, rfl⟩
theorem d_L_law_123 : At cL_law 123 (.iload_n 3) 1 124 := ⟨by decide +kernel, rfl⟩
theorem d_L_law_124 : At cL_law 124 (.iconst 1) 1 125 := ⟨by decide +kernel, rfl⟩
theorem d_L_law_125 : At cL_law 125 (.iadd) 1 126 := ⟨by decide +kernel, rfl⟩
theorem d_L_law_126 : At cL_law 126 (.iaload) 1 127 := ⟨by decide +kernel, rfl⟩
theorem d_L_law_127 : At cL_law 127 (.invokevirtual 17) 3 130 := ⟨by decide +kernel, rfl⟩
theorem d_L_law_130 : Br cL_law 130 (.if_icmp .eq 500) (500) 133 630 := ⟨by decide +kernel, rfl, rfl⟩
theorem d_L_law_133 : At cL_law 133 (.iconst 0) 1 134 := ⟨by decide +kernel, rfl⟩
theorem d_L_law_134 : Go cL_law 134 (.ireturn) 1 := (by decide +kernel : decode cL_law 134 = .ok (.ireturn, 1))
theorem d_L_law_135 : At cL_law 135 (.aload_n 1) 1 136 := ⟨by decide +kernel, rfl⟩
theorem d_L_law_136 : At cL_law 136 (.invokevirtual 18) 3 139 := ⟨by decide +kernel, rfl⟩
theorem d_L_law_139 : At cL_law 139 (.aload_n 2) 1 140 := ⟨by decide +kernel, rfl⟩
theorem d_L_law_140 : At cL_law 140 (.invokevirtual 22) 3 143 := ⟨by decide +kernel, rfl⟩
theorem d_L_law_143 : Br cL_law 143 (.if_icmp .eq 487) (487) 146 630 := ⟨by decide +kernel, rfl, rfl⟩
theorem d_L_law_146 : At cL_law 146 (.iconst 0) 1 147 := ⟨by decide +kernel, rfl⟩
theorem d_L_law_147 : Go cL_law 147 (.ireturn) 1 := (by decide +kernel : decode cL_law 147 = .ok (.ireturn, 1))
theorem d_L_law_148 : At cL_law 148 (.aload_n 1) 1 149 := ⟨by decide +kernel, rfl⟩
theorem d_L_law_149 : At cL_law 149 (.aload_n 0) 1 150 := ⟨by decide +kernel, rfl⟩
theorem d_L_law_150 : At cL_law 150 (.iload_n 3) 1 151 := ⟨by decide +kernel, rfl⟩
theorem d_L_law_151 : At cL_law 151 (.iconst 1) 1 152 := ⟨by decide +kernel, rfl⟩
theorem d_L_law_152 : At cL_law 152 (.iadd) 1 153 := ⟨by decide +kernel, rfl⟩
theorem d_L_law_153 : At cL_law 153 (.iaload) 1 154 := ⟨by decide +kernel, rfl⟩
theorem d_L_law_154 : At cL_law 154 (.invokevirtual 23) 3 157 := ⟨by decide +kernel, rfl⟩
theorem d_L_law_157 : At cL_law 157 (.aload_n 2) 1 158 := ⟨by decide +kernel, rfl⟩
theorem d_L_law_158 : At cL_law 158 (.aload_n 0) 1 159 := ⟨by decide +kernel, rfl⟩
theorem d_L_law_159 : At cL_law 159 (.iload_n 3) 1 160 := ⟨by decide +kernel, rfl⟩
theorem d_L_law_160 : At cL_law 160 (.iconst 1) 1 161 := ⟨by decide +kernel, rfl⟩
theorem d_L_law_161 : At cL_law 161 (.iadd) 1 162 := ⟨by decide +kernel, rfl⟩
theorem d_L_law_162 : At cL_law 162 (.iaload) 1 163 := ⟨by decide +kernel, rfl⟩
theorem d_L_law_163 : At cL_law 163 (.invokevirtual 26) 3 166 := ⟨by decide +kernel, rfl⟩
theorem d_L_law_166 : Br cL_law 166 (.if_icmp .eq 464) (464) 169 630 := ⟨by decide +kernel, rfl, rfl⟩
theorem d_L_law_169 : At cL_law 169 (.iconst 0) 1 170 := ⟨by decide +kernel, rfl⟩
theorem d_L_law_170 : Go cL_law 170 (.ireturn) 1 := (by decide +kernel : decode cL_law 170 = .ok (.ireturn, 1))
theorem d_L_law_171 : At cL_law 171 (.aload_n 1) 1 172 := ⟨by decide +kernel, rfl⟩
theorem d_L_law_172 : At cL_law 172 (.aload_n 0) 1 173 := ⟨by decide +kernel, rfl⟩
theorem d_L_law_173 : At cL_law 173 (.iload_n 3) 1 174 := ⟨by decide +kernel, rfl⟩
theorem d_L_law_174 : At cL_law 174 (.iconst 1) 1 175 := ⟨by decide +kernel, rfl⟩
theorem d_L_law_175 : At cL_law 175 (.iadd) 1 176 := ⟨by decide +kernel, rfl⟩
theorem d_L_law_176 : At cL_law 176 (.iaload) 1 177 := ⟨by decide +kernel, rfl⟩
theorem d_L_law_177 : At cL_law 177 (.invokevirtual 27) 3 180 := ⟨by decide +kernel, rfl⟩
theorem d_L_law_180 : At cL_law 180 (.aload_n 2) 1 181 := ⟨by decide +kernel, rfl⟩
theorem d_L_law_181 : At cL_law 181 (.aload_n 0) 1 182 := ⟨by decide +kernel, rfl⟩
theorem d_L_law_182 : At cL_law 182 (.iload_n 3) 1 183 := ⟨by decide +kernel, rfl⟩
theorem d_L_law_183 : At cL_law 183 (.iconst 1) 1 184 := ⟨by decide +kernel, rfl⟩
theorem d_L_law_184 : At cL_law 184 (.iadd) 1 185 := ⟨by decide +kernel, rfl⟩
theorem d_L_law_185 : At cL_law 185 (.iaload) 1 186 := ⟨by decide +kernel, rfl⟩
theorem d_L_law_186 : At cL_law 186 (.invokevirtual 30) 3 189 := ⟨by decide +kernel, rfl⟩
theorem d_L_law_189 : Br cL_law 189 (.if_icmp .eq 441) (441) 192 630 := ⟨by decide +kernel, rfl, rfl⟩
theorem d_L_law_192 : At cL_law 192 (.iconst 0) 1 193 := ⟨by decide +kernel, rfl⟩
theorem d_L_law_193 : Go cL_law 193 (.ireturn) 1 := (by decide +kernel : decode cL_law 193 = .ok (.ireturn, 1))
theorem d_L_law_194 : At cL_law 194 (.aload_n 1) 1 195 := ⟨by decide +kernel, rfl⟩
theorem d_L_law_195 : At cL_law 195 (.aload_n 0) 1 196 := ⟨by decide +kernel, rfl⟩
theorem d_L_law_196 : At cL_law 196 (.iload_n 3) 1 197 := ⟨by decide +kernel, rfl⟩
theorem d_L_law_197 : At cL_law 197 (.iconst 1) 1 198 := ⟨by decide +kernel, rfl⟩
theorem d_L_law_198 : At cL_law 198 (.iadd) 1 199 := ⟨by decide +kernel, rfl⟩
theorem d_L_law_199 : At cL_law 199 (.iaload) 1 200 := ⟨by decide +kernel, rfl⟩
theorem d_L_law_200 : At cL_law 200 (.aload_n 0) 1 201 := ⟨by decide +kernel, rfl⟩
theorem d_L_law_201 : At cL_law 201 (.iload_n 3) 1 202 := ⟨by decide +kernel, rfl⟩
theorem d_L_law_202 : At cL_law 202 (.iconst 2) 1 203 := ⟨by decide +kernel, rfl⟩
theorem d_L_law_203 : At cL_law 203 (.iadd) 1 204 := ⟨by decide +kernel, rfl⟩
theorem d_L_law_204 : At cL_law 204 (.iaload) 1 205 := ⟨by decide +kernel, rfl⟩
theorem d_L_law_205 : At cL_law 205 (.aload_n 0) 1 206 := ⟨by decide +kernel, rfl⟩
theorem d_L_law_206 : At cL_law 206 (.iload_n 3) 1 207 := ⟨by decide +kernel, rfl⟩
theorem d_L_law_207 : At cL_law 207 (.iconst 3) 1 208 := ⟨by decide +kernel, rfl⟩
theorem d_L_law_208 : At cL_law 208 (.iadd) 1 209 := ⟨by decide +kernel, rfl⟩
theorem d_L_law_209 : At cL_law 209 (.iaload) 1 210 := ⟨by decide +kernel, rfl⟩
theorem d_L_law_210 : At cL_law 210 (.invokevirtual 31) 3 213 := ⟨by decide +kernel, rfl⟩
theorem d_L_law_213 : At cL_law 213 (.aload_n 2) 1 214 := ⟨by decide +kernel, rfl⟩
theorem d_L_law_214 : At cL_law 214 (.aload_n 0) 1 215 := ⟨by decide +kernel, rfl⟩
theorem d_L_law_215 : At cL_law 215 (.iload_n 3) 1 216 := ⟨by decide +kernel, rfl⟩
theorem d_L_law_216 : At cL_law 216 (.iconst 1) 1 217 := ⟨by decide +kernel, rfl⟩
theorem d_L_law_217 : At cL_law 217 (.iadd) 1 218 := ⟨by decide +kernel, rfl⟩
theorem d_L_law_218 : At cL_law 218 (.iaload) 1 219 := ⟨by decide +kernel, rfl⟩
theorem d_L_law_219 : At cL_law 219 (.aload_n 0) 1 220 := ⟨by decide +kernel, rfl⟩
theorem d_L_law_220 : At cL_law 220 (.iload_n 3) 1 221 := ⟨by decide +kernel, rfl⟩
theorem d_L_law_221 : At cL_law 221 (.iconst 2) 1 222 := ⟨by decide +kernel, rfl⟩
theorem d_L_law_222 : At cL_law 222 (.iadd) 1 223 := ⟨by decide +kernel, rfl⟩
theorem d_L_law_223 : At cL_law 223 (.iaload) 1 224 := ⟨by decide +kernel, rfl⟩
theorem d_L_law_224 : At cL_law 224 (.aload_n 0) 1 225 := ⟨by decide +kernel, rfl⟩
theorem d_L_law_225 : At cL_law 225 (.iload_n 3) 1 226 := ⟨by decide +kernel, rfl⟩
theorem d_L_law_226 : At cL_law 226 (.iconst 3) 1 227 := ⟨by decide +kernel, rfl⟩
theorem d_L_law_227 : At cL_law 227 (.iadd) 1 228 := ⟨by decide +kernel, rfl⟩
theorem d_L_law_228 : At cL_law 228 (.iaload) 1 229 := ⟨by decide +kernel, rfl⟩
theorem d_L_law_229 : At cL_law 229 (.invokevirtual 35) 3 232 := ⟨by decide +kernel, rfl⟩
theorem d_L_law_232 : Br cL_law 232 (.if_icmp .eq 398) (398) 235 630 := ⟨by decide +kernel, rfl, rfl⟩
theorem d_L_law_235 : At cL_law 235 (.iconst 0) 1 236 := ⟨by decide +kernel, rfl⟩
theorem d_L_law_236 : Go cL_law 236 (.ireturn) 1 := (by decide +kernel : decode cL_law 236 = .ok (.ireturn, 1))
theorem d_L_law_237 : At cL_law 237 (.aload_n 1) 1 238 := ⟨by decide +kernel, rfl⟩
theorem d_L_law_238 : At cL_law 238 (.aload_n 0) 1 239 := ⟨by decide +kernel, rfl⟩
theorem d_L_law_239 : At cL_law 239 (.iload_n 3) 1 240 := ⟨by decide +kernel, rfl⟩
theorem d_L_law_240 : At cL_law 240 (.iconst 1) 1 241 := ⟨by decide +kernel, rfl⟩
theorem d_L_law_241 : At cL_law 241 (.iadd) 1 242 := ⟨by decide +kernel, rfl⟩
theorem d_L_law_242 : At cL_law 242 (.iaload) 1 243 := ⟨by decide +kernel, rfl⟩
theorem d_L_law_243 : At cL_law 243 (.aload_n 0) 1 244 := ⟨by decide +kernel, rfl⟩
theorem d_L_law_244 : At cL_law 244 (.iload_n 3) 1 245 := ⟨by decide +kernel, rfl⟩
theorem d_L_law_245 : At cL_law 245 (.iconst 2) 1 246 := ⟨by decide +kernel, rfl⟩
theorem d_L_law_246 : At cL_law 246 (.iadd) 1 247 := ⟨by decide +kernel, rfl⟩
theorem d_L_law_247 : At cL_law 247 (.iaload) 1 248 := ⟨by decide +kernel, rfl⟩
theorem d_L_law_248 : At cL_law 248 (.aload_n 0) 1 249 := ⟨by decide +kernel, rfl⟩
theorem d_L_law_249 : At cL_law 249 (.iload_n 3) 1 250 := ⟨by decide +kernel, rfl⟩
theorem d_L_law_250 : At cL_law 250 (.iconst 3) 1 251 := ⟨by decide +kernel, rfl⟩
theorem d_L_law_251 : At cL_law 251 (.iadd) 1 252 := ⟨by decide +kernel, rfl⟩
theorem d_L_law_252 : At cL_law 252 (.iaload) 1 253 := ⟨by decide +kernel, rfl⟩
theorem d_L_law_253 : At cL_law 253 (.aload_n 0) 1 254 := ⟨by decide +kernel, rfl⟩
theorem d_L_law_254 : At cL_law 254 (.iload_n 3) 1 255 := ⟨by decide +kernel, rfl⟩
theorem d_L_law_255 : At cL_law 255 (.iconst 4) 1 256 := ⟨by decide +kernel, rfl⟩
theorem d_L_law_256 : At cL_law 256 (.iadd) 1 257 := ⟨by decide +kernel, rfl⟩
theorem d_L_law_257 : At cL_law 257 (.iaload) 1 258 := ⟨by decide +kernel, rfl⟩
theorem d_L_law_258 : At cL_law 258 (.invokevirtual 36) 3 261 := ⟨by decide +kernel, rfl⟩
theorem d_L_law_261 : At cL_law 261 (.aload_n 2) 1 262 := ⟨by decide +kernel, rfl⟩
theorem d_L_law_262 : At cL_law 262 (.aload_n 0) 1 263 := ⟨by decide +kernel, rfl⟩
theorem d_L_law_263 : At cL_law 263 (.iload_n 3) 1 264 := ⟨by decide +kernel, rfl⟩
theorem d_L_law_264 : At cL_law 264 (.iconst 1) 1 265 := ⟨by decide +kernel, rfl⟩
theorem d_L_law_265 : At cL_law 265 (.iadd) 1 266 := ⟨by decide +kernel, rfl⟩
theorem d_L_law_266 : At cL_law 266 (.iaload) 1 267 := ⟨by decide +kernel, rfl⟩
theorem d_L_law_267 : At cL_law 267 (.aload_n 0) 1 268 := ⟨by decide +kernel, rfl⟩
theorem d_L_law_268 : At cL_law 268 (.iload_n 3) 1 269 := ⟨by decide +kernel, rfl⟩
theorem d_L_law_269 : At cL_law 269 (.iconst 2) 1 270 := ⟨by decide +kernel, rfl⟩
theorem d_L_law_270 : At cL_law 270 (.iadd) 1 271 := ⟨by decide +kernel, rfl⟩
theorem d_L_law_271 : At cL_law 271 (.iaload) 1 272 := ⟨by decide +kernel, rfl⟩
theorem d_L_law_272 : At cL_law 272 (.aload_n 0) 1 273 := ⟨by decide +kernel, rfl⟩
theorem d_L_law_273 : At cL_law 273 (.iload_n 3) 1 274 := ⟨by decide +kernel, rfl⟩
theorem d_L_law_274 : At cL_law 274 (.iconst 3) 1 275 := ⟨by decide +kernel, rfl⟩
theorem d_L_law_275 : At cL_law 275 (.iadd) 1 276 := ⟨by decide +kernel, rfl⟩
theorem d_L_law_276 : At cL_law 276 (.iaload) 1 277 := ⟨by decide +kernel, rfl⟩
theorem d_L_law_277 : At cL_law 277 (.aload_n 0) 1 278 := ⟨by decide +kernel, rfl⟩
theorem d_L_law_278 : At cL_law 278 (.iload_n 3) 1 279 := ⟨by decide +kernel, rfl⟩
theorem d_L_law_279 : At cL_law 279 (.iconst 4) 1 280 := ⟨by decide +kernel, rfl⟩
theorem d_L_law_280 : At cL_law 280 (.iadd) 1 281 := ⟨by decide +kernel, rfl⟩
theorem d_L_law_281 : At cL_law 281 (.iaload) 1 282 := ⟨by decide +kernel, rfl⟩
theorem d_L_law_282 : At cL_law 282 (.invokevirtual 40) 3 285 := ⟨by decide +kernel, rfl⟩
theorem d_L_law_285 : Br cL_law 285 (.if_icmp .eq 345) (345) 288 630 := ⟨by decide +kernel, rfl, rfl⟩
theorem d_L_law_288 : At cL_law 288 (.iconst 0) 1 289 := ⟨by decide +kernel, rfl⟩
theorem d_L_law_289 : Go cL_law 289 (.ireturn) 1 := (by decide +kernel : decode cL_law 289 = .ok (.ireturn, 1))
theorem d_L_law_290 : At cL_law 290 (.aload_n 1) 1 291 := ⟨by decide +kernel, rfl⟩
theorem d_L_law_291 : At cL_law 291 (.aload_n 0) 1 292 := ⟨by decide +kernel, rfl⟩
theorem d_L_law_292 : At cL_law 292 (.iload_n 3) 1 293 := ⟨by decide +kernel, rfl⟩
theorem d_L_law_293 : At cL_law 293 (.iconst 1) 1 294 := ⟨by decide +kernel, rfl⟩
theorem d_L_law_294 : At cL_law 294 (.iadd) 1 295 := ⟨by decide +kernel, rfl⟩
theorem d_L_law_295 : At cL_law 295 (.iaload) 1 296 := ⟨by decide +kernel, rfl⟩
theorem d_L_law_296 : At cL_law 296 (.aload_n 0) 1 297 := ⟨by decide +kernel, rfl⟩
theorem d_L_law_297 : At cL_law 297 (.iload_n 3) 1 298 := ⟨by decide +kernel, rfl⟩
theorem d_L_law_298 : At cL_law 298 (.iconst 2) 1 299 := ⟨by decide +kernel, rfl⟩
theorem d_L_law_299 : At cL_law 299 (.iadd) 1 300 := ⟨by decide +kernel, rfl⟩
theorem d_L_law_300 : At cL_law 300 (.iaload) 1 301 := ⟨by decide +kernel, rfl⟩
theorem d_L_law_301 : At cL_law 301 (.invokevirtual 41) 3 304 := ⟨by decide +kernel, rfl⟩
theorem d_L_law_304 : At cL_law 304 (.aload_n 2) 1 305 := ⟨by decide +kernel, rfl⟩
theorem d_L_law_305 : At cL_law 305 (.aload_n 0) 1 306 := ⟨by decide +kernel, rfl⟩
theorem d_L_law_306 : At cL_law 306 (.iload_n 3) 1 307 := ⟨by decide +kernel, rfl⟩
theorem d_L_law_307 : At cL_law 307 (.iconst 1) 1 308 := ⟨by decide +kernel, rfl⟩
theorem d_L_law_308 : At cL_law 308 (.iadd) 1 309 := ⟨by decide +kernel, rfl⟩
theorem d_L_law_309 : At cL_law 309 (.iaload) 1 310 := ⟨by decide +kernel, rfl⟩
theorem d_L_law_310 : At cL_law 310 (.aload_n 0) 1 311 := ⟨by decide +kernel, rfl⟩
theorem d_L_law_311 : At cL_law 311 (.iload_n 3) 1 312 := ⟨by decide +kernel, rfl⟩
theorem d_L_law_312 : At cL_law 312 (.iconst 2) 1 313 := ⟨by decide +kernel, rfl⟩
theorem d_L_law_313 : At cL_law 313 (.iadd) 1 314 := ⟨by decide +kernel, rfl⟩
theorem d_L_law_314 : At cL_law 314 (.iaload) 1 315 := ⟨by decide +kernel, rfl⟩
theorem d_L_law_315 : At cL_law 315 (.invokevirtual 45) 3 318 := ⟨by decide +kernel, rfl⟩
theorem d_L_law_318 : Br cL_law 318 (.if_icmp .eq 312) (312) 321 630 := ⟨by decide +kernel, rfl, rfl⟩
theorem d_L_law_321 : At cL_law 321 (.iconst 0) 1 322 := ⟨by decide +kernel, rfl⟩
theorem d_L_law_322 : Go cL_law 322 (.ireturn) 1 := (by decide +kernel : decode cL_law 322 = .ok (.ireturn, 1))
theorem d_L_law_323 : At cL_law 323 (.aload_n 1) 1 324 := ⟨by decide +kernel, rfl⟩
theorem d_L_law_324 : At cL_law 324 (.aload_n 0) 1 325 := ⟨by decide +kernel, rfl⟩
theorem d_L_law_325 : At cL_law 325 (.iload_n 3) 1 326 := ⟨by decide +kernel, rfl⟩
theorem d_L_law_326 : At cL_law 326 (.iconst 1) 1 327 := ⟨by decide +kernel, rfl⟩
theorem d_L_law_327 : At cL_law 327 (.iadd) 1 328 := ⟨by decide +kernel, rfl⟩
theorem d_L_law_328 : At cL_law 328 (.iaload) 1 329 := ⟨by decide +kernel, rfl⟩
theorem d_L_law_329 : At cL_law 329 (.invokevirtual 46) 3 332 := ⟨by decide +kernel, rfl⟩
theorem d_L_law_332 : At cL_law 332 (.aload_n 2) 1 333 := ⟨by decide +kernel, rfl⟩
theorem d_L_law_333 : At cL_law 333 (.aload_n 0) 1 334 := ⟨by decide +kernel, rfl⟩
theorem d_L_law_334 : At cL_law 334 (.iload_n 3) 1 335 := ⟨by decide +kernel, rfl⟩
theorem d_L_law_335 : At cL_law 335 (.iconst 1) 1 336 := ⟨by decide +kernel, rfl⟩
theorem d_L_law_336 : At cL_law 336 (.iadd) 1 337 := ⟨by decide +kernel, rfl⟩
theorem d_L_law_337 : At cL_law 337 (.iaload) 1 338 := ⟨by decide +kernel, rfl⟩
theorem d_L_law_338 : At cL_law 338 (.invokevirtual 49) 3 341 := ⟨by decide +kernel, rfl⟩
theorem d_L_law_341 : Br cL_law 341 (.if_icmp .eq 289) (289) 344 630 := ⟨by decide +kernel, rfl, rfl⟩
theorem d_L_law_344 : At cL_law 344 (.iconst 0) 1 345 := ⟨by decide +kernel, rfl⟩
theorem d_L_law_345 : Go cL_law 345 (.ireturn) 1 := (by decide +kernel : decode cL_law 345 = .ok (.ireturn, 1))
theorem d_L_law_346 : At cL_law 346 (.aload_n 1) 1 347 := ⟨by decide +kernel, rfl⟩
theorem d_L_law_347 : At cL_law 347 (.aload_n 0) 1 348 := ⟨by decide +kernel, rfl⟩
theorem d_L_law_348 : At cL_law 348 (.iload_n 3) 1 349 := ⟨by decide +kernel, rfl⟩
theorem d_L_law_349 : At cL_law 349 (.iconst 1) 1 350 := ⟨by decide +kernel, rfl⟩
theorem d_L_law_350 : At cL_law 350 (.iadd) 1 351 := ⟨by decide +kernel, rfl⟩
theorem d_L_law_351 : At cL_law 351 (.iaload) 1 352 := ⟨by decide +kernel, rfl⟩
theorem d_L_law_352 : At cL_law 352 (.aload_n 0) 1 353 := ⟨by decide +kernel, rfl⟩
theorem d_L_law_353 : At cL_law 353 (.iload_n 3) 1 354 := ⟨by decide +kernel, rfl⟩
theorem d_L_law_354 : At cL_law 354 (.iconst 2) 1 355 := ⟨by decide +kernel, rfl⟩
theorem d_L_law_355 : At cL_law 355 (.iadd) 1 356 := ⟨by decide +kernel, rfl⟩
theorem d_L_law_356 : At cL_law 356 (.iaload) 1 357 := ⟨by decide +kernel, rfl⟩
theorem d_L_law_357 : At cL_law 357 (.invokevirtual 50) 3 360 := ⟨by decide +kernel, rfl⟩
theorem d_L_law_360 : At cL_law 360 (.aload_n 2) 1 361 := ⟨by decide +kernel, rfl⟩
theorem d_L_law_361 : At cL_law 361 (.aload_n 0) 1 362 := ⟨by decide +kernel, rfl⟩
theorem d_L_law_362 : At cL_law 362 (.iload_n 3) 1 363 := ⟨by decide +kernel, rfl⟩
theorem d_L_law_363 : At cL_law 363 (.iconst 1) 1 364 := ⟨by decide +kernel, rfl⟩
theorem d_L_law_364 : At cL_law 364 (.iadd) 1 365 := ⟨by decide +kernel, rfl⟩
theorem d_L_law_365 : At cL_law 365 (.iaload) 1 366 := ⟨by decide +kernel, rfl⟩
theorem d_L_law_366 : At cL_law 366 (.aload_n 0) 1 367 := ⟨by decide +kernel, rfl⟩
theorem d_L_law_367 : At cL_law 367 (.iload_n 3) 1 368 := ⟨by decide +kernel, rfl⟩
theorem d_L_law_368 : At cL_law 368 (.iconst 2) 1 369 := ⟨by decide +kernel, rfl⟩
theorem d_L_law_369 : At cL_law 369 (.iadd) 1 370 := ⟨by decide +kernel, rfl⟩
theorem d_L_law_370 : At cL_law 370 (.iaload) 1 371 := ⟨by decide +kernel, rfl⟩
theorem d_L_law_371 : At cL_law 371 (.invokevirtual 53) 3 374 := ⟨by decide +kernel, rfl⟩
theorem d_L_law_374 : Br cL_law 374 (.if_icmp .eq 256) (256) 377 630 := ⟨by decide +kernel, rfl, rfl⟩
theorem d_L_law_377 : At cL_law 377 (.iconst 0) 1 378 := ⟨by decide +kernel, rfl⟩
theorem d_L_law_378 : Go cL_law 378 (.ireturn) 1 := (by decide +kernel : decode cL_law 378 = .ok (.ireturn, 1))
theorem d_L_law_379 : At cL_law 379 (.aload_n 1) 1 380 := ⟨by decide +kernel, rfl⟩
theorem d_L_law_380 : At cL_law 380 (.aload_n 0) 1 381 := ⟨by decide +kernel, rfl⟩
theorem d_L_law_381 : At cL_law 381 (.iload_n 3) 1 382 := ⟨by decide +kernel, rfl⟩
theorem d_L_law_382 : At cL_law 382 (.iconst 1) 1 383 := ⟨by decide +kernel, rfl⟩
theorem d_L_law_383 : At cL_law 383 (.iadd) 1 384 := ⟨by decide +kernel, rfl⟩
theorem d_L_law_384 : At cL_law 384 (.iaload) 1 385 := ⟨by decide +kernel, rfl⟩
theorem d_L_law_385 : At cL_law 385 (.aload_n 0) 1 386 := ⟨by decide +kernel, rfl⟩
theorem d_L_law_386 : At cL_law 386 (.iload_n 3) 1 387 := ⟨by decide +kernel, rfl⟩
theorem d_L_law_387 : At cL_law 387 (.iconst 2) 1 388 := ⟨by decide +kernel, rfl⟩
theorem d_L_law_388 : At cL_law 388 (.iadd) 1 389 := ⟨by decide +kernel, rfl⟩
theorem d_L_law_389 : At cL_law 389 (.iaload) 1 390 := ⟨by decide +kernel, rfl⟩
theorem d_L_law_390 : At cL_law 390 (.invokevirtual 54) 3 393 := ⟨by decide +kernel, rfl⟩
theorem d_L_law_393 : At cL_law 393 (.aload_n 2) 1 394 := ⟨by decide +kernel, rfl⟩
theorem d_L_law_394 : At cL_law 394 (.aload_n 0) 1 395 := ⟨by decide +kernel, rfl⟩
theorem d_L_law_395 : At cL_law 395 (.iload_n 3) 1 396 := ⟨by decide +kernel, rfl⟩
theorem d_L_law_396 : At cL_law 396 (.iconst 1) 1 397 := ⟨by decide +kernel, rfl⟩
theorem d_L_law_397 : At cL_law 397 (.iadd) 1 398 := ⟨by decide +kernel, rfl⟩
theorem d_L_law_398 : At cL_law 398 (.iaload) 1 399 := ⟨by decide +kernel, rfl⟩
theorem d_L_law_399 : At cL_law 399 (.aload_n 0) 1 400 := ⟨by decide +kernel, rfl⟩
theorem d_L_law_400 : At cL_law 400 (.iload_n 3) 1 401 := ⟨by decide +kernel, rfl⟩
theorem d_L_law_401 : At cL_law 401 (.iconst 2) 1 402 := ⟨by decide +kernel, rfl⟩
theorem d_L_law_402 : At cL_law 402 (.iadd) 1 403 := ⟨by decide +kernel, rfl⟩
theorem d_L_law_403 : At cL_law 403 (.iaload) 1 404 := ⟨by decide +kernel, rfl⟩
theorem d_L_law_404 : At cL_law 404 (.invokevirtual 57) 3 407 := ⟨by decide +kernel, rfl⟩
theorem d_L_law_407 : Br cL_law 407 (.if_icmp .eq 223) (223) 410 630 := ⟨by decide +kernel, rfl, rfl⟩
theorem d_L_law_410 : At cL_law 410 (.iconst 0) 1 411 := ⟨by decide +kernel, rfl⟩
theorem d_L_law_411 : Go cL_law 411 (.ireturn) 1 := (by decide +kernel : decode cL_law 411 = .ok (.ireturn, 1))
theorem d_L_law_412 : At cL_law 412 (.aload_n 1) 1 413 := ⟨by decide +kernel, rfl⟩
theorem d_L_law_413 : At cL_law 413 (.aload_n 0) 1 414 := ⟨by decide +kernel, rfl⟩
theorem d_L_law_414 : At cL_law 414 (.iload_n 3) 1 415 := ⟨by decide +kernel, rfl⟩
theorem d_L_law_415 : At cL_law 415 (.iconst 1) 1 416 := ⟨by decide +kernel, rfl⟩
theorem d_L_law_416 : At cL_law 416 (.iadd) 1 417 := ⟨by decide +kernel, rfl⟩
theorem d_L_law_417 : At cL_law 417 (.iaload) 1 418 := ⟨by decide +kernel, rfl⟩
theorem d_L_law_418 : At cL_law 418 (.aload_n 0) 1 419 := ⟨by decide +kernel, rfl⟩
theorem d_L_law_419 : At cL_law 419 (.iload_n 3) 1 420 := ⟨by decide +kernel, rfl⟩
theorem d_L_law_420 : At cL_law 420 (.iconst 2) 1 421 := ⟨by decide +kernel, rfl⟩
theorem d_L_law_421 : At cL_law 421 (.iadd) 1 422 := ⟨by decide +kernel, rfl⟩
theorem d_L_law_422 : At cL_law 422 (.iaload) 1 423 := ⟨by decide +kernel, rfl⟩
theorem d_L_law_423 : At cL_law 423 (.aload_n 0) 1 424 := ⟨by decide +kernel, rfl⟩
theorem d_L_law_424 : At cL_law 424 (.iload_n 3) 1 425 := ⟨by decide +kernel, rfl⟩
theorem d_L_law_425 : At cL_law 425 (.iconst 3) 1 426 := ⟨by decide +kernel, rfl⟩
theorem d_L_law_426 : At cL_law 426 (.iadd) 1 427 := ⟨by decide +kernel, rfl⟩
theorem d_L_law_427 : At cL_law 427 (.iaload) 1 428 := ⟨by decide +kernel, rfl⟩
theorem d_L_law_428 : At cL_law 428 (.invokevirtual 58) 3 431 := ⟨by decide +kernel, rfl⟩
theorem d_L_law_431 : At cL_law 431 (.aload_n 2) 1 432 := ⟨by decide +kernel, rfl⟩
theorem d_L_law_432 : At cL_law 432 (.aload_n 0) 1 433 := ⟨by decide +kernel, rfl⟩
theorem d_L_law_433 : At cL_law 433 (.iload_n 3) 1 434 := ⟨by decide +kernel, rfl⟩
theorem d_L_law_434 : At cL_law 434 (.iconst 1) 1 435 := ⟨by decide +kernel, rfl⟩
theorem d_L_law_435 : At cL_law 435 (.iadd) 1 436 := ⟨by decide +kernel, rfl⟩
theorem d_L_law_436 : At cL_law 436 (.iaload) 1 437 := ⟨by decide +kernel, rfl⟩
theorem d_L_law_437 : At cL_law 437 (.aload_n 0) 1 438 := ⟨by decide +kernel, rfl⟩
theorem d_L_law_438 : At cL_law 438 (.iload_n 3) 1 439 := ⟨by decide +kernel, rfl⟩
theorem d_L_law_439 : At cL_law 439 (.iconst 2) 1 440 := ⟨by decide +kernel, rfl⟩
theorem d_L_law_440 : At cL_law 440 (.iadd) 1 441 := ⟨by decide +kernel, rfl⟩
theorem d_L_law_441 : At cL_law 441 (.iaload) 1 442 := ⟨by decide +kernel, rfl⟩
theorem d_L_law_442 : At cL_law 442 (.aload_n 0) 1 443 := ⟨by decide +kernel, rfl⟩
theorem d_L_law_443 : At cL_law 443 (.iload_n 3) 1 444 := ⟨by decide +kernel, rfl⟩
theorem d_L_law_444 : At cL_law 444 (.iconst 3) 1 445 := ⟨by decide +kernel, rfl⟩
theorem d_L_law_445 : At cL_law 445 (.iadd) 1 446 := ⟨by decide +kernel, rfl⟩
theorem d_L_law_446 : At cL_law 446 (.iaload) 1 447 := ⟨by decide +kernel, rfl⟩
theorem d_L_law_447 : At cL_law 447 (.invokevirtual 61) 3 450 := ⟨by decide +kernel, rfl⟩
theorem d_L_law_450 : Br cL_law 450 (.if_icmp .eq 180) (180) 453 630 := ⟨by decide +kernel, rfl, rfl⟩
theorem d_L_law_453 : At cL_law 453 (.iconst 0) 1 454 := ⟨by decide +kernel, rfl⟩
theorem d_L_law_454 : Go cL_law 454 (.ireturn) 1 := (by decide +kernel : decode cL_law 454 = .ok (.ireturn, 1))
theorem d_L_law_455 : At cL_law 455 (.aload_n 1) 1 456 := ⟨by decide +kernel, rfl⟩
theorem d_L_law_456 : At cL_law 456 (.aload_n 0) 1 457 := ⟨by decide +kernel, rfl⟩
theorem d_L_law_457 : At cL_law 457 (.iload_n 3) 1 458 := ⟨by decide +kernel, rfl⟩
theorem d_L_law_458 : At cL_law 458 (.iconst 1) 1 459 := ⟨by decide +kernel, rfl⟩
theorem d_L_law_459 : At cL_law 459 (.iadd) 1 460 := ⟨by decide +kernel, rfl⟩
theorem d_L_law_460 : At cL_law 460 (.iaload) 1 461 := ⟨by decide +kernel, rfl⟩
theorem d_L_law_461 : At cL_law 461 (.aload_n 0) 1 462 := ⟨by decide +kernel, rfl⟩
theorem d_L_law_462 : At cL_law 462 (.iload_n 3) 1 463 := ⟨by decide +kernel, rfl⟩
theorem d_L_law_463 : At cL_law 463 (.iconst 2) 1 464 := ⟨by decide +kernel, rfl⟩
theorem d_L_law_464 : At cL_law 464 (.iadd) 1 465 := ⟨by decide +kernel, rfl⟩
theorem d_L_law_465 : At cL_law 465 (.iaload) 1 466 := ⟨by decide +kernel, rfl⟩
theorem d_L_law_466 : At cL_law 466 (.invokevirtual 62) 3 469 := ⟨by decide +kernel, rfl⟩
theorem d_L_law_469 : At cL_law 469 (.aload_n 2) 1 470 := ⟨by decide +kernel, rfl⟩
theorem d_L_law_470 : At cL_law 470 (.aload_n 0) 1 471 := ⟨by decide +kernel, rfl⟩
theorem d_L_law_471 : At cL_law 471 (.iload_n 3) 1 472 := ⟨by decide +kernel, rfl⟩
theorem d_L_law_472 : At cL_law 472 (.iconst 1) 1 473 := ⟨by decide +kernel, rfl⟩
theorem d_L_law_473 : At cL_law 473 (.iadd) 1 474 := ⟨by decide +kernel, rfl⟩
theorem d_L_law_474 : At cL_law 474 (.iaload) 1 475 := ⟨by decide +kernel, rfl⟩
theorem d_L_law_475 : At cL_law 475 (.aload_n 0) 1 476 := ⟨by decide +kernel, rfl⟩
theorem d_L_law_476 : At cL_law 476 (.iload_n 3) 1 477 := ⟨by decide +kernel, rfl⟩
theorem d_L_law_477 : At cL_law 477 (.iconst 2) 1 478 := ⟨by decide +kernel, rfl⟩
theorem d_L_law_478 : At cL_law 478 (.iadd) 1 479 := ⟨by decide +kernel, rfl⟩
theorem d_L_law_479 : At cL_law 479 (.iaload) 1 480 := ⟨by decide +kernel, rfl⟩
theorem d_L_law_480 : At cL_law 480 (.invokevirtual 65) 3 483 := ⟨by decide +kernel, rfl⟩
theorem d_L_law_483 : Br cL_law 483 (.if_icmp .eq 147) (147) 486 630 := ⟨by decide +kernel, rfl, rfl⟩
theorem d_L_law_486 : At cL_law 486 (.iconst 0) 1 487 := ⟨by decide +kernel, rfl⟩
theorem d_L_law_487 : Go cL_law 487 (.ireturn) 1 := (by decide +kernel : decode cL_law 487 = .ok (.ireturn, 1))
theorem d_L_law_488 : At cL_law 488 (.aload_n 1) 1 489 := ⟨by decide +kernel, rfl⟩
theorem d_L_law_489 : At cL_law 489 (.aload_n 0) 1 490 := ⟨by decide +kernel, rfl⟩
theorem d_L_law_490 : At cL_law 490 (.iload_n 3) 1 491 := ⟨by decide +kernel, rfl⟩
theorem d_L_law_491 : At cL_law 491 (.iconst 1) 1 492 := ⟨by decide +kernel, rfl⟩
theorem d_L_law_492 : At cL_law 492 (.iadd) 1 493 := ⟨by decide +kernel, rfl⟩
theorem d_L_law_493 : At cL_law 493 (.iaload) 1 494 := ⟨by decide +kernel, rfl⟩
theorem d_L_law_494 : At cL_law 494 (.aload_n 0) 1 495 := ⟨by decide +kernel, rfl⟩
theorem d_L_law_495 : At cL_law 495 (.iload_n 3) 1 496 := ⟨by decide +kernel, rfl⟩
theorem d_L_law_496 : At cL_law 496 (.iconst 2) 1 497 := ⟨by decide +kernel, rfl⟩
theorem d_L_law_497 : At cL_law 497 (.iadd) 1 498 := ⟨by decide +kernel, rfl⟩
theorem d_L_law_498 : At cL_law 498 (.iaload) 1 499 := ⟨by decide +kernel, rfl⟩
theorem d_L_law_499 : At cL_law 499 (.invokevirtual 66) 3 502 := ⟨by decide +kernel, rfl⟩
theorem d_L_law_502 : At cL_law 502 (.aload_n 2) 1 503 := ⟨by decide +kernel, rfl⟩
theorem d_L_law_503 : At cL_law 503 (.aload_n 0) 1 504 := ⟨by decide +kernel, rfl⟩
theorem d_L_law_504 : At cL_law 504 (.iload_n 3) 1 505 := ⟨by decide +kernel, rfl⟩
theorem d_L_law_505 : At cL_law 505 (.iconst 1) 1 506 := ⟨by decide +kernel, rfl⟩
theorem d_L_law_506 : At cL_law 506 (.iadd) 1 507 := ⟨by decide +kernel, rfl⟩
theorem d_L_law_507 : At cL_law 507 (.iaload) 1 508 := ⟨by decide +kernel, rfl⟩
theorem d_L_law_508 : At cL_law 508 (.aload_n 0) 1 509 := ⟨by decide +kernel, rfl⟩
theorem d_L_law_509 : At cL_law 509 (.iload_n 3) 1 510 := ⟨by decide +kernel, rfl⟩
theorem d_L_law_510 : At cL_law 510 (.iconst 2) 1 511 := ⟨by decide +kernel, rfl⟩
theorem d_L_law_511 : At cL_law 511 (.iadd) 1 512 := ⟨by decide +kernel, rfl⟩
theorem d_L_law_512 : At cL_law 512 (.iaload) 1 513 := ⟨by decide +kernel, rfl⟩
theorem d_L_law_513 : At cL_law 513 (.invokevirtual 69) 3 516 := ⟨by decide +kernel, rfl⟩
theorem d_L_law_516 : Br cL_law 516 (.if_icmp .eq 114) (114) 519 630 := ⟨by decide +kernel, rfl, rfl⟩
theorem d_L_law_519 : At cL_law 519 (.iconst 0) 1 520 := ⟨by decide +kernel, rfl⟩
theorem d_L_law_520 : Go cL_law 520 (.ireturn) 1 := (by decide +kernel : decode cL_law 520 = .ok (.ireturn, 1))
theorem d_L_law_521 : At cL_law 521 (.aload_n 1) 1 522 := ⟨by decide +kernel, rfl⟩
theorem d_L_law_522 : At cL_law 522 (.aload_n 0) 1 523 := ⟨by decide +kernel, rfl⟩
theorem d_L_law_523 : At cL_law 523 (.iload_n 3) 1 524 := ⟨by decide +kernel, rfl⟩
theorem d_L_law_524 : At cL_law 524 (.iconst 1) 1 525 := ⟨by decide +kernel, rfl⟩
theorem d_L_law_525 : At cL_law 525 (.iadd) 1 526 := ⟨by decide +kernel, rfl⟩
theorem d_L_law_526 : At cL_law 526 (.iaload) 1 527 := ⟨by decide +kernel, rfl⟩
theorem d_L_law_527 : At cL_law 527 (.aload_n 0) 1 528 := ⟨by decide +kernel, rfl⟩
theorem d_L_law_528 : At cL_law 528 (.iload_n 3) 1 529 := ⟨by decide +kernel, rfl⟩
theorem d_L_law_529 : At cL_law 529 (.iconst 2) 1 530 := ⟨by decide +kernel, rfl⟩
theorem d_L_law_530 : At cL_law 530 (.iadd) 1 531 := ⟨by decide +kernel, rfl⟩
theorem d_L_law_531 : At cL_law 531 (.iaload) 1 532 := ⟨by decide +kernel, rfl⟩
theorem d_L_law_532 : At cL_law 532 (.invokevirtual 70) 3 535 := ⟨by decide +kernel, rfl⟩
theorem d_L_law_535 : At cL_law 535 (.aload_n 2) 1 536 := ⟨by decide +kernel, rfl⟩
theorem d_L_law_536 : At cL_law 536 (.aload_n 0) 1 537 := ⟨by decide +kernel, rfl⟩
theorem d_L_law_537 : At cL_law 537 (.iload_n 3) 1 538 := ⟨by decide +kernel, rfl⟩
theorem d_L_law_538 : At cL_law 538 (.iconst 1) 1 539 := ⟨by decide +kernel, rfl⟩
theorem d_L_law_539 : At cL_law 539 (.iadd) 1 540 := ⟨by decide +kernel, rfl⟩
theorem d_L_law_540 : At cL_law 540 (.iaload) 1 541 := ⟨by decide +kernel, rfl⟩
theorem d_L_law_541 : At cL_law 541 (.aload_n 0) 1 542 := ⟨by decide +kernel, rfl⟩
theorem d_L_law_542 : At cL_law 542 (.iload_n 3) 1 543 := ⟨by decide +kernel, rfl⟩
theorem d_L_law_543 : At cL_law 543 (.iconst 2) 1 544 := ⟨by decide +kernel, rfl⟩
theorem d_L_law_544 : At cL_law 544 (.iadd) 1 545 := ⟨by decide +kernel, rfl⟩
theorem d_L_law_545 : At cL_law 545 (.iaload) 1 546 := ⟨by decide +kernel, rfl⟩
theorem d_L_law_546 : At cL_law 546 (.invokevirtual 73) 3 549 := ⟨by decide +kernel, rfl⟩
theorem d_L_law_549 : Br cL_law 549 (.if_icmp .eq 81) (81) 552 630 := ⟨by decide +kernel, rfl, rfl⟩
theorem d_L_law_552 : At cL_law 552 (.iconst 0) 1 553 := ⟨by decide +kernel, rfl⟩
theorem d_L_law_553 : Go cL_law 553 (.ireturn) 1 := (by decide +kernel : decode cL_law 553 = .ok (.ireturn, 1))
theorem d_L_law_554 : At cL_law 554 (.aload_n 1) 1 555 := ⟨by decide +kernel, rfl⟩
theorem d_L_law_555 : At cL_law 555 (.aload_n 0) 1 556 := ⟨by decide +kernel, rfl⟩
theorem d_L_law_556 : At cL_law 556 (.iload_n 3) 1 557 := ⟨by decide +kernel, rfl⟩
theorem d_L_law_557 : At cL_law 557 (.iconst 1) 1 558 := ⟨by decide +kernel, rfl⟩
theorem d_L_law_558 : At cL_law 558 (.iadd) 1 559 := ⟨by decide +kernel, rfl⟩
theorem d_L_law_559 : At cL_law 559 (.iaload) 1 560 := ⟨by decide +kernel, rfl⟩
theorem d_L_law_560 : At cL_law 560 (.aload_n 0) 1 561 := ⟨by decide +kernel, rfl⟩
theorem d_L_law_561 : At cL_law 561 (.iload_n 3) 1 562 := ⟨by decide +kernel, rfl⟩
theorem d_L_law_562 : At cL_law 562 (.iconst 2) 1 563 := ⟨by decide +kernel, rfl⟩
theorem d_L_law_563 : At cL_law 563 (.iadd) 1 564 := ⟨by decide +kernel, rfl⟩
theorem d_L_law_564 : At cL_law 564 (.iaload) 1 565 := ⟨by decide +kernel, rfl⟩
theorem d_L_law_565 : At cL_law 565 (.aload_n 0) 1 566 := ⟨by decide +kernel, rfl⟩
theorem d_L_law_566 : At cL_law 566 (.iload_n 3) 1 567 := ⟨by decide +kernel, rfl⟩
theorem d_L_law_567 : At cL_law 567 (.iconst 3) 1 568 := ⟨by decide +kernel, rfl⟩
theorem d_L_law_568 : At cL_law 568 (.iadd) 1 569 := ⟨by decide +kernel, rfl⟩
theorem d_L_law_569 : At cL_law 569 (.iaload) 1 570 := ⟨by decide +kernel, rfl⟩
theorem d_L_law_570 : At cL_law 570 (.aload_n 0) 1 571 := ⟨by decide +kernel, rfl⟩
theorem d_L_law_571 : At cL_law 571 (.iload_n 3) 1 572 := ⟨by decide +kernel, rfl⟩
theorem d_L_law_572 : At cL_law 572 (.iconst 4) 1 573 := ⟨by decide +kernel, rfl⟩
theorem d_L_law_573 : At cL_law 573 (.iadd) 1 574 := ⟨by decide +kernel, rfl⟩
theorem d_L_law_574 : At cL_law 574 (.iaload) 1 575 := ⟨by decide +kernel, rfl⟩
theorem d_L_law_575 : At cL_law 575 (.invokevirtual 74) 3 578 := ⟨by decide +kernel, rfl⟩
theorem d_L_law_578 : At cL_law 578 (.aload_n 2) 1 579 := ⟨by decide +kernel, rfl⟩
theorem d_L_law_579 : At cL_law 579 (.aload_n 0) 1 580 := ⟨by decide +kernel, rfl⟩
theorem d_L_law_580 : At cL_law 580 (.iload_n 3) 1 581 := ⟨by decide +kernel, rfl⟩
theorem d_L_law_581 : At cL_law 581 (.iconst 1) 1 582 := ⟨by decide +kernel, rfl⟩
theorem d_L_law_582 : At cL_law 582 (.iadd) 1 583 := ⟨by decide +kernel, rfl⟩
theorem d_L_law_583 : At cL_law 583 (.iaload) 1 584 := ⟨by decide +kernel, rfl⟩
theorem d_L_law_584 : At cL_law 584 (.aload_n 0) 1 585 := ⟨by decide +kernel, rfl⟩
theorem d_L_law_585 : At cL_law 585 (.iload_n 3) 1 586 := ⟨by decide +kernel, rfl⟩
theorem d_L_law_586 : At cL_law 586 (.iconst 2) 1 587 := ⟨by decide +kernel, rfl⟩
theorem d_L_law_587 : At cL_law 587 (.iadd) 1 588 := ⟨by decide +kernel, rfl⟩
theorem d_L_law_588 : At cL_law 588 (.iaload) 1 589 := ⟨by decide +kernel, rfl⟩
theorem d_L_law_589 : At cL_law 589 (.aload_n 0) 1 590 := ⟨by decide +kernel, rfl⟩
theorem d_L_law_590 : At cL_law 590 (.iload_n 3) 1 591 := ⟨by decide +kernel, rfl⟩
theorem d_L_law_591 : At cL_law 591 (.iconst 3) 1 592 := ⟨by decide +kernel, rfl⟩
theorem d_L_law_592 : At cL_law 592 (.iadd) 1 593 := ⟨by decide +kernel, rfl⟩
theorem d_L_law_593 : At cL_law 593 (.iaload) 1 594 := ⟨by decide +kernel, rfl⟩
theorem d_L_law_594 : At cL_law 594 (.aload_n 0) 1 595 := ⟨by decide +kernel, rfl⟩
theorem d_L_law_595 : At cL_law 595 (.iload_n 3) 1 596 := ⟨by decide +kernel, rfl⟩
theorem d_L_law_596 : At cL_law 596 (.iconst 4) 1 597 := ⟨by decide +kernel, rfl⟩
theorem d_L_law_597 : At cL_law 597 (.iadd) 1 598 := ⟨by decide +kernel, rfl⟩
theorem d_L_law_598 : At cL_law 598 (.iaload) 1 599 := ⟨by decide +kernel, rfl⟩
theorem d_L_law_599 : At cL_law 599 (.invokevirtual 77) 3 602 := ⟨by decide +kernel, rfl⟩
theorem d_L_law_602 : Br cL_law 602 (.if_icmp .eq 28) (28) 605 630 := ⟨by decide +kernel, rfl, rfl⟩
theorem d_L_law_605 : At cL_law 605 (.iconst 0) 1 606 := ⟨by decide +kernel, rfl⟩
theorem d_L_law_606 : Go cL_law 606 (.ireturn) 1 := (by decide +kernel : decode cL_law 606 = .ok (.ireturn, 1))
theorem d_L_law_607 : At cL_law 607 (.aload_n 1) 1 608 := ⟨by decide +kernel, rfl⟩
theorem d_L_law_608 : At cL_law 608 (.aload_n 0) 1 609 := ⟨by decide +kernel, rfl⟩
theorem d_L_law_609 : At cL_law 609 (.iload_n 3) 1 610 := ⟨by decide +kernel, rfl⟩
theorem d_L_law_610 : At cL_law 610 (.iconst 1) 1 611 := ⟨by decide +kernel, rfl⟩
theorem d_L_law_611 : At cL_law 611 (.iadd) 1 612 := ⟨by decide +kernel, rfl⟩
theorem d_L_law_612 : At cL_law 612 (.iaload) 1 613 := ⟨by decide +kernel, rfl⟩
theorem d_L_law_613 : At cL_law 613 (.invokevirtual 78) 3 616 := ⟨by decide +kernel, rfl⟩
theorem d_L_law_616 : At cL_law 616 (.aload_n 2) 1 617 := ⟨by decide +kernel, rfl⟩
theorem d_L_law_617 : At cL_law 617 (.aload_n 0) 1 618 := ⟨by decide +kernel, rfl⟩
theorem d_L_law_618 : At cL_law 618 (.iload_n 3) 1 619 := ⟨by decide +kernel, rfl⟩
theorem d_L_law_619 : At cL_law 619 (.iconst 1) 1 620 := ⟨by decide +kernel, rfl⟩
theorem d_L_law_620 : At cL_law 620 (.iadd) 1 621 := ⟨by decide +kernel, rfl⟩
theorem d_L_law_621 : At cL_law 621 (.iaload) 1 622 := ⟨by decide +kernel, rfl⟩
theorem d_L_law_622 : At cL_law 622 (.invokevirtual 81) 3 625 := ⟨by decide +kernel, rfl⟩
theorem d_L_law_625 : Br cL_law 625 (.if_icmp .eq 5) (5) 628 630 := ⟨by decide +kernel, rfl, rfl⟩
theorem d_L_law_628 : At cL_law 628 (.iconst 0) 1 629 := ⟨by decide +kernel, rfl⟩
theorem d_L_law_629 : Go cL_law 629 (.ireturn) 1 := (by decide +kernel : decode cL_law 629 = .ok (.ireturn, 1))
theorem d_L_law_630 : At cL_law 630 (.iinc 3 5) 3 633 := ⟨by decide +kernel, rfl⟩
theorem d_L_law_633 : Br cL_law 633 (.goto (-615)) (-615) 636 18 := ⟨by decide +kernel, rfl, rfl⟩
theorem d_L_law_636 : At cL_law 636 (.iconst 1) 1 637 := ⟨by decide +kernel, rfl⟩
theorem d_L_law_637 : Go cL_law 637 (.ireturn) 1 := (by decide +kernel : decode cL_law 637 = .ok (.ireturn, 1))
end
section
/-! words of the class, as numbers -/
theorem G_sub {X : Cx} {E : Ev} {nL : Nat} {q : Nat → Nat} {sh : List Shp} {σ : Sg} {ck cs : Nat} {Q : State → Prop} {pc : Nat} {lv lv' : List (Nat × Value)} {st : List Value} {ks : List Nat} (h : lv_pick lv ks = lv') (k : G X E nL q sh σ ck cs Q pc lv' st) : G X E nL q sh σ ck cs Q pc lv st :=
  fun hA H locs ls hP hS hl => k hA H locs ls hP hS (lv_sub hl ks h)
theorem G_eq {X : Cx} {E : Ev} {nL : Nat} {q : Nat → Nat} {sh : List Shp} {σ τ : Sg} {ck cs : Nat} {Q : State → Prop} {pc : Nat} {lv : List (Nat × Value)} {st : List Value} (h : σ = τ) (k : G X E nL q sh τ ck cs Q pc lv st) : G X E nL q sh σ ck cs Q pc lv st := h ▸ k
theorem G_top {X : Cx} {E : Ev} {nL : Nat} {q : Nat → Nat} {sh : List Shp} {σ : Sg} {ck cs : Nat} {Q : State → Prop} {pc : Nat} {lv : List (Nat × Value)} {st : List Value} {a b : Int} (h : a = b) (k : G X E nL q sh σ ck cs Q pc lv (vI b :: st)) : G X E nL q sh σ ck cs Q pc lv (vI a :: st) := h ▸ k
/-- how many ARGUMENTS a FUNCTION has, and all of them as bits -/
def nA (f : Int) : Int := if f = 0 then 1 else if f = 1 then 2 else if f = 2 then 3 else if f = 3 then 2 else 0
def aA (f : Int) : Int := if f = 0 then 1 else if f = 1 then 3 else if f = 2 then 7 else if f = 3 then 3 else 0
theorem four {f : Int} (h : 0 ≤ f ∧ f < 4) : f = 0 ∨ f = 1 ∨ f = 2 ∨ f = 3 := by omega
theorem stV_0 {f : Int} (h : 0 ≤ f ∧ f < 4) : stV 0 f = nA f := by rcases four h with rfl | rfl | rfl | rfl <;> rfl
theorem nA_in (f : Int) : 0 ≤ nA f ∧ nA f ≤ 3 := by unfold nA; split <;> (try split) <;> (try split) <;> (try split) <;> omega
theorem nA_pos {f : Int} (h : 0 ≤ f ∧ f < 4) : 1 ≤ nA f := by rcases four h with rfl | rfl | rfl | rfl <;> decide
theorem nA_out {f : Int} (h : ¬ (0 ≤ f ∧ f < 4)) : nA f = 0 := by
  unfold nA
  rw [if_neg (by omega), if_neg (by omega), if_neg (by omega), if_neg (by omega)]
theorem aA_eq (f : Int) : bShl 1 (nA f) - 1 = aA f := by
  by_cases h : 0 ≤ f ∧ f < 4
  · rcases four h with rfl | rfl | rfl | rfl <;> decide
  · rw [nA_out h]
    unfold aA
    rw [if_neg (by omega), if_neg (by omega), if_neg (by omega), if_neg (by omega)]
    decide
theorem aA_in (f : Int) : 0 ≤ aA f ∧ aA f ≤ 7 := by unfold aA; split <;> (try split) <;> (try split) <;> (try split) <;> omega
/-- what a sign is: 0 unfit, 1 number, 2 nothing, 3 argument, 4 act, 5 choice, 6 call; which one; how many texts -/
def kd (c : Int) : Int := if 48 ≤ c ∧ c ≤ 55 then 1 else if 120 ≤ c ∧ c ≤ 122 then 3 else if c = 33 then 2 else if c = 42 ∨ c = 43 ∨ c = 45 ∨ c = 109 then 4 else if c = 63 then 5 else if c = 102 ∨ c = 103 ∨ c = 104 ∨ c = 107 then 6 else 0
def wo (c : Int) : Int := if kd c = 1 then c - 48 else if kd c = 3 then c - 120 else if kd c = 6 then (if c = 107 then 3 else c - 102) else c
def tx (c : Int) : Int := if kd c = 4 then 2 else if kd c = 5 then 3 else if kd c = 6 then nA (wo c) else 0
theorem kd_in (c : Int) : 0 ≤ kd c ∧ kd c ≤ 6 := by unfold kd; split <;> (try split) <;> (try split) <;> (try split) <;> (try split) <;> (try split) <;> omega
theorem kd_1 {c : Int} : kd c = 1 ↔ 48 ≤ c ∧ c ≤ 55 := by unfold kd; split <;> (try split) <;> (try split) <;> (try split) <;> (try split) <;> (try split) <;> omega
theorem kd_2 {c : Int} : kd c = 2 ↔ c = 33 := by unfold kd; split <;> (try split) <;> (try split) <;> (try split) <;> (try split) <;> (try split) <;> omega
theorem kd_3 {c : Int} : kd c = 3 ↔ 120 ≤ c ∧ c ≤ 122 := by unfold kd; split <;> (try split) <;> (try split) <;> (try split) <;> (try split) <;> (try split) <;> omega
theorem kd_4 {c : Int} : kd c = 4 ↔ c = 42 ∨ c = 43 ∨ c = 45 ∨ c = 109 := by unfold kd; split <;> (try split) <;> (try split) <;> (try split) <;> (try split) <;> (try split) <;> omega
theorem kd_5 {c : Int} : kd c = 5 ↔ c = 63 := by unfold kd; split <;> (try split) <;> (try split) <;> (try split) <;> (try split) <;> (try split) <;> omega
theorem kd_6 {c : Int} : kd c = 6 ↔ c = 102 ∨ c = 103 ∨ c = 104 ∨ c = 107 := by unfold kd; split <;> (try split) <;> (try split) <;> (try split) <;> (try split) <;> (try split) <;> omega
theorem wo_1 {c : Int} (h : kd c = 1) : wo c = c - 48 := by simp [wo, h]
theorem wo_3 {c : Int} (h : kd c = 3) : wo c = c - 120 := by simp [wo, h]
theorem wo_6 {c : Int} (h : kd c = 6) : 0 ≤ wo c ∧ wo c < 4 := by
  have h2 := kd_6.mp h
  have e : wo c = if c = 107 then 3 else c - 102 := by simp [wo, h]
  rw [e]; split <;> omega
theorem tx_in (c : Int) : 0 ≤ tx c ∧ tx c ≤ 3 := by
  have h := nA_in (wo c)
  unfold tx; split <;> (try split) <;> (try split) <;> omega
end
section
set_option maxHeartbeats 1000000 in
theorem c_X8_isFunction (l : Launch) (E : Ev) (q : Nat → Nat) (sh : List Shp) (σ : Sg) (x : Int) (rx : rg x) : CI l E yX8_isFunction cX8_isFunction 1 .boolean ({ frames := 0, cells := 0, slots := 0, locals := 0 } : Room) q sh σ [vI x] (is (if 0 ≤ x ∧ x < 4 then 1 else 0) σ) := by
  have rx1 := rx.1
  have rx2 := rx.2
  refine CB_of (own := RX8) (by decide) rfl (Nat.le_of_ble_eq_true rfl) (fun X Q F hQ => ?_)
  show G X E 1 q sh σ 0 0 Q 0 [(0, vI x)] []
  refine g_iload_n F 0 rfl rfl d_X8_isFunction_0 ?_
  refine g_if_lt F d_X8_isFunction_1 ⟨by omega, by omega⟩ (fun h1 => ?_) (fun h1 => ?_)
  · refine g_iconst F d_X8_isFunction_13 ?_
    exact hQ d_X8_isFunction_14 (Or.inl rfl) (⟨by split <;> omega, rfl⟩)
  · refine g_iload_n F 0 rfl rfl d_X8_isFunction_4 ?_
    refine g_iconst F d_X8_isFunction_5 ?_
    refine g_icmp_ge F d_X8_isFunction_6 ⟨by omega, by omega⟩ ⟨by decide, by decide⟩ (fun h6 => ?_) (fun h6 => ?_)
    · refine g_iconst F d_X8_isFunction_13 ?_
      exact hQ d_X8_isFunction_14 (Or.inl rfl) (⟨by split <;> omega, rfl⟩)
    · refine g_iconst F d_X8_isFunction_9 ?_
      refine g_goto F d_X8_isFunction_10 ?_
      exact hQ d_X8_isFunction_14 (Or.inr rfl) (⟨by split <;> omega, rfl⟩)
set_option maxHeartbeats 1000000 in
theorem c_X8_isPlace (l : Launch) (E : Ev) (q : Nat → Nat) (sh : List Shp) (σ : Sg) (x : Int) (rx : rg x) : CI l E yX8_isPlace cX8_isPlace 1 .boolean ({ frames := 0, cells := 0, slots := 0, locals := 0 } : Room) q sh σ [vI x] (is (if 0 ≤ x ∧ x < 120 then 1 else 0) σ) := by
  have rx1 := rx.1
  have rx2 := rx.2
  refine CB_of (own := RX8) (by decide) rfl (Nat.le_of_ble_eq_true rfl) (fun X Q F hQ => ?_)
  show G X E 1 q sh σ 0 0 Q 0 [(0, vI x)] []
  refine g_iload_n F 0 rfl rfl d_X8_isPlace_0 ?_
  refine g_if_lt F d_X8_isPlace_1 ⟨by omega, by omega⟩ (fun h1 => ?_) (fun h1 => ?_)
  · refine g_iconst F d_X8_isPlace_14 ?_
    exact hQ d_X8_isPlace_15 (Or.inl rfl) (⟨by split <;> omega, rfl⟩)
  · refine g_iload_n F 0 rfl rfl d_X8_isPlace_4 ?_
    refine g_bipush F (by decide) d_X8_isPlace_5 ?_
    refine g_icmp_ge F d_X8_isPlace_7 ⟨by omega, by omega⟩ ⟨by decide, by decide⟩ (fun h7 => ?_) (fun h7 => ?_)
    · refine g_iconst F d_X8_isPlace_14 ?_
      exact hQ d_X8_isPlace_15 (Or.inl rfl) (⟨by split <;> omega, rfl⟩)
    · refine g_iconst F d_X8_isPlace_10 ?_
      refine g_goto F d_X8_isPlace_11 ?_
      exact hQ d_X8_isPlace_15 (Or.inr rfl) (⟨by split <;> omega, rfl⟩)
set_option maxHeartbeats 1000000 in
theorem c_X8_isWay (l : Launch) (E : Ev) (q : Nat → Nat) (sh : List Shp) (σ : Sg) (x : Int) (rx : rg x) : CI l E yX8_isWay cX8_isWay 1 .boolean ({ frames := 0, cells := 0, slots := 0, locals := 0 } : Room) q sh σ [vI x] (is (if 0 ≤ x ∧ x < 4 then 1 else 0) σ) := by
  have rx1 := rx.1
  have rx2 := rx.2
  refine CB_of (own := RX8) (by decide) rfl (Nat.le_of_ble_eq_true rfl) (fun X Q F hQ => ?_)
  show G X E 1 q sh σ 0 0 Q 0 [(0, vI x)] []
  refine g_iload_n F 0 rfl rfl d_X8_isWay_0 ?_
  refine g_if_lt F d_X8_isWay_1 ⟨by omega, by omega⟩ (fun h1 => ?_) (fun h1 => ?_)
  · refine g_iconst F d_X8_isWay_13 ?_
    exact hQ d_X8_isWay_14 (Or.inl rfl) (⟨by split <;> omega, rfl⟩)
  · refine g_iload_n F 0 rfl rfl d_X8_isWay_4 ?_
    refine g_iconst F d_X8_isWay_5 ?_
    refine g_icmp_ge F d_X8_isWay_6 ⟨by omega, by omega⟩ ⟨by decide, by decide⟩ (fun h6 => ?_) (fun h6 => ?_)
    · refine g_iconst F d_X8_isWay_13 ?_
      exact hQ d_X8_isWay_14 (Or.inl rfl) (⟨by split <;> omega, rfl⟩)
    · refine g_iconst F d_X8_isWay_9 ?_
      refine g_goto F d_X8_isWay_10 ?_
      exact hQ d_X8_isWay_14 (Or.inr rfl) (⟨by split <;> omega, rfl⟩)
set_option maxHeartbeats 1000000 in
theorem c_X8_asAnswer (l : Launch) (E : Ev) (q : Nat → Nat) (sh : List Shp) (σ : Sg) (x : Int) (hx : x = 0 ∨ x = 1) : CI l E yX8_asAnswer cX8_asAnswer 1 .int ({ frames := 0, cells := 0, slots := 0, locals := 0 } : Room) q sh σ [vI x] (is (x) σ) := by
  refine CI_of (own := RX8) (by decide) rfl (Nat.le_of_ble_eq_true rfl) (fun X Q F hQ => ?_)
  show G X E 1 q sh σ 0 0 Q 0 [(0, vI x)] []
  refine g_iload_n F 0 rfl rfl d_X8_asAnswer_0 ?_
  refine g_if_eq F d_X8_asAnswer_1 ⟨by omega, by omega⟩ (fun h1 => ?_) (fun h1 => ?_)
  · refine g_iconst F d_X8_asAnswer_8 ?_
    exact hQ d_X8_asAnswer_9 (⟨by omega, rfl⟩)
  · refine g_iconst F d_X8_asAnswer_4 ?_
    refine g_goto F d_X8_asAnswer_5 ?_
    exact hQ d_X8_asAnswer_9 (⟨by omega, rfl⟩)
set_option maxHeartbeats 1000000 in
theorem c_X8_argumentsOf (l : Launch) (E : Ev) (q : Nat → Nat) (sh : List Shp) (σ : Sg) (x : Int) (rx : rg x) : CI l E yX8_argumentsOf cX8_argumentsOf 1 .int ({ frames := 1, cells := 0, slots := 0, locals := 20 } : Room) q sh σ [vI x] (is (nA x) σ) := by
  have rx1 := rx.1
  have rx2 := rx.2
  refine CI_of (own := RX8) (by decide) rfl (Nat.le_of_ble_eq_true rfl) (fun X Q F hQ => ?_)
  show G X E 1 q sh σ 0 0 Q 0 [(0, vI x)] []
  refine g_iload_n F 0 rfl rfl d_X8_argumentsOf_0 ?_
  refine g_Si F (own := RX8) (c_X8_isFunction l E q sh σ x ⟨by omega, by omega⟩) k_X8_75 [] d_X8_argumentsOf_1 ⟨rfl, rfl, by decide, by decide⟩ ⟨Nat.zero_le _, Nat.zero_le _⟩ rfl (Nat.le_of_ble_eq_true rfl) ?_
  rintro _ _ ⟨rfl, rfl⟩
  refine g_b_eq F d_X8_argumentsOf_4 (fun h4 => ?_) (fun h4 => ?_)
  · refine g_iconst F d_X8_argumentsOf_15 ?_
    exact hQ d_X8_argumentsOf_16 (⟨by first | exact (stV_0 (by assumption)).symm | exact nA_out (by assumption), rfl⟩)
  · refine g_gets F 0 (by decide) rfl (mg 150 (by decide +kernel) rfl) d_X8_argumentsOf_7 ?_
    refine g_iload_n F 0 rfl rfl d_X8_argumentsOf_10 ?_
    refine g_sald F 0 (by decide) (by omega) (by show _ < (4 : Int); omega) d_X8_argumentsOf_11 ?_
    refine g_goto F d_X8_argumentsOf_12 ?_
    exact hQ d_X8_argumentsOf_16 (⟨by first | exact (stV_0 (by assumption)).symm | exact nA_out (by assumption), rfl⟩)
set_option maxHeartbeats 1000000 in
theorem c_X8_hasArgument (l : Launch) (E : Ev) (q : Nat → Nat) (sh : List Shp) (σ : Sg) (x y : Int) (rx : rg x) (ry : rg y) : CI l E yX8_hasArgument cX8_hasArgument 2 .boolean ({ frames := 1, cells := 0, slots := 0, locals := 20 } : Room) q sh σ [vI x, vI y] (is (if (0 ≤ x ∧ x < 4) ∧ 0 ≤ y ∧ y < nA x then 1 else 0) σ) := by
  have rx1 := rx.1
  have rx2 := rx.2
  have ry1 := ry.1
  have ry2 := ry.2
  have hn := nA_in x
  refine CB_of (own := RX8) (by decide) rfl (Nat.le_of_ble_eq_true rfl) (fun X Q F hQ => ?_)
  show G X E 2 q sh σ 0 0 Q 0 [(0, vI x), (1, vI y)] []
  refine g_iload_n F 0 rfl rfl d_X8_hasArgument_0 ?_
  refine g_Si F (own := RX8) (c_X8_isFunction l E q sh σ x ⟨by omega, by omega⟩) k_X8_75 [] d_X8_hasArgument_1 ⟨rfl, rfl, by decide, by decide⟩ ⟨Nat.zero_le _, Nat.zero_le _⟩ rfl (Nat.le_of_ble_eq_true rfl) ?_
  rintro _ _ ⟨rfl, rfl⟩
  refine g_b_eq F d_X8_hasArgument_4 (fun h4 => ?_) (fun h4 => ?_)
  · refine g_iconst F d_X8_hasArgument_24 ?_
    exact hQ d_X8_hasArgument_25 (Or.inl rfl) (⟨by first | (rw [if_neg (by omega)]; done) | (rw [if_pos (by omega)]; done), rfl⟩)
  · refine g_iload_n F 1 rfl rfl d_X8_hasArgument_7 ?_
    refine g_if_lt F d_X8_hasArgument_8 ⟨by omega, by omega⟩ (fun h8 => ?_) (fun h8 => ?_)
    · refine g_iconst F d_X8_hasArgument_24 ?_
      exact hQ d_X8_hasArgument_25 (Or.inl rfl) (⟨by first | (rw [if_neg (by omega)]; done) | (rw [if_pos (by omega)]; done), rfl⟩)
    · refine g_iload_n F 1 rfl rfl d_X8_hasArgument_11 ?_
      refine g_gets F 0 (by decide) rfl (mg 150 (by decide +kernel) rfl) d_X8_hasArgument_12 ?_
      refine g_iload_n F 0 rfl rfl d_X8_hasArgument_15 ?_
      refine g_sald F 0 (by decide) (by omega) (by show _ < (4 : Int); omega) d_X8_hasArgument_16 ?_
      refine G_top (b := nA x) (stV_0 h4) ?_
      refine g_icmp_ge F d_X8_hasArgument_17 ⟨by omega, by omega⟩ ⟨by omega, by omega⟩ (fun h17 => ?_) (fun h17 => ?_)
      · refine g_iconst F d_X8_hasArgument_24 ?_
        exact hQ d_X8_hasArgument_25 (Or.inl rfl) (⟨by first | (rw [if_neg (by omega)]; done) | (rw [if_pos (by omega)]; done), rfl⟩)
      · refine g_iconst F d_X8_hasArgument_20 ?_
        refine g_goto F d_X8_hasArgument_21 ?_
        exact hQ d_X8_hasArgument_25 (Or.inr rfl) (⟨by first | (rw [if_neg (by omega)]; done) | (rw [if_pos (by omega)]; done), rfl⟩)
set_option maxHeartbeats 1000000 in
theorem c_X8_allArguments (l : Launch) (E : Ev) (q : Nat → Nat) (sh : List Shp) (σ : Sg) (x : Int) (rx : rg x) : CI l E yX8_allArguments cX8_allArguments 1 .int ({ frames := 2, cells := 0, slots := 0, locals := 40 } : Room) q sh σ [vI x] (is (aA x) σ) := by
  have rx1 := rx.1
  have rx2 := rx.2
  refine CI_of (own := RX8) (by decide) rfl (Nat.le_of_ble_eq_true rfl) (fun X Q F hQ => ?_)
  show G X E 1 q sh σ 0 0 Q 0 [(0, vI x)] []
  refine g_iconst F d_X8_allArguments_0 ?_
  refine g_iload_n F 0 rfl rfl d_X8_allArguments_1 ?_
  refine g_Si F (own := RX8) (c_X8_argumentsOf l E q sh σ x ⟨by omega, by omega⟩) k_X8_168 [vI 1] d_X8_allArguments_2 ⟨rfl, rfl, by decide, by decide⟩ ⟨Nat.zero_le _, Nat.zero_le _⟩ rfl (Nat.le_of_ble_eq_true rfl) ?_
  rintro _ _ ⟨rfl, rfl⟩
  refine g_ishl F d_X8_allArguments_5 ?_
  refine g_iconst F d_X8_allArguments_6 ?_
  refine g_isub F d_X8_allArguments_7 ?_
  exact hQ d_X8_allArguments_8 (⟨(aA_eq x).symm, rfl⟩)
set_option maxHeartbeats 1000000 in
theorem c_X8_shiftOf (l : Launch) (E : Ev) (q : Nat → Nat) (sh : List Shp) (σ : Sg) (x y : Int) (rx : rg x) (ry : rg y) : CI l E yX8_shiftOf cX8_shiftOf 2 .int ({ frames := 2, cells := 0, slots := 0, locals := 40 } : Room) q sh σ [vI x, vI y] (is (3 * (nA x - 1 - y)) σ) := by
  have rx1 := rx.1
  have rx2 := rx.2
  have ry1 := ry.1
  have ry2 := ry.2
  refine CI_of (own := RX8) (by decide) rfl (Nat.le_of_ble_eq_true rfl) (fun X Q F hQ => ?_)
  show G X E 2 q sh σ 0 0 Q 0 [(0, vI x), (1, vI y)] []
  refine g_iconst F d_X8_shiftOf_0 ?_
  refine g_iload_n F 0 rfl rfl d_X8_shiftOf_1 ?_
  refine g_Si F (own := RX8) (c_X8_argumentsOf l E q sh σ x ⟨by omega, by omega⟩) k_X8_168 [vI 3] d_X8_shiftOf_2 ⟨rfl, rfl, by decide, by decide⟩ ⟨Nat.zero_le _, Nat.zero_le _⟩ rfl (Nat.le_of_ble_eq_true rfl) ?_
  rintro _ _ ⟨rfl, rfl⟩
  refine g_iconst F d_X8_shiftOf_5 ?_
  refine g_isub F d_X8_shiftOf_6 ?_
  refine g_iload_n F 1 rfl rfl d_X8_shiftOf_7 ?_
  refine g_isub F d_X8_shiftOf_8 ?_
  refine g_imul F d_X8_shiftOf_9 ?_
  exact hQ d_X8_shiftOf_10 (⟨by first | rfl | omega | (simp only [*]; done) | (simp [*]; done) | (split <;> omega), rfl⟩)
set_option maxHeartbeats 1000000 in
theorem c_X8_sortOfEnd (l : Launch) (E : Ev) (q : Nat → Nat) (sh : List Shp) (σ : Sg) (x : Int) (rx : rg x) : CI l E yX8_sortOfEnd cX8_sortOfEnd 1 .int ({ frames := 0, cells := 0, slots := 0, locals := 0 } : Room) q sh σ [vI x] (is (if x < 8 then 0 else x - 7) σ) := by
  have rx1 := rx.1
  have rx2 := rx.2
  refine CI_of (own := RX8) (by decide) rfl (Nat.le_of_ble_eq_true rfl) (fun X Q F hQ => ?_)
  show G X E 1 q sh σ 0 0 Q 0 [(0, vI x)] []
  refine g_iload_n F 0 rfl rfl d_X8_sortOfEnd_0 ?_
  refine g_bipush F (by decide) d_X8_sortOfEnd_1 ?_
  refine g_icmp_ge F d_X8_sortOfEnd_3 ⟨by omega, by omega⟩ ⟨by decide, by decide⟩ (fun h3 => ?_) (fun h3 => ?_)
  · refine g_iload_n F 0 rfl rfl d_X8_sortOfEnd_10 ?_
    refine g_bipush F (by decide) d_X8_sortOfEnd_11 ?_
    refine g_isub F d_X8_sortOfEnd_13 ?_
    refine g_iconst F d_X8_sortOfEnd_14 ?_
    refine g_iadd F d_X8_sortOfEnd_15 ?_
    exact hQ d_X8_sortOfEnd_16 (⟨by split <;> omega, rfl⟩)
  · refine g_iconst F d_X8_sortOfEnd_6 ?_
    refine g_goto F d_X8_sortOfEnd_7 ?_
    exact hQ d_X8_sortOfEnd_16 (⟨by split <;> omega, rfl⟩)
end
section
theorem kd_0 {x : Int} (h1 : ¬ (48 ≤ x ∧ x ≤ 55)) (h2 : ¬ (120 ≤ x ∧ x ≤ 122)) (h3 : x ≠ 33 ∧ x ≠ 42 ∧ x ≠ 43 ∧ x ≠ 45 ∧ x ≠ 63 ∧ x ≠ 102 ∧ x ≠ 103 ∧ x ≠ 104 ∧ x ≠ 107 ∧ x ≠ 109) : kd x = 0 := by
  unfold kd
  rw [if_neg h1, if_neg h2, if_neg (by omega), if_neg (by omega), if_neg (by omega), if_neg (by omega)]
/-- over so many texts: the place behind -/
def hop (Z : Int → Int) (a : Int) : Nat → Int
  | 0 => a
  | k + 1 => hop Z a k + Z (hop Z a k)
/-- where the text number t of the text at p begins -/
def tp (Z : Int → Int) (p t : Int) : Int := hop Z (p + 1) t.toNat
theorem tp_0 (Z : Int → Int) (p : Int) : tp Z p 0 = p + 1 := rfl
theorem tp_1 (Z : Int → Int) (p : Int) : tp Z p 1 = p + 1 + Z (p + 1) := rfl
theorem tp_2 (Z : Int → Int) (p : Int) : tp Z p 2 = p + 1 + Z (p + 1) + Z (p + 1 + Z (p + 1)) := rfl
theorem tp_succ (Z : Int → Int) (p t : Int) (h : 0 ≤ t) : tp Z p (t + 1) = tp Z p t + Z (tp Z p t) := by
  unfold tp
  rw [show (t + 1).toNat = t.toNat + 1 by omega]
  rfl
set_option maxHeartbeats 1000000 in
theorem c_X6_kindOf (l : Launch) (E : Ev) (q : Nat → Nat) (sh : List Shp) (σ : Sg) (x : Int) (rx : rg x) : CI l E yX6_kindOf cX6_kindOf 1 .int ({ frames := 0, cells := 0, slots := 0, locals := 0 } : Room) q sh σ [vI x] (is (kd x) σ) := by
  have rx1 := rx.1
  have rx2 := rx.2
  refine CI_of (own := RX6) (by decide) rfl (Nat.le_of_ble_eq_true rfl) (fun X Q F hQ => ?_)
  show G X E 1 q sh σ 0 0 Q 0 [(0, vI x)] []
  refine g_iload_n F 0 rfl rfl d_X6_kindOf_0 ?_
  refine g_bipush F (by decide) d_X6_kindOf_1 ?_
  refine g_icmp_lt F d_X6_kindOf_3 ⟨by omega, by omega⟩ ⟨by decide, by decide⟩ (fun h3 => ?_) (fun h3 => ?_)
  · refine g_iload_n F 0 rfl rfl d_X6_kindOf_14 ?_
    refine g_bipush F (by decide) d_X6_kindOf_15 ?_
    refine g_icmp_lt F d_X6_kindOf_17 ⟨by omega, by omega⟩ ⟨by decide, by decide⟩ (fun h17 => ?_) (fun h17 => ?_)
    · refine g_iload_n F 0 rfl rfl d_X6_kindOf_28 ?_
      have hc : x = 33 ∨ x = 42 ∨ x = 43 ∨ x = 45 ∨ x = 63 ∨ x = 102 ∨ x = 103 ∨ x = 104 ∨ x = 107 ∨ x = 109 ∨ (x ≠ 33 ∧ x ≠ 42 ∧ x ≠ 43 ∧ x ≠ 45 ∧ x ≠ 63 ∧ x ≠ 102 ∧ x ≠ 103 ∧ x ≠ 104 ∧ x ≠ 107 ∧ x ≠ 109) := by omega
      rcases hc with hc | hc | hc | hc | hc | hc | hc | hc | hc | hc | hc
      · refine g_look F d_X6_kindOf_29 ⟨by omega, by omega⟩ (off := 91) (tgt := 120) (by decide) (by rw [hc]; decide) rfl ?_
        refine g_iconst F d_X6_kindOf_120 ?_
        exact hQ d_X6_kindOf_121 (⟨kd_2.mpr hc, rfl⟩)
      · refine g_look F d_X6_kindOf_29 ⟨by omega, by omega⟩ (off := 93) (tgt := 122) (by decide) (by rw [hc]; decide) rfl ?_
        refine g_iconst F d_X6_kindOf_122 ?_
        exact hQ d_X6_kindOf_123 (⟨kd_4.mpr (by omega), rfl⟩)
      · refine g_look F d_X6_kindOf_29 ⟨by omega, by omega⟩ (off := 93) (tgt := 122) (by decide) (by rw [hc]; decide) rfl ?_
        refine g_iconst F d_X6_kindOf_122 ?_
        exact hQ d_X6_kindOf_123 (⟨kd_4.mpr (by omega), rfl⟩)
      · refine g_look F d_X6_kindOf_29 ⟨by omega, by omega⟩ (off := 93) (tgt := 122) (by decide) (by rw [hc]; decide) rfl ?_
        refine g_iconst F d_X6_kindOf_122 ?_
        exact hQ d_X6_kindOf_123 (⟨kd_4.mpr (by omega), rfl⟩)
      · refine g_look F d_X6_kindOf_29 ⟨by omega, by omega⟩ (off := 95) (tgt := 124) (by decide) (by rw [hc]; decide) rfl ?_
        refine g_iconst F d_X6_kindOf_124 ?_
        exact hQ d_X6_kindOf_125 (⟨kd_5.mpr hc, rfl⟩)
      · refine g_look F d_X6_kindOf_29 ⟨by omega, by omega⟩ (off := 97) (tgt := 126) (by decide) (by rw [hc]; decide) rfl ?_
        refine g_bipush F (by decide) d_X6_kindOf_126 ?_
        exact hQ d_X6_kindOf_128 (⟨kd_6.mpr (by omega), rfl⟩)
      · refine g_look F d_X6_kindOf_29 ⟨by omega, by omega⟩ (off := 97) (tgt := 126) (by decide) (by rw [hc]; decide) rfl ?_
        refine g_bipush F (by decide) d_X6_kindOf_126 ?_
        exact hQ d_X6_kindOf_128 (⟨kd_6.mpr (by omega), rfl⟩)
      · refine g_look F d_X6_kindOf_29 ⟨by omega, by omega⟩ (off := 97) (tgt := 126) (by decide) (by rw [hc]; decide) rfl ?_
        refine g_bipush F (by decide) d_X6_kindOf_126 ?_
        exact hQ d_X6_kindOf_128 (⟨kd_6.mpr (by omega), rfl⟩)
      · refine g_look F d_X6_kindOf_29 ⟨by omega, by omega⟩ (off := 97) (tgt := 126) (by decide) (by rw [hc]; decide) rfl ?_
        refine g_bipush F (by decide) d_X6_kindOf_126 ?_
        exact hQ d_X6_kindOf_128 (⟨kd_6.mpr (by omega), rfl⟩)
      · refine g_look F d_X6_kindOf_29 ⟨by omega, by omega⟩ (off := 93) (tgt := 122) (by decide) (by rw [hc]; decide) rfl ?_
        refine g_iconst F d_X6_kindOf_122 ?_
        exact hQ d_X6_kindOf_123 (⟨kd_4.mpr (by omega), rfl⟩)
      · refine g_look F d_X6_kindOf_29 ⟨by omega, by omega⟩ (off := 100) (tgt := 129) (by decide) (by show Op.lookupswitch.offset [(33, 91), (42, 93), (43, 93), (45, 93), (63, 95), (102, 97), (103, 97), (104, 97), (107, 97), (109, 93)] 100 x = 100; (repeat (rw [Op.lookupswitch.offset_cons, if_neg (by omega)])); rfl) rfl ?_
        refine g_iconst F d_X6_kindOf_129 ?_
        exact hQ d_X6_kindOf_130 (⟨kd_0 (by omega) (by omega) hc, rfl⟩)
    · refine g_iload_n F 0 rfl rfl d_X6_kindOf_20 ?_
      refine g_bipush F (by decide) d_X6_kindOf_21 ?_
      refine g_icmp_gt F d_X6_kindOf_23 ⟨by omega, by omega⟩ ⟨by decide, by decide⟩ (fun h23 => ?_) (fun h23 => ?_)
      · refine g_iload_n F 0 rfl rfl d_X6_kindOf_28 ?_
        have hc : x = 33 ∨ x = 42 ∨ x = 43 ∨ x = 45 ∨ x = 63 ∨ x = 102 ∨ x = 103 ∨ x = 104 ∨ x = 107 ∨ x = 109 ∨ (x ≠ 33 ∧ x ≠ 42 ∧ x ≠ 43 ∧ x ≠ 45 ∧ x ≠ 63 ∧ x ≠ 102 ∧ x ≠ 103 ∧ x ≠ 104 ∧ x ≠ 107 ∧ x ≠ 109) := by omega
        rcases hc with hc | hc | hc | hc | hc | hc | hc | hc | hc | hc | hc
        · refine g_look F d_X6_kindOf_29 ⟨by omega, by omega⟩ (off := 91) (tgt := 120) (by decide) (by rw [hc]; decide) rfl ?_
          refine g_iconst F d_X6_kindOf_120 ?_
          exact hQ d_X6_kindOf_121 (⟨kd_2.mpr hc, rfl⟩)
        · refine g_look F d_X6_kindOf_29 ⟨by omega, by omega⟩ (off := 93) (tgt := 122) (by decide) (by rw [hc]; decide) rfl ?_
          refine g_iconst F d_X6_kindOf_122 ?_
          exact hQ d_X6_kindOf_123 (⟨kd_4.mpr (by omega), rfl⟩)
        · refine g_look F d_X6_kindOf_29 ⟨by omega, by omega⟩ (off := 93) (tgt := 122) (by decide) (by rw [hc]; decide) rfl ?_
          refine g_iconst F d_X6_kindOf_122 ?_
          exact hQ d_X6_kindOf_123 (⟨kd_4.mpr (by omega), rfl⟩)
        · refine g_look F d_X6_kindOf_29 ⟨by omega, by omega⟩ (off := 93) (tgt := 122) (by decide) (by rw [hc]; decide) rfl ?_
          refine g_iconst F d_X6_kindOf_122 ?_
          exact hQ d_X6_kindOf_123 (⟨kd_4.mpr (by omega), rfl⟩)
        · refine g_look F d_X6_kindOf_29 ⟨by omega, by omega⟩ (off := 95) (tgt := 124) (by decide) (by rw [hc]; decide) rfl ?_
          refine g_iconst F d_X6_kindOf_124 ?_
          exact hQ d_X6_kindOf_125 (⟨kd_5.mpr hc, rfl⟩)
        · refine g_look F d_X6_kindOf_29 ⟨by omega, by omega⟩ (off := 97) (tgt := 126) (by decide) (by rw [hc]; decide) rfl ?_
          refine g_bipush F (by decide) d_X6_kindOf_126 ?_
          exact hQ d_X6_kindOf_128 (⟨kd_6.mpr (by omega), rfl⟩)
        · refine g_look F d_X6_kindOf_29 ⟨by omega, by omega⟩ (off := 97) (tgt := 126) (by decide) (by rw [hc]; decide) rfl ?_
          refine g_bipush F (by decide) d_X6_kindOf_126 ?_
          exact hQ d_X6_kindOf_128 (⟨kd_6.mpr (by omega), rfl⟩)
        · refine g_look F d_X6_kindOf_29 ⟨by omega, by omega⟩ (off := 97) (tgt := 126) (by decide) (by rw [hc]; decide) rfl ?_
          refine g_bipush F (by decide) d_X6_kindOf_126 ?_
          exact hQ d_X6_kindOf_128 (⟨kd_6.mpr (by omega), rfl⟩)
        · refine g_look F d_X6_kindOf_29 ⟨by omega, by omega⟩ (off := 97) (tgt := 126) (by decide) (by rw [hc]; decide) rfl ?_
          refine g_bipush F (by decide) d_X6_kindOf_126 ?_
          exact hQ d_X6_kindOf_128 (⟨kd_6.mpr (by omega), rfl⟩)
        · refine g_look F d_X6_kindOf_29 ⟨by omega, by omega⟩ (off := 93) (tgt := 122) (by decide) (by rw [hc]; decide) rfl ?_
          refine g_iconst F d_X6_kindOf_122 ?_
          exact hQ d_X6_kindOf_123 (⟨kd_4.mpr (by omega), rfl⟩)
        · refine g_look F d_X6_kindOf_29 ⟨by omega, by omega⟩ (off := 100) (tgt := 129) (by decide) (by show Op.lookupswitch.offset [(33, 91), (42, 93), (43, 93), (45, 93), (63, 95), (102, 97), (103, 97), (104, 97), (107, 97), (109, 93)] 100 x = 100; (repeat (rw [Op.lookupswitch.offset_cons, if_neg (by omega)])); rfl) rfl ?_
          refine g_iconst F d_X6_kindOf_129 ?_
          exact hQ d_X6_kindOf_130 (⟨kd_0 (by omega) (by omega) hc, rfl⟩)
      · refine g_iconst F d_X6_kindOf_26 ?_
        exact hQ d_X6_kindOf_27 (⟨kd_3.mpr (by omega), rfl⟩)
  · refine g_iload_n F 0 rfl rfl d_X6_kindOf_6 ?_
    refine g_bipush F (by decide) d_X6_kindOf_7 ?_
    refine g_icmp_gt F d_X6_kindOf_9 ⟨by omega, by omega⟩ ⟨by decide, by decide⟩ (fun h9 => ?_) (fun h9 => ?_)
    · refine g_iload_n F 0 rfl rfl d_X6_kindOf_14 ?_
      refine g_bipush F (by decide) d_X6_kindOf_15 ?_
      refine g_icmp_lt F d_X6_kindOf_17 ⟨by omega, by omega⟩ ⟨by decide, by decide⟩ (fun h17 => ?_) (fun h17 => ?_)
      · refine g_iload_n F 0 rfl rfl d_X6_kindOf_28 ?_
        have hc : x = 33 ∨ x = 42 ∨ x = 43 ∨ x = 45 ∨ x = 63 ∨ x = 102 ∨ x = 103 ∨ x = 104 ∨ x = 107 ∨ x = 109 ∨ (x ≠ 33 ∧ x ≠ 42 ∧ x ≠ 43 ∧ x ≠ 45 ∧ x ≠ 63 ∧ x ≠ 102 ∧ x ≠ 103 ∧ x ≠ 104 ∧ x ≠ 107 ∧ x ≠ 109) := by omega
        rcases hc with hc | hc | hc | hc | hc | hc | hc | hc | hc | hc | hc
        · refine g_look F d_X6_kindOf_29 ⟨by omega, by omega⟩ (off := 91) (tgt := 120) (by decide) (by rw [hc]; decide) rfl ?_
          refine g_iconst F d_X6_kindOf_120 ?_
          exact hQ d_X6_kindOf_121 (⟨kd_2.mpr hc, rfl⟩)
        · refine g_look F d_X6_kindOf_29 ⟨by omega, by omega⟩ (off := 93) (tgt := 122) (by decide) (by rw [hc]; decide) rfl ?_
          refine g_iconst F d_X6_kindOf_122 ?_
          exact hQ d_X6_kindOf_123 (⟨kd_4.mpr (by omega), rfl⟩)
        · refine g_look F d_X6_kindOf_29 ⟨by omega, by omega⟩ (off := 93) (tgt := 122) (by decide) (by rw [hc]; decide) rfl ?_
          refine g_iconst F d_X6_kindOf_122 ?_
          exact hQ d_X6_kindOf_123 (⟨kd_4.mpr (by omega), rfl⟩)
        · refine g_look F d_X6_kindOf_29 ⟨by omega, by omega⟩ (off := 93) (tgt := 122) (by decide) (by rw [hc]; decide) rfl ?_
          refine g_iconst F d_X6_kindOf_122 ?_
          exact hQ d_X6_kindOf_123 (⟨kd_4.mpr (by omega), rfl⟩)
        · refine g_look F d_X6_kindOf_29 ⟨by omega, by omega⟩ (off := 95) (tgt := 124) (by decide) (by rw [hc]; decide) rfl ?_
          refine g_iconst F d_X6_kindOf_124 ?_
          exact hQ d_X6_kindOf_125 (⟨kd_5.mpr hc, rfl⟩)
        · refine g_look F d_X6_kindOf_29 ⟨by omega, by omega⟩ (off := 97) (tgt := 126) (by decide) (by rw [hc]; decide) rfl ?_
          refine g_bipush F (by decide) d_X6_kindOf_126 ?_
          exact hQ d_X6_kindOf_128 (⟨kd_6.mpr (by omega), rfl⟩)
        · refine g_look F d_X6_kindOf_29 ⟨by omega, by omega⟩ (off := 97) (tgt := 126) (by decide) (by rw [hc]; decide) rfl ?_
          refine g_bipush F (by decide) d_X6_kindOf_126 ?_
          exact hQ d_X6_kindOf_128 (⟨kd_6.mpr (by omega), rfl⟩)
        · refine g_look F d_X6_kindOf_29 ⟨by omega, by omega⟩ (off := 97) (tgt := 126) (by decide) (by rw [hc]; decide) rfl ?_
          refine g_bipush F (by decide) d_X6_kindOf_126 ?_
          exact hQ d_X6_kindOf_128 (⟨kd_6.mpr (by omega), rfl⟩)
        · refine g_look F d_X6_kindOf_29 ⟨by omega, by omega⟩ (off := 97) (tgt := 126) (by decide) (by rw [hc]; decide) rfl ?_
          refine g_bipush F (by decide) d_X6_kindOf_126 ?_
          exact hQ d_X6_kindOf_128 (⟨kd_6.mpr (by omega), rfl⟩)
        · refine g_look F d_X6_kindOf_29 ⟨by omega, by omega⟩ (off := 93) (tgt := 122) (by decide) (by rw [hc]; decide) rfl ?_
          refine g_iconst F d_X6_kindOf_122 ?_
          exact hQ d_X6_kindOf_123 (⟨kd_4.mpr (by omega), rfl⟩)
        · refine g_look F d_X6_kindOf_29 ⟨by omega, by omega⟩ (off := 100) (tgt := 129) (by decide) (by show Op.lookupswitch.offset [(33, 91), (42, 93), (43, 93), (45, 93), (63, 95), (102, 97), (103, 97), (104, 97), (107, 97), (109, 93)] 100 x = 100; (repeat (rw [Op.lookupswitch.offset_cons, if_neg (by omega)])); rfl) rfl ?_
          refine g_iconst F d_X6_kindOf_129 ?_
          exact hQ d_X6_kindOf_130 (⟨kd_0 (by omega) (by omega) hc, rfl⟩)
      · refine g_iload_n F 0 rfl rfl d_X6_kindOf_20 ?_
        refine g_bipush F (by decide) d_X6_kindOf_21 ?_
        refine g_icmp_gt F d_X6_kindOf_23 ⟨by omega, by omega⟩ ⟨by decide, by decide⟩ (fun h23 => ?_) (fun h23 => ?_)
        · refine g_iload_n F 0 rfl rfl d_X6_kindOf_28 ?_
          have hc : x = 33 ∨ x = 42 ∨ x = 43 ∨ x = 45 ∨ x = 63 ∨ x = 102 ∨ x = 103 ∨ x = 104 ∨ x = 107 ∨ x = 109 ∨ (x ≠ 33 ∧ x ≠ 42 ∧ x ≠ 43 ∧ x ≠ 45 ∧ x ≠ 63 ∧ x ≠ 102 ∧ x ≠ 103 ∧ x ≠ 104 ∧ x ≠ 107 ∧ x ≠ 109) := by omega
          rcases hc with hc | hc | hc | hc | hc | hc | hc | hc | hc | hc | hc
          · refine g_look F d_X6_kindOf_29 ⟨by omega, by omega⟩ (off := 91) (tgt := 120) (by decide) (by rw [hc]; decide) rfl ?_
            refine g_iconst F d_X6_kindOf_120 ?_
            exact hQ d_X6_kindOf_121 (⟨kd_2.mpr hc, rfl⟩)
          · refine g_look F d_X6_kindOf_29 ⟨by omega, by omega⟩ (off := 93) (tgt := 122) (by decide) (by rw [hc]; decide) rfl ?_
            refine g_iconst F d_X6_kindOf_122 ?_
            exact hQ d_X6_kindOf_123 (⟨kd_4.mpr (by omega), rfl⟩)
          · refine g_look F d_X6_kindOf_29 ⟨by omega, by omega⟩ (off := 93) (tgt := 122) (by decide) (by rw [hc]; decide) rfl ?_
            refine g_iconst F d_X6_kindOf_122 ?_
            exact hQ d_X6_kindOf_123 (⟨kd_4.mpr (by omega), rfl⟩)
          · refine g_look F d_X6_kindOf_29 ⟨by omega, by omega⟩ (off := 93) (tgt := 122) (by decide) (by rw [hc]; decide) rfl ?_
            refine g_iconst F d_X6_kindOf_122 ?_
            exact hQ d_X6_kindOf_123 (⟨kd_4.mpr (by omega), rfl⟩)
          · refine g_look F d_X6_kindOf_29 ⟨by omega, by omega⟩ (off := 95) (tgt := 124) (by decide) (by rw [hc]; decide) rfl ?_
            refine g_iconst F d_X6_kindOf_124 ?_
            exact hQ d_X6_kindOf_125 (⟨kd_5.mpr hc, rfl⟩)
          · refine g_look F d_X6_kindOf_29 ⟨by omega, by omega⟩ (off := 97) (tgt := 126) (by decide) (by rw [hc]; decide) rfl ?_
            refine g_bipush F (by decide) d_X6_kindOf_126 ?_
            exact hQ d_X6_kindOf_128 (⟨kd_6.mpr (by omega), rfl⟩)
          · refine g_look F d_X6_kindOf_29 ⟨by omega, by omega⟩ (off := 97) (tgt := 126) (by decide) (by rw [hc]; decide) rfl ?_
            refine g_bipush F (by decide) d_X6_kindOf_126 ?_
            exact hQ d_X6_kindOf_128 (⟨kd_6.mpr (by omega), rfl⟩)
          · refine g_look F d_X6_kindOf_29 ⟨by omega, by omega⟩ (off := 97) (tgt := 126) (by decide) (by rw [hc]; decide) rfl ?_
            refine g_bipush F (by decide) d_X6_kindOf_126 ?_
            exact hQ d_X6_kindOf_128 (⟨kd_6.mpr (by omega), rfl⟩)
          · refine g_look F d_X6_kindOf_29 ⟨by omega, by omega⟩ (off := 97) (tgt := 126) (by decide) (by rw [hc]; decide) rfl ?_
            refine g_bipush F (by decide) d_X6_kindOf_126 ?_
            exact hQ d_X6_kindOf_128 (⟨kd_6.mpr (by omega), rfl⟩)
          · refine g_look F d_X6_kindOf_29 ⟨by omega, by omega⟩ (off := 93) (tgt := 122) (by decide) (by rw [hc]; decide) rfl ?_
            refine g_iconst F d_X6_kindOf_122 ?_
            exact hQ d_X6_kindOf_123 (⟨kd_4.mpr (by omega), rfl⟩)
          · refine g_look F d_X6_kindOf_29 ⟨by omega, by omega⟩ (off := 100) (tgt := 129) (by decide) (by show Op.lookupswitch.offset [(33, 91), (42, 93), (43, 93), (45, 93), (63, 95), (102, 97), (103, 97), (104, 97), (107, 97), (109, 93)] 100 x = 100; (repeat (rw [Op.lookupswitch.offset_cons, if_neg (by omega)])); rfl) rfl ?_
            refine g_iconst F d_X6_kindOf_129 ?_
            exact hQ d_X6_kindOf_130 (⟨kd_0 (by omega) (by omega) hc, rfl⟩)
        · refine g_iconst F d_X6_kindOf_26 ?_
          exact hQ d_X6_kindOf_27 (⟨kd_3.mpr (by omega), rfl⟩)
    · refine g_iconst F d_X6_kindOf_12 ?_
      exact hQ d_X6_kindOf_13 (⟨kd_1.mpr (by omega), rfl⟩)
set_option maxHeartbeats 1000000 in
theorem c_X6_worthOf (l : Launch) (E : Ev) (q : Nat → Nat) (sh : List Shp) (σ : Sg) (x : Int) (rx : rg x) : CI l E yX6_worthOf cX6_worthOf 1 .int ({ frames := 1, cells := 0, slots := 0, locals := 20 } : Room) q sh σ [vI x] (is (wo x) σ) := by
  have rx1 := rx.1
  have rx2 := rx.2
  have hk := kd_in x
  refine CI_of (own := RX6) (by decide) rfl (Nat.le_of_ble_eq_true rfl) (fun X Q F hQ => ?_)
  show G X E 1 q sh σ 0 0 Q 0 [(0, vI x)] []
  refine g_iload_n F 0 rfl rfl d_X6_worthOf_0 ?_
  refine g_Si F (own := RX6) (c_X6_kindOf l E q sh σ x ⟨by omega, by omega⟩) k_X6_9 [] d_X6_worthOf_1 ⟨rfl, rfl, by decide, by decide⟩ ⟨Nat.zero_le _, Nat.zero_le _⟩ rfl (Nat.le_of_ble_eq_true rfl) ?_
  rintro _ _ ⟨rfl, rfl⟩
  have hc : kd x = 1 ∨ kd x = 3 ∨ kd x = 6 ∨ (kd x ≠ 1 ∧ kd x ≠ 3 ∧ kd x ≠ 6) := by omega
  rcases hc with hc | hc | hc | hc
  · refine g_look F d_X6_worthOf_4 ⟨by omega, by omega⟩ (off := 36) (tgt := 40) (by decide) (by rw [hc]; decide) rfl ?_
    refine g_iload_n F 0 rfl rfl d_X6_worthOf_40 ?_
    refine g_bipush F (by decide) d_X6_worthOf_41 ?_
    refine g_isub F d_X6_worthOf_43 ?_
    exact hQ d_X6_worthOf_44 (⟨wo_1 hc, rfl⟩)
  · refine g_look F d_X6_worthOf_4 ⟨by omega, by omega⟩ (off := 41) (tgt := 45) (by decide) (by rw [hc]; decide) rfl ?_
    refine g_iload_n F 0 rfl rfl d_X6_worthOf_45 ?_
    refine g_bipush F (by decide) d_X6_worthOf_46 ?_
    refine g_isub F d_X6_worthOf_48 ?_
    exact hQ d_X6_worthOf_49 (⟨wo_3 hc, rfl⟩)
  · refine g_look F d_X6_worthOf_4 ⟨by omega, by omega⟩ (off := 46) (tgt := 50) (by decide) (by rw [hc]; decide) rfl ?_
    refine g_iload_n F 0 rfl rfl d_X6_worthOf_50 ?_
    refine g_bipush F (by decide) d_X6_worthOf_51 ?_
    refine g_icmp_ne F d_X6_worthOf_53 ⟨by omega, by omega⟩ ⟨by decide, by decide⟩ (fun h53 => ?_) (fun h53 => ?_)
    · refine g_iload_n F 0 rfl rfl d_X6_worthOf_60 ?_
      refine g_bipush F (by decide) d_X6_worthOf_61 ?_
      refine g_isub F d_X6_worthOf_63 ?_
      exact hQ d_X6_worthOf_64 (⟨by unfold wo; rw [if_neg (by omega), if_neg (by omega), if_pos hc]; simp [h53], rfl⟩)
    · refine g_iconst F d_X6_worthOf_56 ?_
      refine g_goto F d_X6_worthOf_57 ?_
      exact hQ d_X6_worthOf_64 (⟨by unfold wo; rw [if_neg (by omega), if_neg (by omega), if_pos hc]; simp [h53], rfl⟩)
  · refine g_look F d_X6_worthOf_4 ⟨by omega, by omega⟩ (off := 61) (tgt := 65) (by decide) (by show Op.lookupswitch.offset [(1, 36), (3, 41), (6, 46)] 61 (kd x) = 61; (repeat (rw [Op.lookupswitch.offset_cons, if_neg (by omega)])); rfl) rfl ?_
    refine g_iload_n F 0 rfl rfl d_X6_worthOf_65 ?_
    exact hQ d_X6_worthOf_66 (⟨by simp [wo, hc.1, hc.2.1, hc.2.2], rfl⟩)
set_option maxHeartbeats 1000000 in
theorem c_X6_textsOf (l : Launch) (E : Ev) (q : Nat → Nat) (sh : List Shp) (σ : Sg) (x : Int) (rx : rg x) : CI l E yX6_textsOf cX6_textsOf 1 .int ({ frames := 2, cells := 0, slots := 0, locals := 40 } : Room) q sh σ [vI x] (is (tx x) σ) := by
  have rx1 := rx.1
  have rx2 := rx.2
  have hk := kd_in x
  refine CI_of (own := RX6) (by decide) rfl (Nat.le_of_ble_eq_true rfl) (fun X Q F hQ => ?_)
  show G X E 1 q sh σ 0 0 Q 0 [(0, vI x)] []
  refine g_iload_n F 0 rfl rfl d_X6_textsOf_0 ?_
  refine g_Si F (own := RX6) (c_X6_kindOf l E q sh σ x ⟨by omega, by omega⟩) k_X6_9 [] d_X6_textsOf_1 ⟨rfl, rfl, by decide, by decide⟩ ⟨Nat.zero_le _, Nat.zero_le _⟩ rfl (Nat.le_of_ble_eq_true rfl) ?_
  rintro _ _ ⟨rfl, rfl⟩
  have hc : kd x = 4 ∨ kd x = 5 ∨ kd x = 6 ∨ (kd x < 4 ∨ 6 < kd x) := by omega
  rcases hc with hc | hc | hc | hc
  · refine g_tabIn F d_X6_textsOf_4 ⟨by omega, by omega⟩ 0 (tgt := 32) (by omega) (by decide) rfl rfl ?_
    refine g_iconst F d_X6_textsOf_32 ?_
    exact hQ d_X6_textsOf_33 (⟨by simp [tx, hc], rfl⟩)
  · refine g_tabIn F d_X6_textsOf_4 ⟨by omega, by omega⟩ 1 (tgt := 34) (by omega) (by decide) rfl rfl ?_
    refine g_iconst F d_X6_textsOf_34 ?_
    exact hQ d_X6_textsOf_35 (⟨by simp [tx, hc], rfl⟩)
  · have hw := wo_6 hc
    refine g_tabIn F d_X6_textsOf_4 ⟨by omega, by omega⟩ 2 (tgt := 36) (by omega) (by decide) rfl rfl ?_
    refine g_iload_n F 0 rfl rfl d_X6_textsOf_36 ?_
    refine g_Si F (own := RX6) (c_X6_worthOf l E q sh σ x ⟨by omega, by omega⟩) k_X6_13 [] d_X6_textsOf_37 ⟨rfl, rfl, by decide, by decide⟩ ⟨Nat.zero_le _, Nat.zero_le _⟩ rfl (Nat.le_of_ble_eq_true rfl) ?_
    rintro _ _ ⟨rfl, rfl⟩
    refine g_Ni F (own := RX6) (c_X8_argumentsOf l E q sh σ (wo x) ⟨by omega, by omega⟩) k_X6_16 [] d_X6_textsOf_40 ⟨rfl, rfl, by decide, by decide⟩ ⟨Nat.zero_le _, Nat.zero_le _⟩ rfl (Nat.le_of_ble_eq_true rfl) ?_
    rintro _ _ ⟨rfl, rfl⟩
    exact hQ d_X6_textsOf_43 (⟨by simp [tx, hc], rfl⟩)
  · refine g_tabOut F d_X6_textsOf_4 ⟨by omega, by omega⟩ (tgt := 44) (by omega) rfl ?_
    refine g_iconst F d_X6_textsOf_44 ?_
    exact hQ d_X6_textsOf_45 (⟨by unfold tx; rw [if_neg (by omega), if_neg (by omega), if_neg (by omega)], rfl⟩)
set_option maxHeartbeats 1000000 in
theorem c_X4_count (l : Launch) (E : Ev) (q : Nat → Nat) (sh : List Shp) (σ : Sg) (hs : HsC sh) : CI l E yX4_count cX4_count 1 .int ({ frames := 0, cells := 0, slots := 0, locals := 0 } : Room) q sh σ [.ref (q 1)] (is (σ 1 1) σ) := by
  refine CI_of (own := RX4) (by decide) rfl (Nat.le_of_ble_eq_true rfl) (fun X Q F hQ => ?_)
  show G X E 1 q sh σ 0 0 Q 0 [(0, .ref (q 1))] []
  refine g_aload_n F 0 rfl rfl d_X4_count_0 ?_
  refine g_getI F 1 f_X4_15 d_X4_count_1 (hsC_1 hs) rfl rfl ?_
  exact hQ d_X4_count_4 (⟨by first | rfl | omega | (simp only [*]; done) | (simp [*]; done) | (split <;> omega), rfl⟩)
set_option maxHeartbeats 1000000 in
theorem c_X4_clear (l : Launch) (E : Ev) (q : Nat → Nat) (sh : List Shp) (σ : Sg) (hs : HsC sh) : CV l E yX4_clear cX4_clear 1 ({ frames := 0, cells := 0, slots := 0, locals := 0 } : Room) q sh σ [.ref (q 1)] (isS (up σ 1 1 0)) := by
  refine CV_of (own := RX4) (by decide) rfl (Nat.le_of_ble_eq_true rfl) (fun X Q F hQ => ?_)
  show G X E 1 q sh σ 0 0 Q 0 [(0, .ref (q 1))] []
  refine g_aload_n F 0 rfl rfl d_X4_clear_0 ?_
  refine g_iconst F d_X4_clear_1 ?_
  refine g_putI F 1 f_X4_15 d_X4_clear_2 (hsC_1 hs) rfl rfl rfl rfl rfl ?_
  exact hQ d_X4_clear_5 (rfl)
set_option maxHeartbeats 1000000 in
theorem c_X4_signAt (l : Launch) (E : Ev) (q : Nat → Nat) (sh : List Shp) (σ : Sg) (hs : HsC sh) (p : Int) (hp : 0 ≤ p ∧ p < σ 1 1 ∧ σ 1 1 ≤ 30) : CI l E yX4_signAt cX4_signAt 2 .int ({ frames := 0, cells := 0, slots := 0, locals := 0 } : Room) q sh σ [.ref (q 1), vI p] (is (σ 2 p) σ) := by
  refine CI_of (own := RX4) (by decide) rfl (Nat.le_of_ble_eq_true rfl) (fun X Q F hQ => ?_)
  show G X E 2 q sh σ 0 0 Q 0 [(0, .ref (q 1)), (1, vI p)] []
  refine g_iload_n F 1 rfl rfl d_X4_signAt_0 ?_
  refine g_if_lt F d_X4_signAt_1 ⟨by omega, by omega⟩ (fun h1 => by exfalso; omega) (fun h1 => ?_)
  refine g_iload_n F 1 rfl rfl d_X4_signAt_4 ?_
  refine g_aload_n F 0 rfl rfl d_X4_signAt_5 ?_
  refine g_getI F 1 f_X4_15 d_X4_signAt_6 (hsC_1 hs) rfl rfl ?_
  refine g_icmp_ge F d_X4_signAt_9 ⟨by omega, by omega⟩ ⟨by omega, by omega⟩ (fun h9 => by exfalso; omega) (fun h9 => ?_)
  refine g_iload_n F 1 rfl rfl d_X4_signAt_12 ?_
  refine g_bipush F (by decide) d_X4_signAt_13 ?_
  refine g_icmp_ge F d_X4_signAt_15 ⟨by omega, by omega⟩ ⟨by decide, by decide⟩ (fun h15 => by exfalso; omega) (fun h15 => ?_)
  refine g_aload_n F 0 rfl rfl d_X4_signAt_18 ?_
  refine g_getR F f_X4_9 d_X4_signAt_19 (hsC_1 hs) rfl ?_
  refine g_iload_n F 1 rfl rfl d_X4_signAt_22 ?_
  refine g_iaload F d_X4_signAt_23 (hsC_2 hs) (by omega) (by omega) (by decide) ?_
  refine g_goto F d_X4_signAt_24 ?_
  exact hQ d_X4_signAt_28 (⟨by first | rfl | omega | (simp only [*]; done) | (simp [*]; done) | (split <;> omega), rfl⟩)
set_option maxHeartbeats 1000000 in
theorem c_X4_add (l : Launch) (E : Ev) (q : Nat → Nat) (sh : List Shp) (σ : Sg) (hs : HsC sh) (x : Int) (hn : 0 ≤ σ 1 1 ∧ σ 1 1 ≤ 30) : CI l E yX4_add cX4_add 2 .boolean ({ frames := 0, cells := 0, slots := 0, locals := 0 } : Room) q sh σ [.ref (q 1), vI x] (fun z τ => (σ 1 1 < 30 → z = 1 ∧ τ = up (up σ 2 (σ 1 1) x) 1 1 (σ 1 1 + 1)) ∧ (σ 1 1 = 30 → z = 0 ∧ τ = σ)) := by
  refine CB_of (own := RX4) (by decide) rfl (Nat.le_of_ble_eq_true rfl) (fun X Q F hQ => ?_)
  show G X E 2 q sh σ 0 0 Q 0 [(0, .ref (q 1)), (1, vI x)] []
  refine g_aload_n F 0 rfl rfl d_X4_add_0 ?_
  refine g_getI F 1 f_X4_15 d_X4_add_1 (hsC_1 hs) rfl rfl ?_
  refine g_if_lt F d_X4_add_4 ⟨by omega, by omega⟩ (fun h4 => by exfalso; omega) (fun h4 => ?_)
  refine g_aload_n F 0 rfl rfl d_X4_add_7 ?_
  refine g_getI F 1 f_X4_15 d_X4_add_8 (hsC_1 hs) rfl rfl ?_
  refine g_bipush F (by decide) d_X4_add_11 ?_
  refine g_icmp_lt F d_X4_add_13 ⟨by omega, by omega⟩ ⟨by decide, by decide⟩ (fun h13 => ?_) (fun h13 => ?_)
  · refine g_aload_n F 0 rfl rfl d_X4_add_18 ?_
    refine g_getR F f_X4_9 d_X4_add_19 (hsC_1 hs) rfl ?_
    refine g_aload_n F 0 rfl rfl d_X4_add_22 ?_
    refine g_getI F 1 f_X4_15 d_X4_add_23 (hsC_1 hs) rfl rfl ?_
    refine g_iload_n F 1 rfl rfl d_X4_add_26 ?_
    refine g_iastore F d_X4_add_27 (hsC_2 hs) (by omega) (by omega) (by decide) ?_
    refine g_aload_n F 0 rfl rfl d_X4_add_28 ?_
    refine g_dup F rfl d_X4_add_29 ?_
    refine g_getI F 1 f_X4_15 d_X4_add_30 (hsC_1 hs) rfl rfl ?_
    refine g_iconst F d_X4_add_33 ?_
    refine g_iadd F d_X4_add_34 ?_
    refine g_putI F 1 f_X4_15 d_X4_add_35 (hsC_1 hs) rfl rfl rfl rfl rfl ?_
    refine g_iconst F d_X4_add_38 ?_
    exact hQ d_X4_add_39 (Or.inr rfl) (⟨fun _ => ⟨rfl, by rw [up_ne σ (by decide)]⟩, fun h => by exfalso; omega⟩)
  · refine g_iconst F d_X4_add_16 ?_
    exact hQ d_X4_add_17 (Or.inl rfl) (⟨fun h => by exfalso; omega, fun _ => ⟨rfl, rfl⟩⟩)
set_option maxHeartbeats 1000000 in
theorem c_X0_count (l : Launch) (E : Ev) (q : Nat → Nat) (sh : List Shp) (σ : Sg) (hs : HsB sh) (x : Int) (hx : 0 ≤ x ∧ x < 4) : CI l E yX0_count cX0_count 2 .int ({ frames := 1, cells := 0, slots := 0, locals := 20 } : Room) q sh σ [.ref (q 5), vI x] (is (σ 6 x) σ) := by
  refine CI_of (own := RX0) (by decide) rfl (Nat.le_of_ble_eq_true rfl) (fun X Q F hQ => ?_)
  show G X E 2 q sh σ 0 0 Q 0 [(0, .ref (q 5)), (1, vI x)] []
  refine g_iload_n F 1 rfl rfl d_X0_count_0 ?_
  refine g_Ni F (own := RX0) (c_X8_isFunction l E q sh σ x ⟨by omega, by omega⟩) k_X0_42 [] d_X0_count_1 ⟨rfl, rfl, by decide, by decide⟩ ⟨Nat.zero_le _, Nat.zero_le _⟩ rfl (Nat.le_of_ble_eq_true rfl) ?_
  rintro _ _ ⟨rfl, rfl⟩
  refine g_b_eq F d_X0_count_4 (fun h4 => by exfalso; omega) (fun h4 => ?_)
  refine g_aload_n F 0 rfl rfl d_X0_count_7 ?_
  refine g_getR F f_X0_9 d_X0_count_8 (hsB_5 hs) rfl ?_
  refine g_iload_n F 1 rfl rfl d_X0_count_11 ?_
  refine g_iaload F d_X0_count_12 (hsB_6 hs) (by omega) (by omega) (by decide) ?_
  refine g_goto F d_X0_count_13 ?_
  exact hQ d_X0_count_17 (⟨by first | rfl | omega | (simp only [*]; done) | (simp [*]; done) | (split <;> omega), rfl⟩)
set_option maxHeartbeats 1000000 in
theorem c_X0_root (l : Launch) (E : Ev) (q : Nat → Nat) (sh : List Shp) (σ : Sg) (hs : HsB sh) (x : Int) (hx : 0 ≤ x ∧ x < 4) : CI l E yX0_root cX0_root 2 .int ({ frames := 1, cells := 0, slots := 0, locals := 20 } : Room) q sh σ [.ref (q 5), vI x] (is (x * 30) σ) := by
  refine CI_of (own := RX0) (by decide) rfl (Nat.le_of_ble_eq_true rfl) (fun X Q F hQ => ?_)
  show G X E 2 q sh σ 0 0 Q 0 [(0, .ref (q 5)), (1, vI x)] []
  refine g_iload_n F 1 rfl rfl d_X0_root_0 ?_
  refine g_Ni F (own := RX0) (c_X8_isFunction l E q sh σ x ⟨by omega, by omega⟩) k_X0_42 [] d_X0_root_1 ⟨rfl, rfl, by decide, by decide⟩ ⟨Nat.zero_le _, Nat.zero_le _⟩ rfl (Nat.le_of_ble_eq_true rfl) ?_
  rintro _ _ ⟨rfl, rfl⟩
  refine g_b_eq F d_X0_root_4 (fun h4 => by exfalso; omega) (fun h4 => ?_)
  refine g_iload_n F 1 rfl rfl d_X0_root_7 ?_
  refine g_bipush F (by decide) d_X0_root_8 ?_
  refine g_imul F d_X0_root_10 ?_
  refine g_goto F d_X0_root_11 ?_
  exact hQ d_X0_root_15 (⟨by first | rfl | omega | (simp only [*]; done) | (simp [*]; done) | (split <;> omega), rfl⟩)
set_option maxHeartbeats 1000000 in
theorem c_X0_signAt (l : Launch) (E : Ev) (q : Nat → Nat) (sh : List Shp) (σ : Sg) (hs : HsB sh) (p : Int) (hp : 0 ≤ p ∧ p < 120) : CI l E yX0_signAt cX0_signAt 2 .int ({ frames := 1, cells := 0, slots := 0, locals := 20 } : Room) q sh σ [.ref (q 5), vI p] (is (σ 7 p) σ) := by
  refine CI_of (own := RX0) (by decide) rfl (Nat.le_of_ble_eq_true rfl) (fun X Q F hQ => ?_)
  show G X E 2 q sh σ 0 0 Q 0 [(0, .ref (q 5)), (1, vI p)] []
  refine g_iload_n F 1 rfl rfl d_X0_signAt_0 ?_
  refine g_Ni F (own := RX0) (c_X8_isPlace l E q sh σ p ⟨by omega, by omega⟩) k_X0_55 [] d_X0_signAt_1 ⟨rfl, rfl, by decide, by decide⟩ ⟨Nat.zero_le _, Nat.zero_le _⟩ rfl (Nat.le_of_ble_eq_true rfl) ?_
  rintro _ _ ⟨rfl, rfl⟩
  refine g_b_eq F d_X0_signAt_4 (fun h4 => by exfalso; omega) (fun h4 => ?_)
  refine g_aload_n F 0 rfl rfl d_X0_signAt_7 ?_
  refine g_getR F f_X0_15 d_X0_signAt_8 (hsB_5 hs) rfl ?_
  refine g_iload_n F 1 rfl rfl d_X0_signAt_11 ?_
  refine g_iaload F d_X0_signAt_12 (hsB_7 hs) (by omega) (by omega) (by decide) ?_
  refine g_goto F d_X0_signAt_13 ?_
  exact hQ d_X0_signAt_18 (⟨by first | rfl | omega | (simp only [*]; done) | (simp [*]; done) | (split <;> omega), rfl⟩)
set_option maxHeartbeats 1000000 in
theorem c_X0_kindAt (l : Launch) (E : Ev) (q : Nat → Nat) (sh : List Shp) (σ : Sg) (hs : HsB sh) (p : Int) (hp : 0 ≤ p ∧ p < 120) : CI l E yX0_kindAt cX0_kindAt 2 .int ({ frames := 1, cells := 0, slots := 0, locals := 20 } : Room) q sh σ [.ref (q 5), vI p] (is (σ 8 p) σ) := by
  refine CI_of (own := RX0) (by decide) rfl (Nat.le_of_ble_eq_true rfl) (fun X Q F hQ => ?_)
  show G X E 2 q sh σ 0 0 Q 0 [(0, .ref (q 5)), (1, vI p)] []
  refine g_iload_n F 1 rfl rfl d_X0_kindAt_0 ?_
  refine g_Ni F (own := RX0) (c_X8_isPlace l E q sh σ p ⟨by omega, by omega⟩) k_X0_55 [] d_X0_kindAt_1 ⟨rfl, rfl, by decide, by decide⟩ ⟨Nat.zero_le _, Nat.zero_le _⟩ rfl (Nat.le_of_ble_eq_true rfl) ?_
  rintro _ _ ⟨rfl, rfl⟩
  refine g_b_eq F d_X0_kindAt_4 (fun h4 => by exfalso; omega) (fun h4 => ?_)
  refine g_aload_n F 0 rfl rfl d_X0_kindAt_7 ?_
  refine g_getR F f_X0_18 d_X0_kindAt_8 (hsB_5 hs) rfl ?_
  refine g_iload_n F 1 rfl rfl d_X0_kindAt_11 ?_
  refine g_iaload F d_X0_kindAt_12 (hsB_8 hs) (by omega) (by omega) (by decide) ?_
  refine g_goto F d_X0_kindAt_13 ?_
  exact hQ d_X0_kindAt_17 (⟨by first | rfl | omega | (simp only [*]; done) | (simp [*]; done) | (split <;> omega), rfl⟩)
set_option maxHeartbeats 1000000 in
theorem c_X0_worthAt (l : Launch) (E : Ev) (q : Nat → Nat) (sh : List Shp) (σ : Sg) (hs : HsB sh) (p : Int) (hp : 0 ≤ p ∧ p < 120) : CI l E yX0_worthAt cX0_worthAt 2 .int ({ frames := 1, cells := 0, slots := 0, locals := 20 } : Room) q sh σ [.ref (q 5), vI p] (is (σ 9 p) σ) := by
  refine CI_of (own := RX0) (by decide) rfl (Nat.le_of_ble_eq_true rfl) (fun X Q F hQ => ?_)
  show G X E 2 q sh σ 0 0 Q 0 [(0, .ref (q 5)), (1, vI p)] []
  refine g_iload_n F 1 rfl rfl d_X0_worthAt_0 ?_
  refine g_Ni F (own := RX0) (c_X8_isPlace l E q sh σ p ⟨by omega, by omega⟩) k_X0_55 [] d_X0_worthAt_1 ⟨rfl, rfl, by decide, by decide⟩ ⟨Nat.zero_le _, Nat.zero_le _⟩ rfl (Nat.le_of_ble_eq_true rfl) ?_
  rintro _ _ ⟨rfl, rfl⟩
  refine g_b_eq F d_X0_worthAt_4 (fun h4 => by exfalso; omega) (fun h4 => ?_)
  refine g_aload_n F 0 rfl rfl d_X0_worthAt_7 ?_
  refine g_getR F f_X0_21 d_X0_worthAt_8 (hsB_5 hs) rfl ?_
  refine g_iload_n F 1 rfl rfl d_X0_worthAt_11 ?_
  refine g_iaload F d_X0_worthAt_12 (hsB_9 hs) (by omega) (by omega) (by decide) ?_
  refine g_goto F d_X0_worthAt_13 ?_
  exact hQ d_X0_worthAt_17 (⟨by first | rfl | omega | (simp only [*]; done) | (simp [*]; done) | (split <;> omega), rfl⟩)
set_option maxHeartbeats 1000000 in
theorem c_X0_spanAt (l : Launch) (E : Ev) (q : Nat → Nat) (sh : List Shp) (σ : Sg) (hs : HsB sh) (p : Int) (hp : 0 ≤ p ∧ p < 120) : CI l E yX0_spanAt cX0_spanAt 2 .int ({ frames := 1, cells := 0, slots := 0, locals := 20 } : Room) q sh σ [.ref (q 5), vI p] (is (σ 10 p) σ) := by
  refine CI_of (own := RX0) (by decide) rfl (Nat.le_of_ble_eq_true rfl) (fun X Q F hQ => ?_)
  show G X E 2 q sh σ 0 0 Q 0 [(0, .ref (q 5)), (1, vI p)] []
  refine g_iload_n F 1 rfl rfl d_X0_spanAt_0 ?_
  refine g_Ni F (own := RX0) (c_X8_isPlace l E q sh σ p ⟨by omega, by omega⟩) k_X0_55 [] d_X0_spanAt_1 ⟨rfl, rfl, by decide, by decide⟩ ⟨Nat.zero_le _, Nat.zero_le _⟩ rfl (Nat.le_of_ble_eq_true rfl) ?_
  rintro _ _ ⟨rfl, rfl⟩
  refine g_b_eq F d_X0_spanAt_4 (fun h4 => by exfalso; omega) (fun h4 => ?_)
  refine g_aload_n F 0 rfl rfl d_X0_spanAt_7 ?_
  refine g_getR F f_X0_24 d_X0_spanAt_8 (hsB_5 hs) rfl ?_
  refine g_iload_n F 1 rfl rfl d_X0_spanAt_11 ?_
  refine g_iaload F d_X0_spanAt_12 (hsB_10 hs) (by omega) (by omega) (by decide) ?_
  refine g_goto F d_X0_spanAt_13 ?_
  exact hQ d_X0_spanAt_17 (⟨by first | rfl | omega | (simp only [*]; done) | (simp [*]; done) | (split <;> omega), rfl⟩)
set_option maxHeartbeats 1000000 in
theorem c_X0_depthAt (l : Launch) (E : Ev) (q : Nat → Nat) (sh : List Shp) (σ : Sg) (hs : HsB sh) (p : Int) (hp : 0 ≤ p ∧ p < 120) : CI l E yX0_depthAt cX0_depthAt 2 .int ({ frames := 1, cells := 0, slots := 0, locals := 20 } : Room) q sh σ [.ref (q 5), vI p] (is (σ 11 p) σ) := by
  refine CI_of (own := RX0) (by decide) rfl (Nat.le_of_ble_eq_true rfl) (fun X Q F hQ => ?_)
  show G X E 2 q sh σ 0 0 Q 0 [(0, .ref (q 5)), (1, vI p)] []
  refine g_iload_n F 1 rfl rfl d_X0_depthAt_0 ?_
  refine g_Ni F (own := RX0) (c_X8_isPlace l E q sh σ p ⟨by omega, by omega⟩) k_X0_55 [] d_X0_depthAt_1 ⟨rfl, rfl, by decide, by decide⟩ ⟨Nat.zero_le _, Nat.zero_le _⟩ rfl (Nat.le_of_ble_eq_true rfl) ?_
  rintro _ _ ⟨rfl, rfl⟩
  refine g_b_eq F d_X0_depthAt_4 (fun h4 => by exfalso; omega) (fun h4 => ?_)
  refine g_aload_n F 0 rfl rfl d_X0_depthAt_7 ?_
  refine g_getR F f_X0_27 d_X0_depthAt_8 (hsB_5 hs) rfl ?_
  refine g_iload_n F 1 rfl rfl d_X0_depthAt_11 ?_
  refine g_iaload F d_X0_depthAt_12 (hsB_11 hs) (by omega) (by omega) (by decide) ?_
  refine g_goto F d_X0_depthAt_13 ?_
  exact hQ d_X0_depthAt_17 (⟨by first | rfl | omega | (simp only [*]; done) | (simp [*]; done) | (split <;> omega), rfl⟩)
set_option maxHeartbeats 1000000 in
theorem c_X0_setSpan (l : Launch) (E : Ev) (q : Nat → Nat) (sh : List Shp) (σ : Sg) (hs : HsB sh) (p v : Int) (hp : 0 ≤ p ∧ p < 120) : CV l E yX0_setSpan cX0_setSpan 3 ({ frames := 1, cells := 0, slots := 0, locals := 20 } : Room) q sh σ [.ref (q 5), vI p, vI v] (isS (up σ 10 p v)) := by
  refine CV_of (own := RX0) (by decide) rfl (Nat.le_of_ble_eq_true rfl) (fun X Q F hQ => ?_)
  show G X E 3 q sh σ 0 0 Q 0 [(0, .ref (q 5)), (1, vI p), (2, vI v)] []
  refine g_iload_n F 1 rfl rfl d_X0_setSpan_0 ?_
  refine g_Ni F (own := RX0) (c_X8_isPlace l E q sh σ p ⟨by omega, by omega⟩) k_X0_55 [] d_X0_setSpan_1 ⟨rfl, rfl, by decide, by decide⟩ ⟨Nat.zero_le _, Nat.zero_le _⟩ rfl (Nat.le_of_ble_eq_true rfl) ?_
  rintro _ _ ⟨rfl, rfl⟩
  refine g_b_eq F d_X0_setSpan_4 (fun h4 => by exfalso; omega) (fun h4 => ?_)
  refine g_aload_n F 0 rfl rfl d_X0_setSpan_7 ?_
  refine g_getR F f_X0_24 d_X0_setSpan_8 (hsB_5 hs) rfl ?_
  refine g_iload_n F 1 rfl rfl d_X0_setSpan_11 ?_
  refine g_iload_n F 2 rfl rfl d_X0_setSpan_12 ?_
  refine g_iastore F d_X0_setSpan_13 (hsB_10 hs) (by omega) (by omega) (by decide) ?_
  exact hQ d_X0_setSpan_14 (rfl)
set_option maxHeartbeats 1000000 in
theorem c_X0_setDepth (l : Launch) (E : Ev) (q : Nat → Nat) (sh : List Shp) (σ : Sg) (hs : HsB sh) (p v : Int) (hp : 0 ≤ p ∧ p < 120) : CV l E yX0_setDepth cX0_setDepth 3 ({ frames := 1, cells := 0, slots := 0, locals := 20 } : Room) q sh σ [.ref (q 5), vI p, vI v] (isS (up σ 11 p v)) := by
  refine CV_of (own := RX0) (by decide) rfl (Nat.le_of_ble_eq_true rfl) (fun X Q F hQ => ?_)
  show G X E 3 q sh σ 0 0 Q 0 [(0, .ref (q 5)), (1, vI p), (2, vI v)] []
  refine g_iload_n F 1 rfl rfl d_X0_setDepth_0 ?_
  refine g_Ni F (own := RX0) (c_X8_isPlace l E q sh σ p ⟨by omega, by omega⟩) k_X0_55 [] d_X0_setDepth_1 ⟨rfl, rfl, by decide, by decide⟩ ⟨Nat.zero_le _, Nat.zero_le _⟩ rfl (Nat.le_of_ble_eq_true rfl) ?_
  rintro _ _ ⟨rfl, rfl⟩
  refine g_b_eq F d_X0_setDepth_4 (fun h4 => by exfalso; omega) (fun h4 => ?_)
  refine g_aload_n F 0 rfl rfl d_X0_setDepth_7 ?_
  refine g_getR F f_X0_27 d_X0_setDepth_8 (hsB_5 hs) rfl ?_
  refine g_iload_n F 1 rfl rfl d_X0_setDepth_11 ?_
  refine g_iload_n F 2 rfl rfl d_X0_setDepth_12 ?_
  refine g_iastore F d_X0_setDepth_13 (hsB_11 hs) (by omega) (by omega) (by decide) ?_
  exact hQ d_X0_setDepth_14 (rfl)
set_option maxHeartbeats 1000000 in
theorem c_X0_setSign (l : Launch) (E : Ev) (q : Nat → Nat) (sh : List Shp) (σ : Sg) (hs : HsB sh) (p v : Int) (hp : 0 ≤ p ∧ p < 120) (rv : rg v) : CV l E yX0_setSign cX0_setSign 3 ({ frames := 2, cells := 0, slots := 0, locals := 40 } : Room) q sh σ [.ref (q 5), vI p, vI v] (isS (up (up (up σ 7 p v) 8 p (kd v)) 9 p (wo v))) := by
  have rv1 := rv.1
  have rv2 := rv.2
  refine CV_of (own := RX0) (by decide) rfl (Nat.le_of_ble_eq_true rfl) (fun X Q F hQ => ?_)
  show G X E 3 q sh σ 0 0 Q 0 [(0, .ref (q 5)), (1, vI p), (2, vI v)] []
  refine g_iload_n F 1 rfl rfl d_X0_setSign_0 ?_
  refine g_Ni F (own := RX0) (c_X8_isPlace l E q sh σ p ⟨by omega, by omega⟩) k_X0_55 [] d_X0_setSign_1 ⟨rfl, rfl, by decide, by decide⟩ ⟨Nat.zero_le _, Nat.zero_le _⟩ rfl (Nat.le_of_ble_eq_true rfl) ?_
  rintro _ _ ⟨rfl, rfl⟩
  refine g_b_eq F d_X0_setSign_4 (fun h4 => by exfalso; omega) (fun h4 => ?_)
  refine g_aload_n F 0 rfl rfl d_X0_setSign_7 ?_
  refine g_getR F f_X0_15 d_X0_setSign_8 (hsB_5 hs) rfl ?_
  refine g_iload_n F 1 rfl rfl d_X0_setSign_11 ?_
  refine g_iload_n F 2 rfl rfl d_X0_setSign_12 ?_
  refine g_iastore F d_X0_setSign_13 (hsB_7 hs) (by omega) (by omega) (by decide) ?_
  refine g_aload_n F 0 rfl rfl d_X0_setSign_14 ?_
  refine g_getR F f_X0_18 d_X0_setSign_15 (hsB_5 hs) rfl ?_
  refine g_iload_n F 1 rfl rfl d_X0_setSign_18 ?_
  refine g_iload_n F 2 rfl rfl d_X0_setSign_19 ?_
  refine g_Si F (own := RX0) (c_X6_kindOf l E q sh (up σ 7 p v) v ⟨by omega, by omega⟩) k_X0_58 [vI p, .ref (q 8)] d_X0_setSign_20 ⟨rfl, rfl, by decide, by decide⟩ ⟨Nat.zero_le _, Nat.zero_le _⟩ rfl (Nat.le_of_ble_eq_true rfl) ?_
  rintro _ _ ⟨rfl, rfl⟩
  refine g_iastore F d_X0_setSign_23 (hsB_8 hs) (by omega) (by omega) (by decide) ?_
  refine g_aload_n F 0 rfl rfl d_X0_setSign_24 ?_
  refine g_getR F f_X0_21 d_X0_setSign_25 (hsB_5 hs) rfl ?_
  refine g_iload_n F 1 rfl rfl d_X0_setSign_28 ?_
  refine g_iload_n F 2 rfl rfl d_X0_setSign_29 ?_
  refine g_Si F (own := RX0) (c_X6_worthOf l E q sh (up (up σ 7 p v) 8 p (kd v)) v ⟨by omega, by omega⟩) k_X0_63 [vI p, .ref (q 9)] d_X0_setSign_30 ⟨rfl, rfl, by decide, by decide⟩ ⟨Nat.zero_le _, Nat.zero_le _⟩ rfl (Nat.le_of_ble_eq_true rfl) ?_
  rintro _ _ ⟨rfl, rfl⟩
  refine g_iastore F d_X0_setSign_33 (hsB_9 hs) (by omega) (by omega) (by decide) ?_
  exact hQ d_X0_setSign_34 (rfl)
set_option maxHeartbeats 1000000 in
theorem c_X0_textPlace (l : Launch) (E : Ev) (q : Nat → Nat) (sh : List Shp) (σ : Sg) (hs : HsB sh) (p t : Int) (hp : 0 ≤ p ∧ p < 120) (ht : 0 ≤ t ∧ t ≤ 3) (hh : ∀ j : Int, 0 ≤ j → j < t → 0 ≤ tp (σ 10) p j ∧ tp (σ 10) p j < 120) : CI l E yX0_textPlace cX0_textPlace 5 .int ({ frames := 0, cells := 0, slots := 0, locals := 0 } : Room) q sh σ [.ref (q 5), vI p, vI t] (is (tp (σ 10) p t) σ) := by
  refine CI_of (own := RX0) (by decide) rfl (Nat.le_of_ble_eq_true rfl) (fun X Q F hQ => ?_)
  show G X E 5 q sh σ 0 0 Q 0 [(0, .ref (q 5)), (1, vI p), (2, vI t)] []
  refine g_iload_n F 1 rfl rfl d_X0_textPlace_0 ?_
  refine g_iconst F d_X0_textPlace_1 ?_
  refine g_iadd F d_X0_textPlace_2 ?_
  refine g_istore_n F (lv' := [(3, vI (p + 1)), (0, .ref (q 5)), (1, vI p), (2, vI t)]) rfl (by decide) rfl d_X0_textPlace_3 ?_
  refine g_iconst F d_X0_textPlace_4 ?_
  refine g_istore F (lv' := [(4, vI 0), (3, vI (p + 1)), (0, .ref (q 5)), (1, vI p), (2, vI t)]) (by decide) rfl d_X0_textPlace_5 ?_
  have loop7 : ∀ (n : Nat) (a : Int) (i : Int), (0 ≤ i ∧ i ≤ t) → (a = tp (σ 10) p i) → (t - i).toNat < n → G X E 5 q sh σ 0 0 Q 7 [(0, .ref (q 5)), (1, vI p), (2, vI t), (3, vI a), (4, vI i)] [] := by
    intro n7
    induction n7 with
    | zero => intro a i hi ha hm7; exact absurd hm7 (Nat.not_lt_zero _)
    | succ n7 ih7 =>
      intro a i hi ha hm7
      refine g_iload F 4 rfl d_X0_textPlace_7 ?_
      refine g_iload_n F 2 rfl rfl d_X0_textPlace_9 ?_
      refine g_icmp_ge F d_X0_textPlace_10 ⟨by omega, by omega⟩ ⟨by omega, by omega⟩ (fun h10 => ?_) (fun h10 => ?_)
      · refine g_iload_n F 3 rfl rfl d_X0_textPlace_38 ?_
        exact hQ d_X0_textPlace_39 (⟨by rw [ha, show i = t by omega], rfl⟩)
      · have hb := hh i hi.1 (by omega)
        rw [← ha] at hb
        refine g_iload_n F 3 rfl rfl d_X0_textPlace_13 ?_
        refine g_if_lt F d_X0_textPlace_14 ⟨by omega, by omega⟩ (fun h14 => by exfalso; omega) (fun h14 => ?_)
        refine g_iload_n F 3 rfl rfl d_X0_textPlace_17 ?_
        refine g_bipush F (by decide) d_X0_textPlace_18 ?_
        refine g_icmp_ge F d_X0_textPlace_20 ⟨by omega, by omega⟩ ⟨by decide, by decide⟩ (fun h20 => by exfalso; omega) (fun h20 => ?_)
        refine g_iload_n F 3 rfl rfl d_X0_textPlace_23 ?_
        refine g_aload_n F 0 rfl rfl d_X0_textPlace_24 ?_
        refine g_getR F f_X0_24 d_X0_textPlace_25 (hsB_5 hs) rfl ?_
        refine g_iload_n F 3 rfl rfl d_X0_textPlace_28 ?_
        refine g_iaload F d_X0_textPlace_29 (hsB_10 hs) (by omega) (by omega) (by decide) ?_
        refine g_iadd F d_X0_textPlace_30 ?_
        refine g_istore_n F (lv' := [(3, vI (a + (σ 10 a))), (0, .ref (q 5)), (1, vI p), (2, vI t), (4, vI i)]) rfl (by decide) rfl d_X0_textPlace_31 ?_
        refine g_iinc F (lv' := [(4, vI (i + 1)), (3, vI (a + (σ 10 a))), (0, .ref (q 5)), (1, vI p), (2, vI t)]) 4 rfl rfl (by decide) rfl d_X0_textPlace_32 ?_
        refine g_goto F d_X0_textPlace_35 ?_
        refine G_sub (ks := [2, 3, 4, 1, 0]) rfl ?_
        exact ih7 (a + (σ 10 a)) (i + 1) (by omega) (by rw [tp_succ _ _ _ hi.1, ← ha]) (by omega)
  refine G_sub (ks := [2, 3, 4, 1, 0]) rfl ?_
  exact loop7 _ (p + 1) 0 (by omega) (tp_0 _ _).symm (Nat.lt_succ_self _)
end
section
/-! the reader, as a pure run: the level, and how many texts are missing at each level -/
def Sm (ks : List Nat) (σ τ : Sg) : Prop := ∀ k, k ∉ ks → τ k = σ k
theorem Sm.refl (ks : List Nat) (σ : Sg) : Sm ks σ σ := fun _ _ => rfl
theorem Sm.trans {ks : List Nat} {σ τ υ : Sg} (h1 : Sm ks σ τ) (h2 : Sm ks τ υ) : Sm ks σ υ := fun k h => (h2 k h).trans (h1 k h)
theorem Sm.up {ks : List Nat} {σ τ : Sg} (h : Sm ks σ τ) {k : Nat} (hk : k ∈ ks) (i v : Int) : Sm ks σ (up τ k i v) := by
  intro k' h'
  have hne : k' ≠ k := fun e => h' (e ▸ hk)
  rw [up_ne τ hne]
  exact h k' h'
theorem Sm.wide {ks ks' : List Nat} {σ τ : Sg} (h : Sm ks σ τ) (hs : ∀ k ∈ ks, k ∈ ks') : Sm ks' σ τ := fun k hk => h k (fun h' => hk (hs k h'))
/-- the greatest level below n at which something is missing; -1 -/
def popN (M : Int → Int) : Nat → Int
  | 0 => -1
  | n + 1 => if M n = 0 then popN M n else n
def passM (L : Int) (M : Int → Int) (t : Int) : Int → Int := fun j => if 0 < t ∧ L < 9 ∧ j = L + 1 then t else if j = L then M j - 1 else M j
def passL (L : Int) (M : Int → Int) (t : Int) : Int := popN (passM L M t) (if 0 < t ∧ L < 9 then (L + 2).toNat else (L + 1).toNat)
theorem popN_in (M : Int → Int) : ∀ n : Nat, -1 ≤ popN M n ∧ popN M n < n
  | 0 => by simp [popN]
  | n + 1 => by
    have h := popN_in M n
    unfold popN
    split <;> omega
theorem passL_in {L : Int} (M : Int → Int) (t : Int) (h : 0 ≤ L ∧ L ≤ 9) : -1 ≤ passL L M t ∧ passL L M t ≤ 9 := by
  unfold passL
  have h2 := popN_in (passM L M t) (if 0 < t ∧ L < 9 then (L + 2).toNat else (L + 1).toNat)
  split at h2 <;> rename_i hc
  · rw [if_pos hc]; omega
  · rw [if_neg hc]; omega
/-- whether a sign can stand at a level in a text of a FUNCTION -/
def canSt (L c f : Int) : Bool := decide (0 ≤ L) && decide (kd c ≠ 0) && (if kd c = 3 then decide (wo c < nA f) else decide (L < 9 ∨ tx c = 0))
theorem tx_3 {c : Int} (h : kd c = 3) : tx c = 0 := by simp [tx, h]
/-- the run: from place i on, with so many places left -/
def ffun (S : Int → Int) (n f : Int) : Nat → Int → Int → (Int → Int) → Int
  | 0, _, L, _ => if L < 0 then -6 else n
  | k + 1, i, L, M => if canSt L (S i) f = true then ffun S n f k (i + 1) (passL L M (tx (S i))) (passM L M (tx (S i))) else i
theorem passM_in {L : Int} {M : Int → Int} {t : Int} (h : ∀ j, 0 ≤ M j ∧ M j ≤ 3) (h1 : 1 ≤ M L) (ht : 0 ≤ t ∧ t ≤ 3) : ∀ j, 0 ≤ passM L M t j ∧ passM L M t j ≤ 3 := by
  intro j
  have hj := h j
  unfold passM
  split
  · exact ht
  · split
    · rename_i e; rw [e]; rw [e] at hj; omega
    · exact hj
theorem popN_ne (M : Int → Int) : ∀ n : Nat, 0 ≤ popN M n → M (popN M n) ≠ 0
  | 0, h => by simp [popN] at h
  | n + 1, h => by
    have ih := popN_ne M n
    unfold popN at h ⊢
    split
    · rename_i e
      rw [if_pos e] at h
      exact ih h
    · rename_i e; exact e
theorem passL_1 {L : Int} {M : Int → Int} {t : Int} (h : ∀ j, 0 ≤ passM L M t j ∧ passM L M t j ≤ 3) (h0 : 0 ≤ passL L M t) : 1 ≤ passM L M t (passL L M t) := by
  have h1 := popN_ne (passM L M t) _ h0
  have h2 := h (passL L M t)
  unfold passL at h2 ⊢
  omega
theorem canSt_iff {L c f : Int} : canSt L c f = true ↔ 0 ≤ L ∧ kd c ≠ 0 ∧ (kd c = 3 → wo c < nA f) ∧ (kd c ≠ 3 → L < 9 ∨ tx c = 0) := by
  unfold canSt
  by_cases h : kd c = 3
  · simp [h]
  · simp [h, and_assoc]
theorem canSt_3 {L c f : Int} (hL : 0 ≤ L) (hk : kd c = 3) (hf : 0 ≤ f ∧ f < 4) : (if canSt L c f = true then (1 : Int) else 0) = if (0 ≤ f ∧ f < 4) ∧ 0 ≤ wo c ∧ wo c < nA f then 1 else 0 := by
  have hw := wo_3 hk
  have h3 := kd_3.mp hk
  by_cases hc : wo c < nA f
  · rw [if_pos (canSt_iff.mpr ⟨hL, by omega, fun _ => hc, fun h => absurd hk h⟩), if_pos (by omega)]
  · rw [if_neg (fun h => hc ((canSt_iff.mp h).2.2.1 hk)), if_neg (by omega)]
/-- two rows of numbers that agree where a run looks -/
theorem popN_congr {M M' : Int → Int} : ∀ n : Nat, (∀ j : Int, 0 ≤ j → j < n → M j = M' j) → popN M n = popN M' n
  | 0, _ => rfl
  | n + 1, h => by
    unfold popN
    rw [h n (by omega) (by omega), popN_congr n (fun j h0 h1 => h j h0 (by omega))]
end
section
set_option maxHeartbeats 1000000 in
theorem c_X5_canStand (l : Launch) (E : Ev) (q : Nat → Nat) (sh : List Shp) (σ : Sg) (hs : HsC sh) (x y : Int) (rx : rg x) (hy : 0 ≤ y ∧ y < 4) (hL : -1 ≤ σ 3 1 ∧ σ 3 1 ≤ 9) : CI l E yX5_canStand cX5_canStand 3 .boolean ({ frames := 3, cells := 0, slots := 0, locals := 60 } : Room) q sh σ [.ref (q 3), vI x, vI y] (is (if canSt (σ 3 1) x y = true then 1 else 0) σ) := by
  have rx1 := rx.1
  have rx2 := rx.2
  have hk := kd_in x
  have ht := tx_in x
  have hn := nA_in y
  refine CB_of (own := RX5) (by decide) rfl (Nat.le_of_ble_eq_true rfl) (fun X Q F hQ => ?_)
  show G X E 3 q sh σ 0 0 Q 0 [(0, .ref (q 3)), (1, vI x), (2, vI y)] []
  refine g_aload_n F 0 rfl rfl d_X5_canStand_0 ?_
  refine g_getI F 1 f_X5_15 d_X5_canStand_1 (hsC_3 hs) rfl rfl ?_
  refine g_if_lt F d_X5_canStand_4 ⟨by omega, by omega⟩ (fun h4 => ?_) (fun h4 => ?_)
  · refine g_iconst F d_X5_canStand_14 ?_
    exact hQ d_X5_canStand_15 (Or.inl rfl) (⟨by rw [if_neg (fun h => by have := canSt_iff.mp h; omega)], rfl⟩)
  · refine g_iload_n F 1 rfl rfl d_X5_canStand_7 ?_
    refine g_Si F (own := RX5) (c_X6_kindOf l E q sh σ x ⟨by omega, by omega⟩) k_X5_42 [] d_X5_canStand_8 ⟨rfl, rfl, by decide, by decide⟩ ⟨Nat.zero_le _, Nat.zero_le _⟩ rfl (Nat.le_of_ble_eq_true rfl) ?_
    rintro _ _ ⟨rfl, rfl⟩
    refine g_if_ne F d_X5_canStand_11 ⟨by omega, by omega⟩ (fun h11 => ?_) (fun h11 => ?_)
    · refine g_iload_n F 1 rfl rfl d_X5_canStand_16 ?_
      refine g_Si F (own := RX5) (c_X6_kindOf l E q sh σ x ⟨by omega, by omega⟩) k_X5_42 [] d_X5_canStand_17 ⟨rfl, rfl, by decide, by decide⟩ ⟨Nat.zero_le _, Nat.zero_le _⟩ rfl (Nat.le_of_ble_eq_true rfl) ?_
      rintro _ _ ⟨rfl, rfl⟩
      refine g_iconst F d_X5_canStand_20 ?_
      refine g_icmp_ne F d_X5_canStand_21 ⟨by omega, by omega⟩ ⟨by decide, by decide⟩ (fun h21 => ?_) (fun h21 => ?_)
      · refine g_aload_n F 0 rfl rfl d_X5_canStand_33 ?_
        refine g_getI F 1 f_X5_15 d_X5_canStand_34 (hsC_3 hs) rfl rfl ?_
        refine g_bipush F (by decide) d_X5_canStand_37 ?_
        refine g_icmp_lt F d_X5_canStand_39 ⟨by omega, by omega⟩ ⟨by decide, by decide⟩ (fun h39 => ?_) (fun h39 => ?_)
        · refine g_iconst F d_X5_canStand_49 ?_
          refine g_goto F d_X5_canStand_50 ?_
          exact hQ d_X5_canStand_54 (Or.inr rfl) (⟨by first | (rw [if_pos (canSt_iff.mpr ⟨by omega, by omega, fun h => absurd h h21, fun _ => by omega⟩)]; done) | (rw [if_neg (fun h => by have h9 := (canSt_iff.mp h).2.2.2 h21; omega)]; done), rfl⟩)
        · refine g_iload_n F 1 rfl rfl d_X5_canStand_42 ?_
          refine g_Si F (own := RX5) (c_X6_textsOf l E q sh σ x ⟨by omega, by omega⟩) k_X5_33 [] d_X5_canStand_43 ⟨rfl, rfl, by decide, by decide⟩ ⟨Nat.zero_le _, Nat.zero_le _⟩ rfl (Nat.le_of_ble_eq_true rfl) ?_
          rintro _ _ ⟨rfl, rfl⟩
          refine g_if_ne F d_X5_canStand_46 ⟨by omega, by omega⟩ (fun h46 => ?_) (fun h46 => ?_)
          · refine g_iconst F d_X5_canStand_53 ?_
            exact hQ d_X5_canStand_54 (Or.inl rfl) (⟨by first | (rw [if_pos (canSt_iff.mpr ⟨by omega, by omega, fun h => absurd h h21, fun _ => by omega⟩)]; done) | (rw [if_neg (fun h => by have h9 := (canSt_iff.mp h).2.2.2 h21; omega)]; done), rfl⟩)
          · refine g_iconst F d_X5_canStand_49 ?_
            refine g_goto F d_X5_canStand_50 ?_
            exact hQ d_X5_canStand_54 (Or.inr rfl) (⟨by first | (rw [if_pos (canSt_iff.mpr ⟨by omega, by omega, fun h => absurd h h21, fun _ => by omega⟩)]; done) | (rw [if_neg (fun h => by have h9 := (canSt_iff.mp h).2.2.2 h21; omega)]; done), rfl⟩)
      · have hw := wo_3 h21
        have h3 := kd_3.mp h21
        refine g_iload_n F 2 rfl rfl d_X5_canStand_24 ?_
        refine g_iload_n F 1 rfl rfl d_X5_canStand_25 ?_
        refine g_Si F (own := RX5) (c_X6_worthOf l E q sh σ x ⟨by omega, by omega⟩) k_X5_45 [vI y] d_X5_canStand_26 ⟨rfl, rfl, by decide, by decide⟩ ⟨Nat.zero_le _, Nat.zero_le _⟩ rfl (Nat.le_of_ble_eq_true rfl) ?_
        rintro _ _ ⟨rfl, rfl⟩
        refine g_Ni F (own := RX5) (c_X8_hasArgument l E q sh σ y (wo x) ⟨by omega, by omega⟩ ⟨by omega, by omega⟩) k_X5_48 [] d_X5_canStand_29 ⟨rfl, rfl, by decide, by decide⟩ ⟨Nat.zero_le _, Nat.zero_le _⟩ rfl (Nat.le_of_ble_eq_true rfl) ?_
        rintro _ _ ⟨rfl, rfl⟩
        exact hQ d_X5_canStand_32 (by first | (split <;> simp) | omega) (⟨canSt_3 (by omega) h21 hy, rfl⟩)
    · refine g_iconst F d_X5_canStand_14 ?_
      exact hQ d_X5_canStand_15 (Or.inl rfl) (⟨by rw [if_neg (fun h => by have := canSt_iff.mp h; omega)], rfl⟩)
set_option maxHeartbeats 1000000 in
theorem c_X5_pass (l : Launch) (E : Ev) (q : Nat → Nat) (sh : List Shp) (σ : Sg) (hs : HsC sh) (t : Int) (ht : 0 ≤ t ∧ t ≤ 3) (hL : 0 ≤ σ 3 1 ∧ σ 3 1 ≤ 9) (hB : ∀ j, 0 ≤ σ 4 j ∧ σ 4 j ≤ 3) (hB1 : 1 ≤ σ 4 (σ 3 1)) : CV l E yX5_pass cX5_pass 2 ({ frames := 0, cells := 0, slots := 0, locals := 0 } : Room) q sh σ [.ref (q 3), vI t] (fun τ => τ 3 1 = passL (σ 3 1) (σ 4) t ∧ τ 4 = passM (σ 3 1) (σ 4) t ∧ Sm [3, 4] σ τ) := by
  have hB2 := passM_in hB hB1 ht
  have e1 : ∀ j, up σ 4 (σ 3 1) (σ 4 (σ 3 1) - 1) 4 j = if j = σ 3 1 then σ 4 j - 1 else σ 4 j := by
    intro j
    rw [up_at]
    split
    · rename_i h; rw [h]
    · rfl
  have e3 : up σ 4 (σ 3 1) (σ 4 (σ 3 1) - 1) 3 = σ 3 := up_ne σ (by decide) _ _
  refine CV_of (own := RX5) (by decide) rfl (Nat.le_of_ble_eq_true rfl) (fun X Q F hQ => ?_)
  show G X E 2 q sh σ 0 0 Q 0 [(0, .ref (q 3)), (1, vI t)] []
  refine g_aload_n F 0 rfl rfl d_X5_pass_0 ?_
  refine g_getI F 1 f_X5_15 d_X5_pass_1 (hsC_3 hs) rfl rfl ?_
  refine g_if_lt F d_X5_pass_4 ⟨by omega, by omega⟩ (fun h4 => by exfalso; omega) (fun h4 => ?_)
  refine g_aload_n F 0 rfl rfl d_X5_pass_7 ?_
  refine g_getI F 1 f_X5_15 d_X5_pass_8 (hsC_3 hs) rfl rfl ?_
  refine g_bipush F (by decide) d_X5_pass_11 ?_
  refine g_icmp_gt F d_X5_pass_13 ⟨by omega, by omega⟩ ⟨by decide, by decide⟩ (fun h13 => by exfalso; omega) (fun h13 => ?_)
  refine g_aload_n F 0 rfl rfl d_X5_pass_16 ?_
  refine g_getR F f_X5_9 d_X5_pass_17 (hsC_3 hs) rfl ?_
  refine g_aload_n F 0 rfl rfl d_X5_pass_20 ?_
  refine g_getI F 1 f_X5_15 d_X5_pass_21 (hsC_3 hs) rfl rfl ?_
  refine g_dup2 F rfl rfl d_X5_pass_24 ?_
  refine g_iaload F d_X5_pass_25 (hsC_4 hs) (by omega) (by omega) (by decide) ?_
  refine g_iconst F d_X5_pass_26 ?_
  refine g_isub F d_X5_pass_27 ?_
  refine g_iastore F d_X5_pass_28 (hsC_4 hs) (by omega) (by omega) (by decide) ?_
  refine g_iload_n F 1 rfl rfl d_X5_pass_29 ?_
  refine g_if_le F d_X5_pass_30 ⟨by omega, by omega⟩ (fun h30 => ?_) (fun h30 => ?_)
  · have loop69 : ∀ (n : Nat) (τ : Sg), (-1 ≤ τ 3 1 ∧ τ 3 1 ≤ 9) → (τ 4 = passM (σ 3 1) (σ 4) t) → (popN (τ 4) (τ 3 1 + 1).toNat = passL (σ 3 1) (σ 4) t) → (Sm [3, 4] σ τ) → (τ 3 1 + 1).toNat < n → G X E 2 q sh τ 0 0 Q 69 [(0, .ref (q 3)), (1, vI t)] [] := by
      intro n69
      induction n69 with
      | zero => intro τ hL1 hM hR hm hm69; exact absurd hm69 (Nat.not_lt_zero _)
      | succ n69 ih69 =>
        intro τ hL1 hM hR hm hm69
        have hB3 := hB2 (τ 3 1)
        rw [← hM] at hB3
        refine g_aload_n F 0 rfl rfl d_X5_pass_69 ?_
        refine g_getI F 1 f_X5_15 d_X5_pass_70 (hsC_3 hs) rfl rfl ?_
        refine g_if_lt F d_X5_pass_73 ⟨by omega, by omega⟩ (fun h73 => ?_) (fun h73 => ?_)
        · exact hQ d_X5_pass_110 (⟨by rw [← hR]; first | (rw [show (τ 3 1 + 1).toNat = 0 by omega]; simp [popN]; omega) | (rw [show (τ 3 1 + 1).toNat = (τ 3 1).toNat + 1 by omega, popN, if_neg (by rw [show (((τ 3 1).toNat : Nat) : Int) = τ 3 1 by omega]; assumption)]; omega), hM, hm⟩)
        · refine g_aload_n F 0 rfl rfl d_X5_pass_76 ?_
          refine g_getI F 1 f_X5_15 d_X5_pass_77 (hsC_3 hs) rfl rfl ?_
          refine g_bipush F (by decide) d_X5_pass_80 ?_
          refine g_icmp_gt F d_X5_pass_82 ⟨by omega, by omega⟩ ⟨by decide, by decide⟩ (fun h82 => by exfalso; omega) (fun h82 => ?_)
          refine g_aload_n F 0 rfl rfl d_X5_pass_85 ?_
          refine g_getR F f_X5_9 d_X5_pass_86 (hsC_3 hs) rfl ?_
          refine g_aload_n F 0 rfl rfl d_X5_pass_89 ?_
          refine g_getI F 1 f_X5_15 d_X5_pass_90 (hsC_3 hs) rfl rfl ?_
          refine g_iaload F d_X5_pass_93 (hsC_4 hs) (by omega) (by omega) (by decide) ?_
          refine g_if_ne F d_X5_pass_94 ⟨by omega, by omega⟩ (fun h94 => ?_) (fun h94 => ?_)
          · exact hQ d_X5_pass_110 (⟨by rw [← hR]; first | (rw [show (τ 3 1 + 1).toNat = 0 by omega]; simp [popN]; omega) | (rw [show (τ 3 1 + 1).toNat = (τ 3 1).toNat + 1 by omega, popN, if_neg (by rw [show (((τ 3 1).toNat : Nat) : Int) = τ 3 1 by omega]; assumption)]; omega), hM, hm⟩)
          · refine g_aload_n F 0 rfl rfl d_X5_pass_97 ?_
            refine g_dup F rfl d_X5_pass_98 ?_
            refine g_getI F 1 f_X5_15 d_X5_pass_99 (hsC_3 hs) rfl rfl ?_
            refine g_iconst F d_X5_pass_102 ?_
            refine g_isub F d_X5_pass_103 ?_
            refine g_putI F 1 f_X5_15 d_X5_pass_104 (hsC_3 hs) rfl rfl rfl rfl rfl ?_
            refine g_goto F d_X5_pass_107 ?_
            exact ih69 (up τ 3 1 ((τ 3 1) - 1)) (by rw [up_same]; omega) (by rw [up_ne τ (by decide)]; exact hM) (by rw [up_ne τ (by decide), up_same, ← hR, show (τ 3 1 + 1).toNat = (τ 3 1 - 1 + 1).toNat + 1 by omega, popN, if_pos (by rw [show (((τ 3 1 - 1 + 1).toNat : Nat) : Int) = τ 3 1 by omega]; exact h94)]) (hm.up (by decide) _ _) (by rw [up_same]; omega)
    have hi1 : -1 ≤ (up σ 4 (σ 3 1) ((σ 4 (σ 3 1)) - 1)) 3 1 ∧ (up σ 4 (σ 3 1) ((σ 4 (σ 3 1)) - 1)) 3 1 ≤ 9 := by first | (rw [e3]; omega) | (rw [up_ne _ (by decide), up_same]; omega)
    have hi2 : (up σ 4 (σ 3 1) ((σ 4 (σ 3 1)) - 1)) 4 = passM (σ 3 1) (σ 4) t := by
      funext j
      unfold passM
      first
        | (rw [if_neg (by omega), e1]; done)
        | (rw [up_at, up_ne _ (by decide), e1]; split <;> (try split) <;> (try split) <;> first | rfl | omega)
    have hi3 : popN ((up σ 4 (σ 3 1) ((σ 4 (σ 3 1)) - 1)) 4) ((up σ 4 (σ 3 1) ((σ 4 (σ 3 1)) - 1)) 3 1 + 1).toNat = passL (σ 3 1) (σ 4) t := by
      rw [hi2]
      unfold passL
      first
        | (rw [if_neg (by omega), e3]; done)
        | (rw [if_pos (by omega), up_ne _ (by decide), up_same]; congr 1; omega)
    have hi4 : Sm [3, 4] σ (up σ 4 (σ 3 1) ((σ 4 (σ 3 1)) - 1)) := by
      first
        | exact (Sm.refl _ _).up (by decide) _ _
        | exact (((Sm.refl _ _).up (by decide) _ _).up (by decide) _ _).up (by decide) _ _
    exact loop69 _ (up σ 4 (σ 3 1) ((σ 4 (σ 3 1)) - 1)) hi1 hi2 hi3 hi4 (Nat.lt_succ_self _)
  · refine g_aload_n F 0 rfl rfl d_X5_pass_33 ?_
    refine g_getI F 1 f_X5_15 d_X5_pass_34 (hsC_3 hs) rfl rfl ?_
    refine G_top (b := σ 3 1) (by rw [e3]) ?_
    refine g_if_lt F d_X5_pass_37 ⟨by omega, by omega⟩ (fun h37 => by exfalso; omega) (fun h37 => ?_)
    refine g_aload_n F 0 rfl rfl d_X5_pass_40 ?_
    refine g_getI F 1 f_X5_15 d_X5_pass_41 (hsC_3 hs) rfl rfl ?_
    refine G_top (b := σ 3 1) (by rw [e3]) ?_
    refine g_bipush F (by decide) d_X5_pass_44 ?_
    refine g_icmp_ge F d_X5_pass_46 ⟨by omega, by omega⟩ ⟨by decide, by decide⟩ (fun h46 => ?_) (fun h46 => ?_)
    · have loop69 : ∀ (n : Nat) (τ : Sg), (-1 ≤ τ 3 1 ∧ τ 3 1 ≤ 9) → (τ 4 = passM (σ 3 1) (σ 4) t) → (popN (τ 4) (τ 3 1 + 1).toNat = passL (σ 3 1) (σ 4) t) → (Sm [3, 4] σ τ) → (τ 3 1 + 1).toNat < n → G X E 2 q sh τ 0 0 Q 69 [(0, .ref (q 3)), (1, vI t)] [] := by
        intro n69
        induction n69 with
        | zero => intro τ hL1 hM hR hm hm69; exact absurd hm69 (Nat.not_lt_zero _)
        | succ n69 ih69 =>
          intro τ hL1 hM hR hm hm69
          have hB3 := hB2 (τ 3 1)
          rw [← hM] at hB3
          refine g_aload_n F 0 rfl rfl d_X5_pass_69 ?_
          refine g_getI F 1 f_X5_15 d_X5_pass_70 (hsC_3 hs) rfl rfl ?_
          refine g_if_lt F d_X5_pass_73 ⟨by omega, by omega⟩ (fun h73 => ?_) (fun h73 => ?_)
          · exact hQ d_X5_pass_110 (⟨by rw [← hR]; first | (rw [show (τ 3 1 + 1).toNat = 0 by omega]; simp [popN]; omega) | (rw [show (τ 3 1 + 1).toNat = (τ 3 1).toNat + 1 by omega, popN, if_neg (by rw [show (((τ 3 1).toNat : Nat) : Int) = τ 3 1 by omega]; assumption)]; omega), hM, hm⟩)
          · refine g_aload_n F 0 rfl rfl d_X5_pass_76 ?_
            refine g_getI F 1 f_X5_15 d_X5_pass_77 (hsC_3 hs) rfl rfl ?_
            refine g_bipush F (by decide) d_X5_pass_80 ?_
            refine g_icmp_gt F d_X5_pass_82 ⟨by omega, by omega⟩ ⟨by decide, by decide⟩ (fun h82 => by exfalso; omega) (fun h82 => ?_)
            refine g_aload_n F 0 rfl rfl d_X5_pass_85 ?_
            refine g_getR F f_X5_9 d_X5_pass_86 (hsC_3 hs) rfl ?_
            refine g_aload_n F 0 rfl rfl d_X5_pass_89 ?_
            refine g_getI F 1 f_X5_15 d_X5_pass_90 (hsC_3 hs) rfl rfl ?_
            refine g_iaload F d_X5_pass_93 (hsC_4 hs) (by omega) (by omega) (by decide) ?_
            refine g_if_ne F d_X5_pass_94 ⟨by omega, by omega⟩ (fun h94 => ?_) (fun h94 => ?_)
            · exact hQ d_X5_pass_110 (⟨by rw [← hR]; first | (rw [show (τ 3 1 + 1).toNat = 0 by omega]; simp [popN]; omega) | (rw [show (τ 3 1 + 1).toNat = (τ 3 1).toNat + 1 by omega, popN, if_neg (by rw [show (((τ 3 1).toNat : Nat) : Int) = τ 3 1 by omega]; assumption)]; omega), hM, hm⟩)
            · refine g_aload_n F 0 rfl rfl d_X5_pass_97 ?_
              refine g_dup F rfl d_X5_pass_98 ?_
              refine g_getI F 1 f_X5_15 d_X5_pass_99 (hsC_3 hs) rfl rfl ?_
              refine g_iconst F d_X5_pass_102 ?_
              refine g_isub F d_X5_pass_103 ?_
              refine g_putI F 1 f_X5_15 d_X5_pass_104 (hsC_3 hs) rfl rfl rfl rfl rfl ?_
              refine g_goto F d_X5_pass_107 ?_
              exact ih69 (up τ 3 1 ((τ 3 1) - 1)) (by rw [up_same]; omega) (by rw [up_ne τ (by decide)]; exact hM) (by rw [up_ne τ (by decide), up_same, ← hR, show (τ 3 1 + 1).toNat = (τ 3 1 - 1 + 1).toNat + 1 by omega, popN, if_pos (by rw [show (((τ 3 1 - 1 + 1).toNat : Nat) : Int) = τ 3 1 by omega]; exact h94)]) (hm.up (by decide) _ _) (by rw [up_same]; omega)
      have hi1 : -1 ≤ (up σ 4 (σ 3 1) ((σ 4 (σ 3 1)) - 1)) 3 1 ∧ (up σ 4 (σ 3 1) ((σ 4 (σ 3 1)) - 1)) 3 1 ≤ 9 := by first | (rw [e3]; omega) | (rw [up_ne _ (by decide), up_same]; omega)
      have hi2 : (up σ 4 (σ 3 1) ((σ 4 (σ 3 1)) - 1)) 4 = passM (σ 3 1) (σ 4) t := by
        funext j
        unfold passM
        first
          | (rw [if_neg (by omega), e1]; done)
          | (rw [up_at, up_ne _ (by decide), e1]; split <;> (try split) <;> (try split) <;> first | rfl | omega)
      have hi3 : popN ((up σ 4 (σ 3 1) ((σ 4 (σ 3 1)) - 1)) 4) ((up σ 4 (σ 3 1) ((σ 4 (σ 3 1)) - 1)) 3 1 + 1).toNat = passL (σ 3 1) (σ 4) t := by
        rw [hi2]
        unfold passL
        first
          | (rw [if_neg (by omega), e3]; done)
          | (rw [if_pos (by omega), up_ne _ (by decide), up_same]; congr 1; omega)
      have hi4 : Sm [3, 4] σ (up σ 4 (σ 3 1) ((σ 4 (σ 3 1)) - 1)) := by
        first
          | exact (Sm.refl _ _).up (by decide) _ _
          | exact (((Sm.refl _ _).up (by decide) _ _).up (by decide) _ _).up (by decide) _ _
      exact loop69 _ (up σ 4 (σ 3 1) ((σ 4 (σ 3 1)) - 1)) hi1 hi2 hi3 hi4 (Nat.lt_succ_self _)
    · refine g_aload_n F 0 rfl rfl d_X5_pass_49 ?_
      refine g_dup F rfl d_X5_pass_50 ?_
      refine g_getI F 1 f_X5_15 d_X5_pass_51 (hsC_3 hs) rfl rfl ?_
      refine G_top (b := σ 3 1) (by rw [e3]) ?_
      refine g_iconst F d_X5_pass_54 ?_
      refine g_iadd F d_X5_pass_55 ?_
      refine g_putI F 1 f_X5_15 d_X5_pass_56 (hsC_3 hs) rfl rfl rfl rfl rfl ?_
      refine g_aload_n F 0 rfl rfl d_X5_pass_59 ?_
      refine g_getR F f_X5_9 d_X5_pass_60 (hsC_3 hs) rfl ?_
      refine g_aload_n F 0 rfl rfl d_X5_pass_63 ?_
      refine g_getI F 1 f_X5_15 d_X5_pass_64 (hsC_3 hs) rfl rfl ?_
      refine G_top (b := σ 3 1 + 1) (up_same _ _ _ _) ?_
      refine g_iload_n F 1 rfl rfl d_X5_pass_67 ?_
      refine g_iastore F d_X5_pass_68 (hsC_4 hs) (by omega) (by omega) (by decide) ?_
      have loop69 : ∀ (n : Nat) (τ : Sg), (-1 ≤ τ 3 1 ∧ τ 3 1 ≤ 9) → (τ 4 = passM (σ 3 1) (σ 4) t) → (popN (τ 4) (τ 3 1 + 1).toNat = passL (σ 3 1) (σ 4) t) → (Sm [3, 4] σ τ) → (τ 3 1 + 1).toNat < n → G X E 2 q sh τ 0 0 Q 69 [(0, .ref (q 3)), (1, vI t)] [] := by
        intro n69
        induction n69 with
        | zero => intro τ hL1 hM hR hm hm69; exact absurd hm69 (Nat.not_lt_zero _)
        | succ n69 ih69 =>
          intro τ hL1 hM hR hm hm69
          have hB3 := hB2 (τ 3 1)
          rw [← hM] at hB3
          refine g_aload_n F 0 rfl rfl d_X5_pass_69 ?_
          refine g_getI F 1 f_X5_15 d_X5_pass_70 (hsC_3 hs) rfl rfl ?_
          refine g_if_lt F d_X5_pass_73 ⟨by omega, by omega⟩ (fun h73 => ?_) (fun h73 => ?_)
          · exact hQ d_X5_pass_110 (⟨by rw [← hR]; first | (rw [show (τ 3 1 + 1).toNat = 0 by omega]; simp [popN]; omega) | (rw [show (τ 3 1 + 1).toNat = (τ 3 1).toNat + 1 by omega, popN, if_neg (by rw [show (((τ 3 1).toNat : Nat) : Int) = τ 3 1 by omega]; assumption)]; omega), hM, hm⟩)
          · refine g_aload_n F 0 rfl rfl d_X5_pass_76 ?_
            refine g_getI F 1 f_X5_15 d_X5_pass_77 (hsC_3 hs) rfl rfl ?_
            refine g_bipush F (by decide) d_X5_pass_80 ?_
            refine g_icmp_gt F d_X5_pass_82 ⟨by omega, by omega⟩ ⟨by decide, by decide⟩ (fun h82 => by exfalso; omega) (fun h82 => ?_)
            refine g_aload_n F 0 rfl rfl d_X5_pass_85 ?_
            refine g_getR F f_X5_9 d_X5_pass_86 (hsC_3 hs) rfl ?_
            refine g_aload_n F 0 rfl rfl d_X5_pass_89 ?_
            refine g_getI F 1 f_X5_15 d_X5_pass_90 (hsC_3 hs) rfl rfl ?_
            refine g_iaload F d_X5_pass_93 (hsC_4 hs) (by omega) (by omega) (by decide) ?_
            refine g_if_ne F d_X5_pass_94 ⟨by omega, by omega⟩ (fun h94 => ?_) (fun h94 => ?_)
            · exact hQ d_X5_pass_110 (⟨by rw [← hR]; first | (rw [show (τ 3 1 + 1).toNat = 0 by omega]; simp [popN]; omega) | (rw [show (τ 3 1 + 1).toNat = (τ 3 1).toNat + 1 by omega, popN, if_neg (by rw [show (((τ 3 1).toNat : Nat) : Int) = τ 3 1 by omega]; assumption)]; omega), hM, hm⟩)
            · refine g_aload_n F 0 rfl rfl d_X5_pass_97 ?_
              refine g_dup F rfl d_X5_pass_98 ?_
              refine g_getI F 1 f_X5_15 d_X5_pass_99 (hsC_3 hs) rfl rfl ?_
              refine g_iconst F d_X5_pass_102 ?_
              refine g_isub F d_X5_pass_103 ?_
              refine g_putI F 1 f_X5_15 d_X5_pass_104 (hsC_3 hs) rfl rfl rfl rfl rfl ?_
              refine g_goto F d_X5_pass_107 ?_
              exact ih69 (up τ 3 1 ((τ 3 1) - 1)) (by rw [up_same]; omega) (by rw [up_ne τ (by decide)]; exact hM) (by rw [up_ne τ (by decide), up_same, ← hR, show (τ 3 1 + 1).toNat = (τ 3 1 - 1 + 1).toNat + 1 by omega, popN, if_pos (by rw [show (((τ 3 1 - 1 + 1).toNat : Nat) : Int) = τ 3 1 by omega]; exact h94)]) (hm.up (by decide) _ _) (by rw [up_same]; omega)
      have hi1 : -1 ≤ (up (up (up σ 4 (σ 3 1) ((σ 4 (σ 3 1)) - 1)) 3 1 ((σ 3 1) + 1)) 4 (σ 3 1 + 1) t) 3 1 ∧ (up (up (up σ 4 (σ 3 1) ((σ 4 (σ 3 1)) - 1)) 3 1 ((σ 3 1) + 1)) 4 (σ 3 1 + 1) t) 3 1 ≤ 9 := by first | (rw [e3]; omega) | (rw [up_ne _ (by decide), up_same]; omega)
      have hi2 : (up (up (up σ 4 (σ 3 1) ((σ 4 (σ 3 1)) - 1)) 3 1 ((σ 3 1) + 1)) 4 (σ 3 1 + 1) t) 4 = passM (σ 3 1) (σ 4) t := by
        funext j
        unfold passM
        first
          | (rw [if_neg (by omega), e1]; done)
          | (rw [up_at, up_ne _ (by decide), e1]; split <;> (try split) <;> (try split) <;> first | rfl | omega)
      have hi3 : popN ((up (up (up σ 4 (σ 3 1) ((σ 4 (σ 3 1)) - 1)) 3 1 ((σ 3 1) + 1)) 4 (σ 3 1 + 1) t) 4) ((up (up (up σ 4 (σ 3 1) ((σ 4 (σ 3 1)) - 1)) 3 1 ((σ 3 1) + 1)) 4 (σ 3 1 + 1) t) 3 1 + 1).toNat = passL (σ 3 1) (σ 4) t := by
        rw [hi2]
        unfold passL
        first
          | (rw [if_neg (by omega), e3]; done)
          | (rw [if_pos (by omega), up_ne _ (by decide), up_same]; congr 1; omega)
      have hi4 : Sm [3, 4] σ (up (up (up σ 4 (σ 3 1) ((σ 4 (σ 3 1)) - 1)) 3 1 ((σ 3 1) + 1)) 4 (σ 3 1 + 1) t) := by
        first
          | exact (Sm.refl _ _).up (by decide) _ _
          | exact (((Sm.refl _ _).up (by decide) _ _).up (by decide) _ _).up (by decide) _ _
      exact loop69 _ (up (up (up σ 4 (σ 3 1) ((σ 4 (σ 3 1)) - 1)) 3 1 ((σ 3 1) + 1)) 4 (σ 3 1 + 1) t) hi1 hi2 hi3 hi4 (Nat.lt_succ_self _)
set_option maxHeartbeats 1000000 in
theorem c_X5_firstFault (l : Launch) (E : Ev) (q : Nat → Nat) (sh : List Shp) (σ : Sg) (hs : HsC sh) (y : Int) (hy : 0 ≤ y ∧ y < 4) (hn : 0 ≤ σ 1 1 ∧ σ 1 1 ≤ 30) (hsg : ∀ j, rg (σ 2 j)) (hB : ∀ j, 0 ≤ σ 4 j ∧ σ 4 j ≤ 3) : CI l E yX5_firstFault cX5_firstFault 5 .int ({ frames := 4, cells := 0, slots := 0, locals := 82 } : Room) q sh σ [.ref (q 3), .ref (q 1), vI y] (fun z τ => z = ffun (σ 2) (σ 1 1) y (σ 1 1).toNat 0 0 (fun j => if j = 0 then 1 else σ 4 j) ∧ Sm [3, 4] σ τ ∧ ∀ j, 0 ≤ τ 4 j ∧ τ 4 j ≤ 3) := by
  refine CI_of (own := RX5) (by decide) rfl (Nat.le_of_ble_eq_true rfl) (fun X Q F hQ => ?_)
  show G X E 5 q sh σ 0 0 Q 0 [(0, .ref (q 3)), (1, .ref (q 1)), (2, vI y)] []
  refine g_aload_n F 0 rfl rfl d_X5_firstFault_0 ?_
  refine g_iconst F d_X5_firstFault_1 ?_
  refine g_putI F 1 f_X5_15 d_X5_firstFault_2 (hsC_3 hs) rfl rfl rfl rfl rfl ?_
  refine g_aload_n F 0 rfl rfl d_X5_firstFault_5 ?_
  refine g_getR F f_X5_9 d_X5_firstFault_6 (hsC_3 hs) rfl ?_
  refine g_iconst F d_X5_firstFault_9 ?_
  refine g_iconst F d_X5_firstFault_10 ?_
  refine g_iastore F d_X5_firstFault_11 (hsC_4 hs) (by omega) (by omega) (by decide) ?_
  refine g_iconst F d_X5_firstFault_12 ?_
  refine g_istore_n F (lv' := [(3, vI 0), (0, .ref (q 3)), (1, .ref (q 1)), (2, vI y)]) rfl (by decide) rfl d_X5_firstFault_13 ?_
  have loop14 : ∀ (n : Nat) (i : Int) (τ : Sg), (0 ≤ i ∧ i ≤ σ 1 1) → (-1 ≤ τ 3 1 ∧ τ 3 1 ≤ 9) → (∀ j, 0 ≤ τ 4 j ∧ τ 4 j ≤ 3) → (0 ≤ τ 3 1 → 1 ≤ τ 4 (τ 3 1)) → (Sm [3, 4] σ τ) → (ffun (σ 2) (σ 1 1) y (σ 1 1 - i).toNat i (τ 3 1) (τ 4) = ffun (σ 2) (σ 1 1) y (σ 1 1).toNat 0 0 (fun j => if j = 0 then 1 else σ 4 j)) → (σ 1 1 - i).toNat < n → G X E 5 q sh τ 0 0 Q 14 [(0, .ref (q 3)), (1, .ref (q 1)), (2, vI y), (3, vI i)] [] := by
    intro n14
    induction n14 with
    | zero => intro i τ hi hL hT hT1 hm hr hm14; exact absurd hm14 (Nat.not_lt_zero _)
    | succ n14 ih14 =>
      intro i τ hi hL hT hT1 hm hr hm14
      have e1 : τ 1 = σ 1 := hm 1 (by decide)
      have e2 : τ 2 = σ 2 := hm 2 (by decide)
      refine g_iload_n F 3 rfl rfl d_X5_firstFault_14 ?_
      refine g_aload_n F 1 rfl rfl d_X5_firstFault_15 ?_
      refine g_Vi F (own := RX5) (c_X4_count l E q sh τ hs  ) k_X5_19 (hsC_1 hs) rfl rfl [vI i] d_X5_firstFault_16 ⟨rfl, rfl, by decide, by decide⟩ ⟨Nat.zero_le _, Nat.zero_le _⟩ rfl (Nat.le_of_ble_eq_true rfl) ?_
      rintro _ _ ⟨rfl, rfl⟩
      refine G_top (b := σ 1 1) (by rw [e1]) ?_
      refine g_icmp_ge F d_X5_firstFault_19 ⟨by omega, by omega⟩ ⟨by omega, by omega⟩ (fun h19 => ?_) (fun h19 => ?_)
      · refine g_aload_n F 0 rfl rfl d_X5_firstFault_56 ?_
        refine g_getI F 1 f_X5_15 d_X5_firstFault_57 (hsC_3 hs) rfl rfl ?_
        refine g_if_ge F d_X5_firstFault_60 ⟨by omega, by omega⟩ (fun h60 => ?_) (fun h60 => ?_)
        · refine g_aload_n F 1 rfl rfl d_X5_firstFault_68 ?_
          refine g_Vi F (own := RX5) (c_X4_count l E q sh τ hs  ) k_X5_19 (hsC_1 hs) rfl rfl [] d_X5_firstFault_69 ⟨rfl, rfl, by decide, by decide⟩ ⟨Nat.zero_le _, Nat.zero_le _⟩ rfl (Nat.le_of_ble_eq_true rfl) ?_
          rintro _ _ ⟨rfl, rfl⟩
          refine G_top (b := σ 1 1) (by rw [e1]) ?_
          exact hQ d_X5_firstFault_72 (⟨by rw [← hr, show (σ 1 1 - i).toNat = 0 by omega, ffun]; first | (rw [if_pos (by omega)]; done) | (rw [if_neg (by omega)]; done), hm, hT⟩)
        · refine g_bipush F (by decide) d_X5_firstFault_63 ?_
          refine g_goto F d_X5_firstFault_65 ?_
          exact hQ d_X5_firstFault_72 (⟨by rw [← hr, show (σ 1 1 - i).toNat = 0 by omega, ffun]; first | (rw [if_pos (by omega)]; done) | (rw [if_neg (by omega)]; done), hm, hT⟩)
      · refine g_aload_n F 1 rfl rfl d_X5_firstFault_22 ?_
        refine g_iload_n F 3 rfl rfl d_X5_firstFault_23 ?_
        refine g_Vi F (own := RX5) (c_X4_signAt l E q sh τ hs i ⟨by omega, by rw [e1]; omega, by rw [e1]; omega⟩) k_X5_25 (hsC_1 hs) rfl rfl [] d_X5_firstFault_24 ⟨rfl, rfl, by decide, by decide⟩ ⟨Nat.zero_le _, Nat.zero_le _⟩ rfl (Nat.le_of_ble_eq_true rfl) ?_
        rintro _ _ ⟨rfl, rfl⟩
        refine G_top (b := σ 2 i) (by rw [e2]) ?_
        refine g_istore F (lv' := [(4, vI (σ 2 i)), (0, .ref (q 3)), (1, .ref (q 1)), (2, vI y), (3, vI i)]) (by decide) rfl d_X5_firstFault_27 ?_
        refine g_aload_n F 1 rfl rfl d_X5_firstFault_29 ?_
        refine g_iload F 0 rfl d_X5_firstFault_30 ?_
        refine g_iload_n F 3 rfl rfl d_X5_firstFault_32 ?_
        refine g_Vi F (own := RX5) (c_X5_canStand l E q sh τ hs (σ 2 i) y (hsg _) hy hL) k_X5_29 (hsC_3 hs) rfl rfl [] d_X5_firstFault_33 ⟨rfl, rfl, by decide, by decide⟩ ⟨Nat.zero_le _, Nat.zero_le _⟩ rfl (Nat.le_of_ble_eq_true rfl) ?_
        rintro _ _ ⟨rfl, rfl⟩
        refine g_b_ne F d_X5_firstFault_36 (fun h36 => ?_) (fun h36 => ?_)
        · refine g_aload_n F 1 rfl rfl d_X5_firstFault_41 ?_
          refine g_iload F 0 rfl d_X5_firstFault_42 ?_
          refine g_Si F (own := RX5) (c_X6_textsOf l E q sh τ (σ 2 i) (hsg _)) k_X5_33 [.ref (q 3)] d_X5_firstFault_44 ⟨rfl, rfl, by decide, by decide⟩ ⟨Nat.zero_le _, Nat.zero_le _⟩ rfl (Nat.le_of_ble_eq_true rfl) ?_
          rintro _ _ ⟨rfl, rfl⟩
          refine g_Vv F (own := RX5) (c_X5_pass l E q sh τ hs (tx (σ 2 i)) (tx_in _) (by have := (canSt_iff.mp h36).1; omega) hT (hT1 (canSt_iff.mp h36).1)) k_X5_38 (hsC_3 hs) rfl rfl [] d_X5_firstFault_47 ⟨rfl, rfl, by decide, by decide⟩ ⟨Nat.zero_le _, Nat.zero_le _⟩ rfl (Nat.le_of_ble_eq_true rfl) ?_
          intro τ2 hp
          have hc9 := (canSt_iff.mp h36).1
          have hB9 := passM_in hT (hT1 hc9) (tx_in (σ 2 i))
          refine g_iinc F (lv' := [(3, vI (i + 1)), (4, vI (σ 2 i)), (0, .ref (q 3)), (1, .ref (q 1)), (2, vI y)]) 4 rfl rfl (by decide) rfl d_X5_firstFault_50 ?_
          refine g_goto F d_X5_firstFault_53 ?_
          refine G_sub (ks := [2, 3, 4, 0]) rfl ?_
          exact ih14 (i + 1) τ2 (by omega) (by rw [hp.1]; exact passL_in _ _ (by omega)) (by rw [hp.2.1]; exact hB9) (fun h => by rw [hp.1, hp.2.1]; rw [hp.1] at h; exact passL_1 hB9 h) (hm.trans hp.2.2) (by rw [hp.1, hp.2.1, ← hr, show (σ 1 1 - i).toNat = (σ 1 1 - (i + 1)).toNat + 1 by omega, ffun, if_pos h36]) (by omega)
        · refine g_iload_n F 4 rfl rfl d_X5_firstFault_39 ?_
          exact hQ d_X5_firstFault_40 (⟨by rw [← hr, show (σ 1 1 - i).toNat = (σ 1 1 - i - 1).toNat + 1 by omega, ffun, if_neg h36], hm, hT⟩)
  have hi1 : (up (up σ 3 1 0) 4 0 1) 4 = fun j => if j = 0 then 1 else σ 4 j := by
    funext j
    rw [up_at, up_ne _ (by decide)]
  have hi2 : ∀ j, 0 ≤ (up (up σ 3 1 0) 4 0 1) 4 j ∧ (up (up σ 3 1 0) 4 0 1) 4 j ≤ 3 := by
    intro j
    have := hB j
    rw [hi1]
    dsimp only
    split <;> omega
  refine G_sub (ks := [1, 2, 3, 0]) rfl ?_
  exact loop14 _ 0 (up (up σ 3 1 0) 4 0 1) (by omega) (by rw [up_ne _ (by decide), up_same]; omega) hi2 (fun _ => by rw [hi1]; rw [up_ne _ (by decide), up_same]; simp) (((Sm.refl _ _).up (by decide) _ _).up (by decide) _ _) (by rw [hi1]; simp only [Int.sub_zero]; rw [up_ne _ (by decide), up_same]) (Nat.lt_succ_self _)
end
section
/-! a text without a fault: what its nodes span, how deep they lie -/
def Wf (S Z D : Int → Int) (b n : Int) : Prop := 1 ≤ n ∧ n ≤ 30 ∧ Z b = n ∧ D b = 0 ∧ ∀ p, b ≤ p → p < b + n → (Z p = tp Z p (tx (S p)) - p ∧ p + Z p ≤ b + n ∧ 1 ≤ Z p ∧ 0 ≤ D p ∧ D p ≤ 9) ∧ (∀ j, 0 ≤ j → j < tx (S p) → p < tp Z p j ∧ tp Z p j < b + n ∧ D (tp Z p j) = D p + 1) ∧ (b < p → ∃ r j, b ≤ r ∧ r < p ∧ 0 ≤ j ∧ j < tx (S r) ∧ p = tp Z r j)
theorem tp_congr {Y Z : Int → Int} {i e t : Int} (hZ : ∀ p, i < p → p < e → Y p = Z p) (hc : ∀ j, 0 ≤ j → j < t → i < tp Z i j ∧ tp Z i j < e) : ∀ k : Nat, (k : Int) ≤ t → tp Y i k = tp Z i k
  | 0, _ => rfl
  | k + 1, h => by
    have ih := tp_congr hZ hc k (by omega)
    have h2 := hc k (by omega) (by omega)
    rw [show ((k + 1 : Nat) : Int) = (k : Int) + 1 by omega, tp_succ _ _ _ (by omega), tp_succ _ _ _ (by omega), ih, hZ _ h2.1 h2.2]
theorem tp_congr' {Y Z : Int → Int} {i e t : Int} (hZ : ∀ p, i < p → p < e → Y p = Z p) (hc : ∀ j, 0 ≤ j → j < t → i < tp Z i j ∧ tp Z i j < e) {j : Int} (h0 : 0 ≤ j) (h1 : j ≤ t) : tp Y i j = tp Z i j := by
  have h := tp_congr hZ hc j.toNat (by omega)
  rw [show ((j.toNat : Nat) : Int) = j by omega] at h
  exact h
set_option maxHeartbeats 1000000 in
theorem c_X0_measure (l : Launch) (E : Ev) (q : Nat → Nat) (sh : List Shp) (σ : Sg) (hs : HsB sh) (x : Int) (Z D : Int → Int) (hx : 0 ≤ x ∧ x < 4) (hW : Wf (σ 7) Z D (x * 30) (σ 6 x)) (hsg : ∀ j, rg (σ 7 j)) : CV l E yX0_measure cX0_measure 6 ({ frames := 3, cells := 0, slots := 0, locals := 60 } : Room) q sh σ [.ref (q 5), vI x] (fun τ => Sm [10, 11] σ τ ∧ (∀ p, x * 30 ≤ p → p < x * 30 + σ 6 x → τ 10 p = Z p ∧ τ 11 p = D p) ∧ (∀ p, ¬ (x * 30 ≤ p ∧ p < x * 30 + σ 6 x) → τ 10 p = σ 10 p ∧ τ 11 p = σ 11 p)) := by
  have hn1 := hW.1
  have hn2 := hW.2.1
  refine CV_of (own := RX0) (by decide) rfl (Nat.le_of_ble_eq_true rfl) (fun X Q F hQ => ?_)
  show G X E 6 q sh σ 0 0 Q 0 [(0, .ref (q 5)), (1, vI x)] []
  refine g_aload_n F 0 rfl rfl d_X0_measure_0 ?_
  refine g_iload_n F 1 rfl rfl d_X0_measure_1 ?_
  refine g_Vi F (own := RX0) (c_X0_root l E q sh σ hs x (by omega)) k_X0_30 (hsB_5 hs) rfl rfl [] d_X0_measure_2 ⟨rfl, rfl, by decide, by decide⟩ ⟨Nat.zero_le _, Nat.zero_le _⟩ rfl (Nat.le_of_ble_eq_true rfl) ?_
  rintro _ _ ⟨rfl, rfl⟩
  refine g_istore_n F (lv' := [(2, vI (x * 30)), (0, .ref (q 5)), (1, vI x)]) rfl (by decide) rfl d_X0_measure_5 ?_
  refine g_iload_n F 0 rfl rfl d_X0_measure_6 ?_
  refine g_aload_n F 1 rfl rfl d_X0_measure_7 ?_
  refine g_iload_n F 2 rfl rfl d_X0_measure_8 ?_
  refine g_Vi F (own := RX0) (c_X0_count l E q sh σ hs x (by omega)) k_X0_66 (hsB_5 hs) rfl rfl [vI (x * 30)] d_X0_measure_9 ⟨rfl, rfl, by decide, by decide⟩ ⟨Nat.zero_le _, Nat.zero_le _⟩ rfl (Nat.le_of_ble_eq_true rfl) ?_
  rintro _ _ ⟨rfl, rfl⟩
  refine G_top (b := σ 6 x) (rfl) ?_
  refine g_iadd F d_X0_measure_12 ?_
  refine g_iconst F d_X0_measure_13 ?_
  refine g_isub F d_X0_measure_14 ?_
  refine g_istore_n F (lv' := [(3, vI (((x * 30) + (σ 6 x)) - 1)), (2, vI (x * 30)), (0, .ref (q 5)), (1, vI x)]) rfl (by decide) rfl d_X0_measure_15 ?_
  have loop16 : ∀ (n : Nat) (i : Int) (τ : Sg), (x * 30 - 1 ≤ i ∧ i ≤ x * 30 + σ 6 x - 1) → (∀ p, i < p → p < x * 30 + σ 6 x → τ 10 p = Z p) → (∀ p, ¬ (x * 30 ≤ p ∧ p < x * 30 + σ 6 x) → τ 10 p = σ 10 p) → (Sm [10] σ τ) → (i - x * 30 + 1).toNat < n → G X E 6 q sh τ 0 0 Q 16 [(0, .ref (q 5)), (1, vI x), (2, vI (x * 30)), (3, vI i)] [] := by
    intro n16
    induction n16 with
    | zero => intro i τ hi hz ho hm hm16; exact absurd hm16 (Nat.not_lt_zero _)
    | succ n16 ih16 =>
      intro i τ hi hz ho hm hm16
      have e6 : τ 6 = σ 6 := hm 6 (by decide)
      have e7 : τ 7 = σ 7 := hm 7 (by decide)
      have e11 : τ 11 = σ 11 := hm 11 (by decide)
      refine g_iload_n F 3 rfl rfl d_X0_measure_16 ?_
      refine g_iload_n F 2 rfl rfl d_X0_measure_17 ?_
      refine g_icmp_lt F d_X0_measure_18 ⟨by omega, by omega⟩ ⟨by omega, by omega⟩ (fun h18 => ?_) (fun h18 => ?_)
      · refine g_aload_n F 0 rfl rfl d_X0_measure_47 ?_
        refine g_iload_n F 2 rfl rfl d_X0_measure_48 ?_
        refine g_iconst F d_X0_measure_49 ?_
        refine g_Vv F (own := RX0) (c_X0_setDepth l E q sh τ hs (x * 30) 0 (by omega)) k_X0_79 (hsB_5 hs) rfl rfl [] d_X0_measure_50 ⟨rfl, rfl, by decide, by decide⟩ ⟨Nat.zero_le _, Nat.zero_le _⟩ rfl (Nat.le_of_ble_eq_true rfl) ?_
        rintro _ rfl
        refine g_iload_n F 2 rfl rfl d_X0_measure_53 ?_
        refine g_istore_n F (lv' := [(3, vI (x * 30)), (0, .ref (q 5)), (1, vI x), (2, vI (x * 30))]) rfl (by decide) rfl d_X0_measure_54 ?_
        have loop55 : ∀ (n : Nat) (i2 : Int) (τ2 : Sg), (x * 30 ≤ i2 ∧ i2 ≤ x * 30 + σ 6 x) → (Sm [11] τ τ2) → (∀ p, x * 30 ≤ p → p < x * 30 + σ 6 x → (p = x * 30 ∨ ∃ r j, x * 30 ≤ r ∧ r < i2 ∧ 0 ≤ j ∧ j < tx (σ 7 r) ∧ p = tp Z r j) → τ2 11 p = D p) → (∀ p, ¬ (x * 30 ≤ p ∧ p < x * 30 + σ 6 x) → τ2 11 p = σ 11 p) → (x * 30 + σ 6 x - i2).toNat < n → G X E 6 q sh τ2 0 0 Q 55 [(0, .ref (q 5)), (1, vI x), (2, vI (x * 30)), (3, vI i2)] [] := by
          intro n55
          induction n55 with
          | zero => intro i2 τ2 hi2 hm2 hd2 ho2 hm55; exact absurd hm55 (Nat.not_lt_zero _)
          | succ n55 ih55 =>
            intro i2 τ2 hi2 hm2 hd2 ho2 hm55
            have f6 : τ2 6 = σ 6 := (hm2 6 (by decide)).trans e6
            have f7 : τ2 7 = σ 7 := (hm2 7 (by decide)).trans e7
            have f10 : τ2 10 = τ 10 := hm2 10 (by decide)
            refine g_iload_n F 3 rfl rfl d_X0_measure_55 ?_
            refine g_iload_n F 2 rfl rfl d_X0_measure_56 ?_
            refine g_aload_n F 0 rfl rfl d_X0_measure_57 ?_
            refine g_iload_n F 1 rfl rfl d_X0_measure_58 ?_
            refine g_Vi F (own := RX0) (c_X0_count l E q sh τ2 hs x (by omega)) k_X0_66 (hsB_5 hs) rfl rfl [vI (x * 30), vI i2] d_X0_measure_59 ⟨rfl, rfl, by decide, by decide⟩ ⟨Nat.zero_le _, Nat.zero_le _⟩ rfl (Nat.le_of_ble_eq_true rfl) ?_
            rintro _ _ ⟨rfl, rfl⟩
            refine G_top (b := σ 6 x) (by rw [f6]) ?_
            refine g_iadd F d_X0_measure_62 ?_
            refine g_icmp_ge F d_X0_measure_63 ⟨by omega, by omega⟩ ⟨by omega, by omega⟩ (fun h63 => ?_) (fun h63 => ?_)
            · exact hQ d_X0_measure_116 (⟨fun k hk => (hm2 k (fun h => hk (by simp at h; simp [h]))).trans (hm k (fun h => hk (by simp at h; simp [h]))), fun p h1 h2 => ⟨by rw [f10]; exact hz p (by omega) h2, hd2 p h1 h2 (by by_cases hb : p = x * 30; exact Or.inl hb; (obtain ⟨r, j, a, b, c, d, e⟩ := (hW.2.2.2.2 p h1 h2).2.2 (by omega); exact Or.inr ⟨r, j, a, by omega, c, d, e⟩))⟩, fun p h => ⟨by rw [f10]; exact ho p h, ho2 p h⟩⟩)
            · have hw2b := (hW.2.2.2.2 i2 (by omega) (by omega)).2.1
              have hT2 := tx_in (σ 7 i2)
              have hcg2 : ∀ j, 0 ≤ j → j ≤ tx (σ 7 i2) → tp (τ 10) i2 j = tp Z i2 j := fun j h0 h1 => tp_congr' (e := x * 30 + σ 6 x) (fun p h1 h2 => hz p (by omega) h2) (fun j h0 h1 => ⟨(hw2b j h0 h1).1, (hw2b j h0 h1).2.1⟩) h0 h1
              have hdi2 : τ2 11 i2 = D i2 := by
                apply hd2 i2 (by omega) (by omega)
                by_cases hb : i2 = x * 30
                · exact Or.inl hb
                · obtain ⟨r, j, a, b, c, d, e⟩ := (hW.2.2.2.2 i2 (by omega) (by omega)).2.2 (by omega)
                  exact Or.inr ⟨r, j, a, b, c, d, e⟩
              refine g_aload_n F 0 rfl rfl d_X0_measure_66 ?_
              refine g_iload_n F 3 rfl rfl d_X0_measure_67 ?_
              refine g_Vi F (own := RX0) (c_X0_signAt l E q sh τ2 hs i2 (by omega)) k_X0_68 (hsB_5 hs) rfl rfl [] d_X0_measure_68 ⟨rfl, rfl, by decide, by decide⟩ ⟨Nat.zero_le _, Nat.zero_le _⟩ rfl (Nat.le_of_ble_eq_true rfl) ?_
              rintro _ _ ⟨rfl, rfl⟩
              refine G_top (b := σ 7 i2) (by rw [f7]) ?_
              refine g_Si F (own := RX0) (c_X6_textsOf l E q sh τ2 (σ 7 i2) (hsg _)) k_X0_69 [] d_X0_measure_71 ⟨rfl, rfl, by decide, by decide⟩ ⟨Nat.zero_le _, Nat.zero_le _⟩ rfl (Nat.le_of_ble_eq_true rfl) ?_
              rintro _ _ ⟨rfl, rfl⟩
              refine g_istore F (lv' := [(4, vI (tx (σ 7 i2))), (0, .ref (q 5)), (1, vI x), (2, vI (x * 30)), (3, vI i2)]) (by decide) rfl d_X0_measure_74 ?_
              refine g_iconst F d_X0_measure_76 ?_
              refine g_istore F (lv' := [(5, vI 0), (4, vI (tx (σ 7 i2))), (0, .ref (q 5)), (1, vI x), (2, vI (x * 30)), (3, vI i2)]) (by decide) rfl d_X0_measure_77 ?_
              have loop79 : ∀ (n : Nat) (t : Int) (τ3 : Sg), (0 ≤ t ∧ t ≤ tx (σ 7 i2)) → (Sm [11] τ τ3) → (∀ p, x * 30 ≤ p → p < x * 30 + σ 6 x → (p = x * 30 ∨ (∃ r j, x * 30 ≤ r ∧ r < i2 ∧ 0 ≤ j ∧ j < tx (σ 7 r) ∧ p = tp Z r j) ∨ ∃ j, 0 ≤ j ∧ j < t ∧ p = tp Z i2 j) → τ3 11 p = D p) → (∀ p, ¬ (x * 30 ≤ p ∧ p < x * 30 + σ 6 x) → τ3 11 p = σ 11 p) → (tx (σ 7 i2) - t).toNat < n → G X E 6 q sh τ3 0 0 Q 79 [(0, .ref (q 5)), (1, vI x), (2, vI (x * 30)), (3, vI i2), (4, vI (tx (σ 7 i2))), (5, vI t)] [] := by
                intro n79
                induction n79 with
                | zero => intro t τ3 ht hm3 hd3 ho3 hm79; exact absurd hm79 (Nat.not_lt_zero _)
                | succ n79 ih79 =>
                  intro t τ3 ht hm3 hd3 ho3 hm79
                  have g10 : τ3 10 = τ 10 := hm3 10 (by decide)
                  refine g_iload F 5 rfl d_X0_measure_79 ?_
                  refine g_iload F 4 rfl d_X0_measure_81 ?_
                  refine g_icmp_ge F d_X0_measure_83 ⟨by omega, by omega⟩ ⟨by omega, by omega⟩ (fun h83 => ?_) (fun h83 => ?_)
                  · refine g_iinc F (lv' := [(3, vI (i2 + 1)), (0, .ref (q 5)), (1, vI x), (2, vI (x * 30)), (4, vI (tx (σ 7 i2))), (5, vI t)]) 3 rfl rfl (by decide) rfl d_X0_measure_110 ?_
                    refine g_goto F d_X0_measure_113 ?_
                    have hs1 : ∀ p, x * 30 ≤ p → p < x * 30 + σ 6 x → (p = x * 30 ∨ ∃ r j, x * 30 ≤ r ∧ r < i2 + 1 ∧ 0 ≤ j ∧ j < tx (σ 7 r) ∧ p = tp Z r j) → τ3 11 p = D p := by
                      intro p h1 h2 h3
                      apply hd3 p h1 h2
                      rcases h3 with h3 | ⟨r, j, a, b, c, d, e⟩
                      · exact Or.inl h3
                      · by_cases hr : r = i2
                        · rw [hr] at d e; exact Or.inr (Or.inr ⟨j, c, by omega, e⟩)
                        · exact Or.inr (Or.inl ⟨r, j, a, by omega, c, d, e⟩)
                    refine G_sub (ks := [1, 2, 3, 0]) rfl ?_
                    exact ih55 (i2 + 1) τ3 (by omega) hm3 hs1 ho3 (by omega)
                  · have hch := hw2b t ht.1 (by omega)
                    have hdi : τ3 11 i2 = D i2 := by
                      apply hd3 i2 (by omega) (by omega)
                      by_cases hb : i2 = x * 30
                      · exact Or.inl hb
                      · obtain ⟨r, j, a, b, c, d, e⟩ := (hW.2.2.2.2 i2 (by omega) (by omega)).2.2 (by omega)
                        exact Or.inr (Or.inl ⟨r, j, a, b, c, d, e⟩)
                    refine g_aload_n F 0 rfl rfl d_X0_measure_86 ?_
                    refine g_aload_n F 0 rfl rfl d_X0_measure_87 ?_
                    refine g_iload_n F 3 rfl rfl d_X0_measure_88 ?_
                    refine g_iload F 5 rfl d_X0_measure_89 ?_
                    refine g_Vi F (own := RX0) (c_X0_textPlace l E q sh τ3 hs i2 t (by omega) (by omega) (fun j h0 h1 => by rw [g10, hcg2 j h0 (by omega)]; have := hw2b j h0 (by omega); omega)) k_X0_72 (hsB_5 hs) rfl rfl [.ref (q 5)] d_X0_measure_91 ⟨rfl, rfl, by decide, by decide⟩ ⟨Nat.zero_le _, Nat.zero_le _⟩ rfl (Nat.le_of_ble_eq_true rfl) ?_
                    rintro _ _ ⟨rfl, rfl⟩
                    refine G_top (b := tp Z i2 t) (by rw [g10]; exact hcg2 t ht.1 ht.2) ?_
                    refine g_aload_n F 0 rfl rfl d_X0_measure_94 ?_
                    refine g_iload_n F 3 rfl rfl d_X0_measure_95 ?_
                    refine g_Vi F (own := RX0) (c_X0_depthAt l E q sh τ3 hs i2 (by omega)) k_X0_82 (hsB_5 hs) rfl rfl [vI (tp Z i2 t), .ref (q 5)] d_X0_measure_96 ⟨rfl, rfl, by decide, by decide⟩ ⟨Nat.zero_le _, Nat.zero_le _⟩ rfl (Nat.le_of_ble_eq_true rfl) ?_
                    rintro _ _ ⟨rfl, rfl⟩
                    refine g_iconst F d_X0_measure_99 ?_
                    refine g_iadd F d_X0_measure_100 ?_
                    refine g_Vv F (own := RX0) (c_X0_setDepth l E q sh τ3 hs (tp Z i2 t) ((τ3 11 i2) + 1) (by omega)) k_X0_79 (hsB_5 hs) rfl rfl [] d_X0_measure_101 ⟨rfl, rfl, by decide, by decide⟩ ⟨Nat.zero_le _, Nat.zero_le _⟩ rfl (Nat.le_of_ble_eq_true rfl) ?_
                    rintro _ rfl
                    refine g_iinc F (lv' := [(5, vI (t + 1)), (0, .ref (q 5)), (1, vI x), (2, vI (x * 30)), (3, vI i2), (4, vI (tx (σ 7 i2)))]) 5 rfl rfl (by decide) rfl d_X0_measure_104 ?_
                    refine g_goto F d_X0_measure_107 ?_
                    have hs2 : ∀ p, x * 30 ≤ p → p < x * 30 + σ 6 x → (p = x * 30 ∨ (∃ r j, x * 30 ≤ r ∧ r < i2 ∧ 0 ≤ j ∧ j < tx (σ 7 r) ∧ p = tp Z r j) ∨ ∃ j, 0 ≤ j ∧ j < t + 1 ∧ p = tp Z i2 j) → (up τ3 11 (tp Z i2 t) ((τ3 11 i2) + 1)) 11 p = D p := by
                      intro p h1 h2 h3
                      rw [up_at]
                      split
                      · rename_i e; rw [e, hdi, hch.2.2]
                      · rename_i e
                        apply hd3 p h1 h2
                        rcases h3 with h3 | h3 | ⟨j, a, b, c⟩
                        · exact Or.inl h3
                        · exact Or.inr (Or.inl h3)
                        · by_cases hj : j = t
                          · rw [hj] at c; exact absurd c e
                          · exact Or.inr (Or.inr ⟨j, a, by omega, c⟩)
                    have hs3 : ∀ p, ¬ (x * 30 ≤ p ∧ p < x * 30 + σ 6 x) → (up τ3 11 (tp Z i2 t) ((τ3 11 i2) + 1)) 11 p = σ 11 p := by
                      intro p h
                      rw [up_other _ _ (by omega)]
                      exact ho3 p h
                    refine G_sub (ks := [1, 2, 3, 4, 5, 0]) rfl ?_
                    exact ih79 (t + 1) (up τ3 11 (tp Z i2 t) ((τ3 11 i2) + 1)) (by omega) (hm3.up (by decide) _ _) hs2 hs3 (by omega)
              refine G_sub (ks := [2, 3, 4, 5, 1, 0]) rfl ?_
              exact loop79 _ 0 τ2 (by have := tx_in (σ 7 i2); omega) hm2 (fun p h1 h2 h3 => hd2 p h1 h2 (by rcases h3 with h3 | h3 | ⟨j, a, b, _⟩; exact Or.inl h3; exact Or.inr h3; (exfalso; omega))) ho2 (Nat.lt_succ_self _)
        have hq1 : ∀ p, x * 30 ≤ p → p < x * 30 + σ 6 x → (p = x * 30 ∨ ∃ r j, x * 30 ≤ r ∧ r < x * 30 ∧ 0 ≤ j ∧ j < tx (σ 7 r) ∧ p = tp Z r j) → (up τ 11 (x * 30) 0) 11 p = D p := by
          intro p h1 h2 h3
          rcases h3 with h3 | ⟨r, j, a, b, _⟩
          · rw [h3, up_same]; exact hW.2.2.2.1.symm
          · exfalso; omega
        have hq2 : ∀ p, ¬ (x * 30 ≤ p ∧ p < x * 30 + σ 6 x) → (up τ 11 (x * 30) 0) 11 p = σ 11 p := by
          intro p h
          rw [up_other _ _ (by omega), e11]
        refine G_sub (ks := [1, 2, 3, 0]) rfl ?_
        exact loop55 _ (x * 30) (up τ 11 (x * 30) 0) (by omega) ((Sm.refl _ _).up (by decide) _ _) hq1 hq2 (Nat.lt_succ_self _)
      · have hwa := (hW.2.2.2.2 i (by omega) (by omega)).1
        have hwb := (hW.2.2.2.2 i (by omega) (by omega)).2.1
        have hT := tx_in (σ 7 i)
        have hcg : ∀ j, 0 ≤ j → j ≤ tx (σ 7 i) → tp (τ 10) i j = tp Z i j := fun j h0 h1 => tp_congr' (e := x * 30 + σ 6 x) (fun p h1 h2 => hz p h1 h2) (fun j h0 h1 => ⟨(hwb j h0 h1).1, (hwb j h0 h1).2.1⟩) h0 h1
        refine g_aload_n F 0 rfl rfl d_X0_measure_21 ?_
        refine g_iload_n F 3 rfl rfl d_X0_measure_22 ?_
        refine g_aload_n F 0 rfl rfl d_X0_measure_23 ?_
        refine g_iload_n F 3 rfl rfl d_X0_measure_24 ?_
        refine g_aload_n F 0 rfl rfl d_X0_measure_25 ?_
        refine g_iload_n F 3 rfl rfl d_X0_measure_26 ?_
        refine g_Vi F (own := RX0) (c_X0_signAt l E q sh τ hs i (by omega)) k_X0_68 (hsB_5 hs) rfl rfl [vI i, .ref (q 5), vI i, .ref (q 5)] d_X0_measure_27 ⟨rfl, rfl, by decide, by decide⟩ ⟨Nat.zero_le _, Nat.zero_le _⟩ rfl (Nat.le_of_ble_eq_true rfl) ?_
        rintro _ _ ⟨rfl, rfl⟩
        refine G_top (b := σ 7 i) (by rw [e7]) ?_
        refine g_Si F (own := RX0) (c_X6_textsOf l E q sh τ (σ 7 i) (hsg _)) k_X0_69 [vI i, .ref (q 5), vI i, .ref (q 5)] d_X0_measure_30 ⟨rfl, rfl, by decide, by decide⟩ ⟨Nat.zero_le _, Nat.zero_le _⟩ rfl (Nat.le_of_ble_eq_true rfl) ?_
        rintro _ _ ⟨rfl, rfl⟩
        refine g_Vi F (own := RX0) (c_X0_textPlace l E q sh τ hs i (tx (σ 7 i)) (by omega) hT (fun j h0 h1 => by rw [hcg j h0 (by omega)]; have := hwb j h0 h1; omega)) k_X0_72 (hsB_5 hs) rfl rfl [vI i, .ref (q 5)] d_X0_measure_33 ⟨rfl, rfl, by decide, by decide⟩ ⟨Nat.zero_le _, Nat.zero_le _⟩ rfl (Nat.le_of_ble_eq_true rfl) ?_
        rintro _ _ ⟨rfl, rfl⟩
        refine G_top (b := tp Z i (tx (σ 7 i))) (hcg _ hT.1 (Int.le_refl _)) ?_
        refine g_iload_n F 3 rfl rfl d_X0_measure_36 ?_
        refine g_isub F d_X0_measure_37 ?_
        refine g_Vv F (own := RX0) (c_X0_setSpan l E q sh τ hs i ((tp Z i (tx (σ 7 i))) - i) (by omega)) k_X0_76 (hsB_5 hs) rfl rfl [] d_X0_measure_38 ⟨rfl, rfl, by decide, by decide⟩ ⟨Nat.zero_le _, Nat.zero_le _⟩ rfl (Nat.le_of_ble_eq_true rfl) ?_
        rintro _ rfl
        refine g_iinc F (lv' := [(3, vI (i + (-1))), (0, .ref (q 5)), (1, vI x), (2, vI (x * 30))]) 3 rfl rfl (by decide) rfl d_X0_measure_41 ?_
        refine g_goto F d_X0_measure_44 ?_
        refine G_sub (ks := [1, 2, 3, 0]) rfl ?_
        exact ih16 (i + (-1)) (up τ 10 i ((tp Z i (tx (σ 7 i))) - i)) (by omega) (fun p h1 h2 => by rw [up_at]; split; (rename_i e; rw [e, hwa.1]); exact hz p (by omega) h2) (fun p h => by rw [up_other _ _ (by omega)]; exact ho p h) (hm.up (by decide) _ _) (by omega)
  refine G_sub (ks := [2, 3, 1, 0]) rfl ?_
  exact loop16 _ (((x * 30) + (σ 6 x)) - 1) σ (by omega) (fun p h1 h2 => by exfalso; omega) (fun _ _ => rfl) (Sm.refl _ _) (Nat.lt_succ_self _)
end
section
theorem hop_shift (Z : Int → Int) (b a : Int) : ∀ k : Nat, hop (fun p => Z (p - b)) (b + a) k = b + hop Z a k
  | 0 => rfl
  | k + 1 => by
    show hop (fun p => Z (p - b)) (b + a) k + Z (hop (fun p => Z (p - b)) (b + a) k - b) = b + (hop Z a k + Z (hop Z a k))
    rw [hop_shift Z b a k, show b + hop Z a k - b = hop Z a k by omega]
    omega
theorem tp_shift (Z : Int → Int) (b i j : Int) : tp (fun p => Z (p - b)) (b + i) j = b + tp Z i j := by
  unfold tp
  rw [show b + i + 1 = b + (i + 1) by omega]
  exact hop_shift Z b (i + 1) j.toNat
theorem Wf.shift {S S' Z D : Int → Int} {b n : Int} (h : Wf S Z D 0 n) (hS : ∀ i, 0 ≤ i → i < n → S' (b + i) = S i) : Wf S' (fun p => Z (p - b)) (fun p => D (p - b)) b n := by
  obtain ⟨h1, h2, h3, h4, h5⟩ := h
  refine ⟨h1, h2, by show Z (b - b) = n; rw [Int.sub_self]; exact h3, by show D (b - b) = 0; rw [Int.sub_self]; exact h4, ?_⟩
  intro p hp1 hp2
  obtain ⟨i, rfl⟩ : ∃ i, p = b + i := ⟨p - b, by omega⟩
  obtain ⟨⟨a1, a2, a3, a4, a5⟩, b1, c1⟩ := h5 i (by omega) (by omega)
  rw [hS i (by omega) (by omega)]
  refine ⟨⟨?_, ?_, ?_, ?_, ?_⟩, ?_, ?_⟩
  · rw [tp_shift]
    show Z (b + i - b) = _
    rw [show b + i - b = i by omega, a1]
    omega
  · show b + i + Z (b + i - b) ≤ b + n
    rw [show b + i - b = i by omega]; omega
  · show 1 ≤ Z (b + i - b)
    rw [show b + i - b = i by omega]; exact a3
  · show 0 ≤ D (b + i - b)
    rw [show b + i - b = i by omega]; exact a4
  · show D (b + i - b) ≤ 9
    rw [show b + i - b = i by omega]; exact a5
  · intro j hj0 hj1
    obtain ⟨d1, d2, d3⟩ := b1 j hj0 hj1
    rw [tp_shift]
    refine ⟨by omega, by omega, ?_⟩
    show D (b + tp Z i j - b) = D (b + i - b) + 1
    rw [show b + tp Z i j - b = tp Z i j by omega, show b + i - b = i by omega]; exact d3
  · intro hb
    obtain ⟨r, j, e1, e2, e3, e4, e5⟩ := c1 (by omega)
    refine ⟨b + r, j, by omega, by omega, e3, by rw [hS r (by omega) (by omega)]; exact e4, by rw [tp_shift, ← e5]⟩
theorem Wf.congr {S S' Z Z' D D' : Int → Int} {b n : Int} (h : Wf S Z D b n) (hS : ∀ p, b ≤ p → p < b + n → S' p = S p ∧ Z' p = Z p ∧ D' p = D p) : Wf S' Z' D' b n := by
  obtain ⟨h1, h2, h3, h4, h5⟩ := h
  refine ⟨h1, h2, by rw [(hS b (by omega) (by omega)).2.1]; exact h3, by rw [(hS b (by omega) (by omega)).2.2]; exact h4, ?_⟩
  intro p hp1 hp2
  obtain ⟨e1, e2, e3⟩ := hS p hp1 hp2
  obtain ⟨⟨a1, a2, a3, a4, a5⟩, b1, c1⟩ := h5 p hp1 hp2
  have ht := tx_in (S p)
  have hc : ∀ (q : Int), b ≤ q → q < b + n → ∀ j, 0 ≤ j → j ≤ tx (S q) → tp Z' q j = tp Z q j := by
    intro q hq1 hq2 j hj0 hj1
    exact tp_congr' (e := b + n) (fun p h1 h2 => (hS p (by omega) h2).2.1) (fun j h0 h1 => ⟨((h5 q hq1 hq2).2.1 j h0 h1).1, ((h5 q hq1 hq2).2.1 j h0 h1).2.1⟩) hj0 hj1
  rw [e1, e2, e3]
  refine ⟨⟨by rw [hc p hp1 hp2 _ ht.1 (Int.le_refl _)]; exact a1, a2, a3, a4, a5⟩, ?_, ?_⟩
  · intro j hj0 hj1
    obtain ⟨d1, d2, d3⟩ := b1 j hj0 hj1
    rw [hc p hp1 hp2 j hj0 (by omega)]
    exact ⟨d1, d2, by rw [(hS _ (by omega) d2).2.2]; exact d3⟩
  · intro hb
    obtain ⟨r, j, f1, f2, f3, f4, f5⟩ := c1 hb
    exact ⟨r, j, f1, f2, f3, by rw [(hS r f1 (by omega)).1]; exact f4, by rw [hc r f1 (by omega) j f3 (by omega)]; exact f5⟩
set_option maxHeartbeats 1000000 in
theorem c_X0_put (l : Launch) (E : Ev) (q : Nat → Nat) (sh : List Shp) (σ : Sg) (hs : HsC sh) (x : Int) (Z D : Int → Int) (hx : 0 ≤ x ∧ x < 4) (hW : Wf (σ 2) Z D 0 (σ 1 1)) (hsg : ∀ j, rg (σ 2 j)) (hsg7 : ∀ j, rg (σ 7 j)) : CV l E yX0_put cX0_put 4 ({ frames := 4, cells := 0, slots := 0, locals := 85 } : Room) q sh σ [.ref (q 5), vI x, .ref (q 1)] (fun τ => Sm [6, 7, 8, 9, 10, 11] σ τ ∧ τ 6 x = σ 1 1 ∧ (∀ g, g ≠ x → τ 6 g = σ 6 g) ∧ (∀ i, 0 ≤ i → i < σ 1 1 → τ 7 (x * 30 + i) = σ 2 i ∧ τ 8 (x * 30 + i) = kd (σ 2 i) ∧ τ 9 (x * 30 + i) = wo (σ 2 i) ∧ τ 10 (x * 30 + i) = Z i ∧ τ 11 (x * 30 + i) = D i) ∧ (∀ p, ¬ (x * 30 ≤ p ∧ p < x * 30 + σ 1 1) → τ 7 p = σ 7 p ∧ τ 8 p = σ 8 p ∧ τ 9 p = σ 9 p ∧ τ 10 p = σ 10 p ∧ τ 11 p = σ 11 p) ∧ ∀ j, rg (τ 7 j)) := by
  have hn1 := hW.1
  have hn2 := hW.2.1
  refine CV_of (own := RX0) (by decide) rfl (Nat.le_of_ble_eq_true rfl) (fun X Q F hQ => ?_)
  show G X E 4 q sh σ 0 0 Q 0 [(0, .ref (q 5)), (1, vI x), (2, .ref (q 1))] []
  refine g_iload_n F 1 rfl rfl d_X0_put_0 ?_
  refine g_Ni F (own := RX0) (c_X8_isFunction l E q sh σ x ⟨by omega, by omega⟩) k_X0_42 [] d_X0_put_1 ⟨rfl, rfl, by decide, by decide⟩ ⟨Nat.zero_le _, Nat.zero_le _⟩ rfl (Nat.le_of_ble_eq_true rfl) ?_
  rintro _ _ ⟨rfl, rfl⟩
  refine g_b_ne F d_X0_put_4 (fun h4 => ?_) (fun h4 => by exfalso; omega)
  refine g_aload_n F 0 rfl rfl d_X0_put_8 ?_
  refine g_getR F f_X0_9 d_X0_put_9 (hsC_5 hs) rfl ?_
  refine g_iload_n F 1 rfl rfl d_X0_put_12 ?_
  refine g_aload_n F 2 rfl rfl d_X0_put_13 ?_
  refine g_Vi F (own := RX0) (c_X4_count l E q sh σ hs  ) k_X0_46 (hsC_1 hs) rfl rfl [vI x, .ref (q 6)] d_X0_put_14 ⟨rfl, rfl, by decide, by decide⟩ ⟨Nat.zero_le _, Nat.zero_le _⟩ rfl (Nat.le_of_ble_eq_true rfl) ?_
  rintro _ _ ⟨rfl, rfl⟩
  refine G_top (b := σ 1 1) (rfl) ?_
  refine g_iastore F d_X0_put_17 (hsC_6 hs) (by omega) (by omega) (by decide) ?_
  refine g_iconst F d_X0_put_18 ?_
  refine g_istore_n F (lv' := [(3, vI 0), (0, .ref (q 5)), (1, vI x), (2, .ref (q 1))]) rfl (by decide) rfl d_X0_put_19 ?_
  have loop20 : ∀ (n : Nat) (i : Int) (τ : Sg), (0 ≤ i ∧ i ≤ σ 1 1) → (Sm [6, 7, 8, 9] σ τ) → (τ 6 = up σ 6 x (σ 1 1) 6) → (∀ k, 0 ≤ k → k < i → τ 7 (x * 30 + k) = σ 2 k ∧ τ 8 (x * 30 + k) = kd (σ 2 k) ∧ τ 9 (x * 30 + k) = wo (σ 2 k)) → (∀ p, ¬ (x * 30 ≤ p ∧ p < x * 30 + σ 1 1) → τ 7 p = σ 7 p ∧ τ 8 p = σ 8 p ∧ τ 9 p = σ 9 p) → (∀ j, rg (τ 7 j)) → (σ 1 1 - i).toNat < n → G X E 4 q sh τ 0 0 Q 20 [(0, .ref (q 5)), (1, vI x), (2, .ref (q 1)), (3, vI i)] [] := by
    intro n20
    induction n20 with
    | zero => intro i τ hi hm h6 hin ho hr7 hm20; exact absurd hm20 (Nat.not_lt_zero _)
    | succ n20 ih20 =>
      intro i τ hi hm h6 hin ho hr7 hm20
      have e1 : τ 1 = σ 1 := hm 1 (by decide)
      have e2 : τ 2 = σ 2 := hm 2 (by decide)
      have e10 : τ 10 = σ 10 := hm 10 (by decide)
      have e11 : τ 11 = σ 11 := hm 11 (by decide)
      refine g_iload_n F 3 rfl rfl d_X0_put_20 ?_
      refine g_aload_n F 2 rfl rfl d_X0_put_21 ?_
      refine g_Vi F (own := RX0) (c_X4_count l E q sh τ hs  ) k_X0_46 (hsC_1 hs) rfl rfl [vI i] d_X0_put_22 ⟨rfl, rfl, by decide, by decide⟩ ⟨Nat.zero_le _, Nat.zero_le _⟩ rfl (Nat.le_of_ble_eq_true rfl) ?_
      rintro _ _ ⟨rfl, rfl⟩
      refine G_top (b := σ 1 1) (by rw [e1]) ?_
      refine g_icmp_ge F d_X0_put_25 ⟨by omega, by omega⟩ ⟨by omega, by omega⟩ (fun h25 => ?_) (fun h25 => ?_)
      · have h9 : τ 6 x = σ 1 1 := by rw [h6, up_same]
        refine g_aload_n F 0 rfl rfl d_X0_put_50 ?_
        refine g_iload_n F 1 rfl rfl d_X0_put_51 ?_
        refine g_Vv F (own := RX0) (c_X0_measure l E q sh τ hs.B x (fun p => Z (p - x * 30)) (fun p => D (p - x * 30)) hx (by rw [h9]; exact hW.shift (fun k h1 h2 => (hin k h1 (by omega)).1)) hr7) k_X0_38 (hsC_5 hs) rfl rfl [] d_X0_put_52 ⟨rfl, rfl, by decide, by decide⟩ ⟨Nat.zero_le _, Nat.zero_le _⟩ rfl (Nat.le_of_ble_eq_true rfl) ?_
        intro τ2 hp
        rw [h9] at hp
        have n6 : τ2 6 = τ 6 := hp.1 6 (by decide)
        have n7 : τ2 7 = τ 7 := hp.1 7 (by decide)
        have n8 : τ2 8 = τ 8 := hp.1 8 (by decide)
        have n9 : τ2 9 = τ 9 := hp.1 9 (by decide)
        have q4 : ∀ k, 0 ≤ k → k < σ 1 1 → τ2 7 (x * 30 + k) = σ 2 k ∧ τ2 8 (x * 30 + k) = kd (σ 2 k) ∧ τ2 9 (x * 30 + k) = wo (σ 2 k) ∧ τ2 10 (x * 30 + k) = Z k ∧ τ2 11 (x * 30 + k) = D k := by
          intro k h1 h2
          have q5 := hp.2.1 (x * 30 + k) (by omega) (by omega)
          rw [show x * 30 + k - x * 30 = k by omega] at q5
          rw [n7, n8, n9]
          have q6 := hin k h1 (by omega)
          exact ⟨q6.1, q6.2.1, q6.2.2, q5.1, q5.2⟩
        have q7 : ∀ p, ¬ (x * 30 ≤ p ∧ p < x * 30 + σ 1 1) → τ2 7 p = σ 7 p ∧ τ2 8 p = σ 8 p ∧ τ2 9 p = σ 9 p ∧ τ2 10 p = σ 10 p ∧ τ2 11 p = σ 11 p := by
          intro p h
          have q5 := hp.2.2 p h
          rw [e10, e11] at q5
          have q6 := ho p h
          rw [n7, n8, n9]
          exact ⟨q6.1, q6.2.1, q6.2.2, q5.1, q5.2⟩
        have q8 : Sm [6, 7, 8, 9, 10, 11] σ τ2 := (hm.wide (by decide)).trans (hp.1.wide (by decide))
        exact hQ d_X0_put_55 (⟨q8, by rw [n6]; exact h9, fun g hg => by rw [n6, h6, up_other _ _ hg], q4, q7, by rw [n7]; exact hr7⟩)
      · refine g_aload_n F 0 rfl rfl d_X0_put_28 ?_
        refine g_aload_n F 0 rfl rfl d_X0_put_29 ?_
        refine g_iload_n F 1 rfl rfl d_X0_put_30 ?_
        refine g_Vi F (own := RX0) (c_X0_root l E q sh τ hs.B x hx) k_X0_30 (hsC_5 hs) rfl rfl [.ref (q 5)] d_X0_put_31 ⟨rfl, rfl, by decide, by decide⟩ ⟨Nat.zero_le _, Nat.zero_le _⟩ rfl (Nat.le_of_ble_eq_true rfl) ?_
        rintro _ _ ⟨rfl, rfl⟩
        refine g_iload_n F 3 rfl rfl d_X0_put_34 ?_
        refine g_iadd F d_X0_put_35 ?_
        refine g_aload_n F 2 rfl rfl d_X0_put_36 ?_
        refine g_iload_n F 3 rfl rfl d_X0_put_37 ?_
        refine g_Vi F (own := RX0) (c_X4_signAt l E q sh τ hs i ⟨by omega, by rw [e1]; omega, by rw [e1]; omega⟩) k_X0_52 (hsC_1 hs) rfl rfl [vI ((x * 30) + i), .ref (q 5)] d_X0_put_38 ⟨rfl, rfl, by decide, by decide⟩ ⟨Nat.zero_le _, Nat.zero_le _⟩ rfl (Nat.le_of_ble_eq_true rfl) ?_
        rintro _ _ ⟨rfl, rfl⟩
        refine G_top (b := σ 2 i) (by rw [e2]) ?_
        refine g_Vv F (own := RX0) (c_X0_setSign l E q sh τ hs.B ((x * 30) + i) (σ 2 i) (by omega) (hsg _)) k_X0_34 (hsC_5 hs) rfl rfl [] d_X0_put_41 ⟨rfl, rfl, by decide, by decide⟩ ⟨Nat.zero_le _, Nat.zero_le _⟩ rfl (Nat.le_of_ble_eq_true rfl) ?_
        rintro _ rfl
        refine g_iinc F (lv' := [(3, vI (i + 1)), (0, .ref (q 5)), (1, vI x), (2, .ref (q 1))]) 3 rfl rfl (by decide) rfl d_X0_put_44 ?_
        refine g_goto F d_X0_put_47 ?_
        have s7 : (up (up (up τ 7 ((x * 30) + i) (σ 2 i)) 8 ((x * 30) + i) (kd (σ 2 i))) 9 ((x * 30) + i) (wo (σ 2 i))) 7 = up τ 7 (x * 30 + i) (σ 2 i) 7 := by rw [up_ne _ (by decide), up_ne _ (by decide)]
        have s8 : (up (up (up τ 7 ((x * 30) + i) (σ 2 i)) 8 ((x * 30) + i) (kd (σ 2 i))) 9 ((x * 30) + i) (wo (σ 2 i))) 8 = up τ 8 (x * 30 + i) (kd (σ 2 i)) 8 := by rw [up_ne _ (by decide)]; funext j; rw [up_at, up_at, up_ne _ (by decide)]
        have s9 : (up (up (up τ 7 ((x * 30) + i) (σ 2 i)) 8 ((x * 30) + i) (kd (σ 2 i))) 9 ((x * 30) + i) (wo (σ 2 i))) 9 = up τ 9 (x * 30 + i) (wo (σ 2 i)) 9 := by funext j; rw [up_at, up_at, up_ne _ (by decide), up_ne _ (by decide)]
        have q1 : ∀ k, 0 ≤ k → k < i + 1 → (up (up (up τ 7 ((x * 30) + i) (σ 2 i)) 8 ((x * 30) + i) (kd (σ 2 i))) 9 ((x * 30) + i) (wo (σ 2 i))) 7 (x * 30 + k) = σ 2 k ∧ (up (up (up τ 7 ((x * 30) + i) (σ 2 i)) 8 ((x * 30) + i) (kd (σ 2 i))) 9 ((x * 30) + i) (wo (σ 2 i))) 8 (x * 30 + k) = kd (σ 2 k) ∧ (up (up (up τ 7 ((x * 30) + i) (σ 2 i)) 8 ((x * 30) + i) (kd (σ 2 i))) 9 ((x * 30) + i) (wo (σ 2 i))) 9 (x * 30 + k) = wo (σ 2 k) := by
          intro k h1 h2
          rw [s7, s8, s9]
          by_cases hk : k = i
          · subst hk; rw [up_same, up_same, up_same]; exact ⟨rfl, rfl, rfl⟩
          · rw [up_other _ _ (by omega), up_other _ _ (by omega), up_other _ _ (by omega)]; exact hin k h1 (by omega)
        have q2 : ∀ p, ¬ (x * 30 ≤ p ∧ p < x * 30 + σ 1 1) → (up (up (up τ 7 ((x * 30) + i) (σ 2 i)) 8 ((x * 30) + i) (kd (σ 2 i))) 9 ((x * 30) + i) (wo (σ 2 i))) 7 p = σ 7 p ∧ (up (up (up τ 7 ((x * 30) + i) (σ 2 i)) 8 ((x * 30) + i) (kd (σ 2 i))) 9 ((x * 30) + i) (wo (σ 2 i))) 8 p = σ 8 p ∧ (up (up (up τ 7 ((x * 30) + i) (σ 2 i)) 8 ((x * 30) + i) (kd (σ 2 i))) 9 ((x * 30) + i) (wo (σ 2 i))) 9 p = σ 9 p := by
          intro p h
          rw [s7, s8, s9, up_other _ _ (by omega), up_other _ _ (by omega), up_other _ _ (by omega)]; exact ho p h
        have q3 : ∀ j, rg ((up (up (up τ 7 ((x * 30) + i) (σ 2 i)) 8 ((x * 30) + i) (kd (σ 2 i))) 9 ((x * 30) + i) (wo (σ 2 i))) 7 j) := by
          intro j
          rw [s7, up_at]
          split
          · exact hsg i
          · exact hr7 j
        refine G_sub (ks := [1, 2, 3, 0]) rfl ?_
        exact ih20 (i + 1) (up (up (up τ 7 ((x * 30) + i) (σ 2 i)) 8 ((x * 30) + i) (kd (σ 2 i))) 9 ((x * 30) + i) (wo (σ 2 i))) (by omega) (((hm.up (by decide) _ _).up (by decide) _ _).up (by decide) _ _) (by rw [up_ne _ (by decide), up_ne _ (by decide), up_ne _ (by decide)]; exact h6) q1 q2 q3 (by omega)
  refine G_sub (ks := [1, 2, 3, 0]) rfl ?_
  exact loop20 _ 0 (up σ 6 x (σ 1 1)) (by omega) ((Sm.refl _ _).up (by decide) _ _) rfl (fun k h1 h2 => by exfalso; omega) (fun p _ => ⟨rfl, rfl, rfl⟩) hsg7 (Nat.lt_succ_self _)
end
section
/-! bits of small numbers -/
theorem fa_and (a b : Nat) : nI a &&& nI b = nI (a &&& b) := by
  apply Int32.toBitVec_inj.1
  show BitVec.ofNat 32 a &&& BitVec.ofNat 32 b = BitVec.ofNat 32 (a &&& b)
  apply BitVec.eq_of_getLsbD_eq
  intro i hi
  simp [hi]
theorem fa_or (a b : Nat) : nI a ||| nI b = nI (a ||| b) := by
  apply Int32.toBitVec_inj.1
  show BitVec.ofNat 32 a ||| BitVec.ofNat 32 b = BitVec.ofNat 32 (a ||| b)
  apply BitVec.eq_of_getLsbD_eq
  intro i hi
  simp [hi]
theorem s_l : ∀ n, n < 32 → ((nI n &&& 31).toBitVec.smod 32).toNat = n := by decide +kernel
theorem iI_nI (n : Nat) : iI (n : Int) = nI n := iI_nat n
theorem bAnd_nat {m n : Nat} (hm : m < 2 ^ 31) : bAnd m n = ((m &&& n : Nat) : Int) := by
  unfold bAnd
  rw [iI_nI, iI_nI, fa_and, nI_toInt (Nat.lt_of_le_of_lt Nat.and_le_left hm)]
theorem bOr_nat {m n k : Nat} (hm : m < 2 ^ k) (hn : n < 2 ^ k) (hk : k ≤ 31) : bOr m n = ((m ||| n : Nat) : Int) := by
  unfold bOr
  rw [iI_nI, iI_nI, fa_or, nI_toInt (Nat.lt_of_lt_of_le (Nat.or_lt_two_pow hm hn) (Nat.pow_le_pow_right (by decide) hk))]
theorem bShl_nat {m s : Nat} (hs : s < 32) (h : m * 2 ^ s < 2 ^ 31) : bShl m s = ((m * 2 ^ s : Nat) : Int) := by
  unfold bShl
  rw [iI_nI, iI_nI, pk_shlN _ s (s_l s hs) (by omega), nI_toInt h]
theorem bShr_nat {m s : Nat} (hs : s < 32) (h : m < 2 ^ 31) : bShr m s = ((m / 2 ^ s : Nat) : Int) := by
  unfold bShr
  have h2 : m / 2 ^ s ≤ m := Nat.div_le_self _ _
  rw [iI_nI, iI_nI, pk_shrN h _ s (s_l s hs), nI_toInt (by omega)]
/-- the bit number s -/
def bt (t s : Int) : Bool := t.toNat.testBit s.toNat
def b2 (b : Bool) : Int := if b then 1 else 0
theorem b2_in (b : Bool) : 0 ≤ b2 b ∧ b2 b ≤ 1 := by cases b <;> decide
theorem b2_t {b : Bool} : b2 b = 1 ↔ b = true := by cases b <;> decide
theorem b2_f {b : Bool} : b2 b = 0 ↔ b = false := by cases b <;> decide
theorem bit_eq {t s : Int} (ht : 0 ≤ t ∧ t < 256) (hs : 0 ≤ s ∧ s < 8) : bAnd (bShr t s) 1 = b2 (bt t s) := by
  obtain ⟨m, rfl⟩ : ∃ m : Nat, t = m := ⟨t.toNat, by omega⟩
  obtain ⟨k, rfl⟩ : ∃ k : Nat, s = k := ⟨s.toNat, by omega⟩
  have h2 : m / 2 ^ k ≤ m := Nat.div_le_self _ _
  rw [bShr_nat (by omega) (by omega), show (1 : Int) = ((1 : Nat) : Int) from rfl, bAnd_nat (by omega)]
  show (((m / 2 ^ k &&& 1 : Nat)) : Int) = b2 (m.testBit k)
  rw [Nat.testBit_eq_decide_div_mod_eq, Nat.and_one_is_mod]
  unfold b2
  have h3 : m / 2 ^ k % 2 < 2 := Nat.mod_lt _ (by decide)
  split
  · rename_i h; simp at h; omega
  · rename_i h; simp at h; omega
theorem and_in {a b : Int} (ha : 0 ≤ a ∧ a < 256) (hb : 0 ≤ b ∧ b < 256) : (0 ≤ bAnd a b ∧ bAnd a b < 256) ∧ ∀ s, bt (bAnd a b) s = (bt a s && bt b s) := by
  obtain ⟨m, rfl⟩ : ∃ m : Nat, a = m := ⟨a.toNat, by omega⟩
  obtain ⟨n, rfl⟩ : ∃ n : Nat, b = n := ⟨b.toNat, by omega⟩
  rw [bAnd_nat (by omega)]
  have h : m &&& n ≤ m := Nat.and_le_left
  refine ⟨by omega, fun s => ?_⟩
  show (m &&& n).testBit s.toNat = (m.testBit s.toNat && n.testBit s.toNat)
  exact Nat.testBit_and _ _ _
theorem or_in {a b : Int} (ha : 0 ≤ a ∧ a < 256) (hb : 0 ≤ b ∧ b < 256) : (0 ≤ bOr a b ∧ bOr a b < 256) ∧ ∀ s, bt (bOr a b) s = (bt a s || bt b s) := by
  obtain ⟨m, rfl⟩ : ∃ m : Nat, a = m := ⟨a.toNat, by omega⟩
  obtain ⟨n, rfl⟩ : ∃ n : Nat, b = n := ⟨b.toNat, by omega⟩
  rw [bOr_nat (k := 8) (by omega) (by omega) (by omega)]
  have h : m ||| n < 2 ^ 8 := Nat.or_lt_two_pow (by omega) (by omega)
  refine ⟨by omega, fun s => ?_⟩
  show (m ||| n).testBit s.toNat = (m.testBit s.toNat || n.testBit s.toNat)
  exact Nat.testBit_or _ _ _
theorem one_in {k : Int} (hk : 0 ≤ k ∧ k < 8) : (0 ≤ bShl 1 k ∧ bShl 1 k < 256) ∧ ∀ s, 0 ≤ s → bt (bShl 1 k) s = decide (s = k) := by
  obtain ⟨n, rfl⟩ : ∃ n : Nat, k = n := ⟨k.toNat, by omega⟩
  have hp : 2 ^ n ≤ 2 ^ 7 := Nat.pow_le_pow_right (by decide) (by omega)
  rw [show (1 : Int) = ((1 : Nat) : Int) from rfl, bShl_nat (by omega) (by omega), Nat.one_mul]
  have hp2 : 2 ^ n < 256 := by omega
  refine ⟨⟨Int.natCast_nonneg _, Int.ofNat_lt.mpr hp2⟩, fun s hs => ?_⟩
  show (2 ^ n).testBit s.toNat = _
  rw [Nat.testBit_two_pow]
  have : (n = s.toNat) = (s = (n : Int)) := by
    apply propext
    constructor <;> intro h <;> omega
  simp [this]
theorem bt_255 {s : Int} (hs : 0 ≤ s ∧ s < 8) : bt 255 s = true := by
  obtain ⟨n, rfl⟩ : ∃ n : Nat, s = n := ⟨s.toNat, by omega⟩
  have : n = 0 ∨ n = 1 ∨ n = 2 ∨ n = 3 ∨ n = 4 ∨ n = 5 ∨ n = 6 ∨ n = 7 := by omega
  rcases this with rfl | rfl | rfl | rfl | rfl | rfl | rfl | rfl <;> decide
theorem bt_0 (s : Int) : bt 0 s = false := by simp [bt]
theorem eight {s : Int} (hs : 0 ≤ s ∧ s < 8) : s = 0 ∨ s = 1 ∨ s = 2 ∨ s = 3 ∨ s = 4 ∨ s = 5 ∨ s = 6 ∨ s = 7 := by omega
theorem bt_sets {a s : Int} (ha : 0 ≤ a ∧ a < 3) (hs : 0 ≤ s ∧ s < 8) : bt (stV 3 a) s = bt s a ∧ 0 ≤ stV 3 a ∧ stV 3 a < 256 := by
  have h1 : a = 0 ∨ a = 1 ∨ a = 2 := by omega
  rcases h1 with rfl | rfl | rfl <;> rcases eight hs with rfl | rfl | rfl | rfl | rfl | rfl | rfl | rfl <;> decide
/-- a number of at most three bits -/
def c3 (n : Int) (v0 v1 v2 : Bool) : Int := (if 0 < n ∧ v0 = true then 1 else 0) + (if 1 < n ∧ v1 = true then 2 else 0) + (if 2 < n ∧ v2 = true then 4 else 0)
theorem c3_0 (v0 v1 v2 : Bool) : c3 0 v0 v1 v2 = 0 := by simp [c3]
theorem c3_step {n : Int} (hn : 0 ≤ n ∧ n < 3) (v0 v1 v2 : Bool) : bOr (c3 n v0 v1 v2) (bShl (b2 (if n = 0 then v0 else if n = 1 then v1 else v2)) n) = c3 (n + 1) v0 v1 v2 := by
  have h1 : n = 0 ∨ n = 1 ∨ n = 2 := by omega
  rcases h1 with rfl | rfl | rfl <;> cases v0 <;> cases v1 <;> cases v2 <;> decide
theorem c3_in {f : Int} (v0 v1 v2 : Bool) : 0 ≤ c3 (nA f) v0 v1 v2 ∧ c3 (nA f) v0 v1 v2 ≤ aA f := by
  by_cases h : 0 ≤ f ∧ f < 4
  · rcases four h with rfl | rfl | rfl | rfl <;> cases v0 <;> cases v1 <;> cases v2 <;> decide
  · rw [nA_out h, c3_0]
    have := aA_in f
    omega
/-- all ARGUMENTS but those of a set -/
def cutA (f s : Int) : Int := bAnd (aA f) (bXor s (-1))
theorem cutA_in {f s : Int} (hf : 0 ≤ f ∧ f < 4) (hs : 0 ≤ s ∧ s < 8) : 0 ≤ cutA f s ∧ cutA f s ≤ aA f := by
  rcases four hf with rfl | rfl | rfl | rfl <;> rcases eight hs with rfl | rfl | rfl | rfl | rfl | rfl | rfl | rfl <;> decide
theorem ext8 {a b : Int} (ha : 0 ≤ a ∧ a < 256) (hb : 0 ≤ b ∧ b < 256) (h : ∀ s, 0 ≤ s → s < 8 → bt a s = bt b s) : a = b := by
  obtain ⟨m, rfl⟩ : ∃ m : Nat, a = m := ⟨a.toNat, by omega⟩
  obtain ⟨n, rfl⟩ : ∃ n : Nat, b = n := ⟨b.toNat, by omega⟩
  congr 1
  apply Nat.eq_of_testBit_eq
  intro i
  by_cases hi : i < 8
  · exact h i (by omega) (by omega)
  · have hp : 2 ^ 8 ≤ 2 ^ i := Nat.pow_le_pow_right (by decide) (by omega)
    rw [Nat.testBit_lt_two_pow (by omega), Nat.testBit_lt_two_pow (by omega)]
/-- how many bits -/
def pc8 (t : Int) : Int := b2 (bt t 0) + b2 (bt t 1) + b2 (bt t 2) + b2 (bt t 3) + b2 (bt t 4) + b2 (bt t 5) + b2 (bt t 6) + b2 (bt t 7)
theorem pc8_in (t : Int) : 0 ≤ pc8 t ∧ pc8 t ≤ 8 := by
  have h0 := b2_in (bt t 0)
  have h1 := b2_in (bt t 1)
  have h2 := b2_in (bt t 2)
  have h3 := b2_in (bt t 3)
  have h4 := b2_in (bt t 4)
  have h5 := b2_in (bt t 5)
  have h6 := b2_in (bt t 6)
  have h7 := b2_in (bt t 7)
  unfold pc8
  omega
theorem b2_le {a b : Bool} (h : a = true → b = true) : b2 a ≤ b2 b := by cases a <;> cases b <;> simp_all [b2]
theorem b2_inj {a b : Bool} (h : b2 a = b2 b) : a = b := by cases a <;> cases b <;> simp_all [b2]
theorem pc8_mono {a b : Int} (h : ∀ s, 0 ≤ s → s < 8 → bt a s = true → bt b s = true) : pc8 a ≤ pc8 b := by
  have h0 := b2_le (h 0 (by decide) (by decide))
  have h1 := b2_le (h 1 (by decide) (by decide))
  have h2 := b2_le (h 2 (by decide) (by decide))
  have h3 := b2_le (h 3 (by decide) (by decide))
  have h4 := b2_le (h 4 (by decide) (by decide))
  have h5 := b2_le (h 5 (by decide) (by decide))
  have h6 := b2_le (h 6 (by decide) (by decide))
  have h7 := b2_le (h 7 (by decide) (by decide))
  unfold pc8
  omega
theorem pc8_eq {a b : Int} (ha : 0 ≤ a ∧ a < 256) (hb : 0 ≤ b ∧ b < 256) (h : ∀ s, 0 ≤ s → s < 8 → bt a s = true → bt b s = true) (e : pc8 b ≤ pc8 a) : a = b := by
  have h0 := b2_le (h 0 (by decide) (by decide))
  have h1 := b2_le (h 1 (by decide) (by decide))
  have h2 := b2_le (h 2 (by decide) (by decide))
  have h3 := b2_le (h 3 (by decide) (by decide))
  have h4 := b2_le (h 4 (by decide) (by decide))
  have h5 := b2_le (h 5 (by decide) (by decide))
  have h6 := b2_le (h 6 (by decide) (by decide))
  have h7 := b2_le (h 7 (by decide) (by decide))
  unfold pc8 at e
  apply ext8 ha hb
  intro s hs0 hs1
  rcases eight ⟨hs0, hs1⟩ with rfl | rfl | rfl | rfl | rfl | rfl | rfl | rfl <;> apply b2_inj <;> omega
end
section
/-! tables of what may come: the least ones -/
abbrev TB : Type := Int → Int → Bool
def mvl (S Z : Int → Int) (T : TB) (V : Int → Bool) (s p : Int) : Bool :=
  if kd (S p) = 1 then true else if kd (S p) = 3 then bt s (wo (S p)) else if kd (S p) = 4 then V (tp Z p 0) && V (tp Z p 1)
  else if kd (S p) = 5 then V (tp Z p 0) && (V (tp Z p 1) || V (tp Z p 2))
  else if kd (S p) = 6 then T (wo (S p)) (c3 (nA (wo (S p))) (V (tp Z p 0)) (V (tp Z p 1)) (V (tp Z p 2))) else false
def Sol (S Z : Int → Int) (T : TB) (V : Int → Bool) (s b n : Int) : Prop := ∀ p, b ≤ p → p < b + n → V p = mvl S Z T V s p
def sub (r r' : Int) : Prop := ∀ a : Int, 0 ≤ a → a < 3 → bt r a = true → bt r' a = true
theorem sub.refl (r : Int) : sub r r := fun _ _ _ h => h
def MonoT (T : TB) : Prop := ∀ g r r', 0 ≤ g → g < 4 → 0 ≤ r → r ≤ aA g → 0 ≤ r' → r' ≤ aA g → sub r r' → T g r = true → T g r' = true
def leT (T T' : TB) : Prop := ∀ g r, 0 ≤ g → g < 4 → 0 ≤ r → r ≤ aA g → T g r = true → T' g r = true
theorem leT.refl (T : TB) : leT T T := fun _ _ _ _ _ _ h => h
theorem leT.trans {T T' T'' : TB} (h : leT T T') (h' : leT T' T'') : leT T T'' := fun g r a b c d e => h' g r a b c d (h g r a b c d e)
theorem c3_bits {n : Int} (hn : 0 ≤ n ∧ n ≤ 3) (v0 v1 v2 : Bool) : bt (c3 n v0 v1 v2) 0 = (decide (0 < n) && v0) ∧ bt (c3 n v0 v1 v2) 1 = (decide (1 < n) && v1) ∧ bt (c3 n v0 v1 v2) 2 = (decide (2 < n) && v2) := by
  have h1 : n = 0 ∨ n = 1 ∨ n = 2 ∨ n = 3 := by omega
  rcases h1 with rfl | rfl | rfl | rfl <;> cases v0 <;> cases v1 <;> cases v2 <;> decide
theorem c3_sub {n : Int} (hn : 0 ≤ n ∧ n ≤ 3) {v0 v1 v2 w0 w1 w2 : Bool} (h0 : 0 < n → v0 = true → w0 = true) (h1 : 1 < n → v1 = true → w1 = true) (h2 : 2 < n → v2 = true → w2 = true) : sub (c3 n v0 v1 v2) (c3 n w0 w1 w2) := by
  obtain ⟨a0, a1, a2⟩ := c3_bits hn v0 v1 v2
  obtain ⟨b0, b1, b2⟩ := c3_bits hn w0 w1 w2
  intro a ha0 ha1 h
  have h3 : a = 0 ∨ a = 1 ∨ a = 2 := by omega
  rcases h3 with rfl | rfl | rfl
  · rw [a0] at h; rw [b0]; simp at h ⊢; exact ⟨h.1, h0 h.1 h.2⟩
  · rw [a1] at h; rw [b1]; simp at h ⊢; exact ⟨h.1, h1 h.1 h.2⟩
  · rw [a2] at h; rw [b2]; simp at h ⊢; exact ⟨h.1, h2 h.1 h.2⟩
theorem tx_4 {c : Int} (h : kd c = 4) : tx c = 2 := by simp [tx, h]
theorem tx_5 {c : Int} (h : kd c = 5) : tx c = 3 := by simp [tx, h]
theorem tx_6 {c : Int} (h : kd c = 6) : tx c = nA (wo c) := by simp [tx, h]
/-- what may come grows with the tables and with the set -/
theorem mv_le {S Z D : Int → Int} {b n : Int} {T T' : TB} {V V' : Int → Bool} {s s' : Int} (hW : Wf S Z D b n) (hT : MonoT T) (hTT : leT T T') (hs : sub s s') (hV : Sol S Z T V s b n) (hV' : Sol S Z T' V' s' b n) :
    ∀ (k : Nat) (p : Int), b ≤ p → p < b + n → b + n - p ≤ k → V p = true → V' p = true := by
  intro k
  induction k with
  | zero => intro p h1 h2 h3; exfalso; omega
  | succ k ih =>
    intro p h1 h2 h3 h
    have hc : ∀ j, 0 ≤ j → j < tx (S p) → V (tp Z p j) = true → V' (tp Z p j) = true := by
      intro j hj0 hj1 hv
      have h4 := (hW.2.2.2.2 p h1 h2).2.1 j hj0 hj1
      exact ih _ (by omega) h4.2.1 (by omega) hv
    rw [hV p h1 h2] at h
    rw [hV' p h1 h2]
    unfold mvl at h ⊢
    by_cases k1 : kd (S p) = 1
    · rw [if_pos k1]
    rw [if_neg k1] at h ⊢
    by_cases k3 : kd (S p) = 3
    · rw [if_pos k3] at h ⊢
      have h5 := kd_3.mp k3
      have h6 := wo_3 k3
      exact hs _ (by omega) (by omega) h
    rw [if_neg k3] at h ⊢
    by_cases k4 : kd (S p) = 4
    · rw [if_pos k4] at h ⊢
      have h5 := tx_4 k4
      simp only [Bool.and_eq_true] at h ⊢
      exact ⟨hc 0 (by omega) (by omega) h.1, hc 1 (by omega) (by omega) h.2⟩
    rw [if_neg k4] at h ⊢
    by_cases k5 : kd (S p) = 5
    · rw [if_pos k5] at h ⊢
      have h5 := tx_5 k5
      simp only [Bool.and_eq_true, Bool.or_eq_true] at h ⊢
      exact ⟨hc 0 (by omega) (by omega) h.1, h.2.elim (fun z => Or.inl (hc 1 (by omega) (by omega) z)) (fun z => Or.inr (hc 2 (by omega) (by omega) z))⟩
    rw [if_neg k5] at h ⊢
    by_cases k6 : kd (S p) = 6
    · rw [if_pos k6] at h ⊢
      have h5 := tx_6 k6
      have h6 := wo_6 k6
      have h7 := nA_in (wo (S p))
      have i1 := c3_in (f := wo (S p)) (V (tp Z p 0)) (V (tp Z p 1)) (V (tp Z p 2))
      have i2 := c3_in (f := wo (S p)) (V' (tp Z p 0)) (V' (tp Z p 1)) (V' (tp Z p 2))
      refine hTT _ _ h6.1 h6.2 i2.1 i2.2 (hT _ _ _ h6.1 h6.2 i1.1 i1.2 i2.1 i2.2 (c3_sub h7 ?_ ?_ ?_) h)
      · intro z; exact hc 0 (by omega) (by omega)
      · intro z; exact hc 1 (by omega) (by omega)
      · intro z; exact hc 2 (by omega) (by omega)
    · rw [if_neg k6] at h; cases h
theorem Sol.le {S Z D : Int → Int} {b n : Int} {T T' : TB} {V V' : Int → Bool} {s s' : Int} (hV : Sol S Z T V s b n) (hW : Wf S Z D b n) (hT : MonoT T) (hTT : leT T T') (hs : sub s s') (hV' : Sol S Z T' V' s' b n) {p : Int} (h1 : b ≤ p) (h2 : p < b + n) (h : V p = true) : V' p = true :=
  mv_le hW hT hTT hs hV hV' (b + n - p).toNat p h1 h2 (by omega) h
/-- one solution alone -/
theorem mv_eq {S Z D : Int → Int} {b n : Int} {T T' : TB} {V V' : Int → Bool} {s : Int} (hW : Wf S Z D b n) (hTT : ∀ g r, 0 ≤ g → g < 4 → 0 ≤ r → r ≤ aA g → T g r = T' g r) (hV : Sol S Z T V s b n) (hV' : Sol S Z T' V' s b n) :
    ∀ (k : Nat) (p : Int), b ≤ p → p < b + n → b + n - p ≤ k → V p = V' p := by
  intro k
  induction k with
  | zero => intro p h1 h2 h3; exfalso; omega
  | succ k ih =>
    intro p h1 h2 h3
    have hc : ∀ j, 0 ≤ j → j < tx (S p) → V (tp Z p j) = V' (tp Z p j) := by
      intro j hj0 hj1
      have h4 := (hW.2.2.2.2 p h1 h2).2.1 j hj0 hj1
      exact ih _ (by omega) h4.2.1 (by omega)
    rw [hV p h1 h2, hV' p h1 h2]
    unfold mvl
    by_cases k1 : kd (S p) = 1
    · rw [if_pos k1, if_pos k1]
    rw [if_neg k1, if_neg k1]
    by_cases k3 : kd (S p) = 3
    · rw [if_pos k3, if_pos k3]
    rw [if_neg k3, if_neg k3]
    by_cases k4 : kd (S p) = 4
    · have h5 := tx_4 k4
      rw [if_pos k4, if_pos k4, hc 0 (by omega) (by omega), hc 1 (by omega) (by omega)]
    rw [if_neg k4, if_neg k4]
    by_cases k5 : kd (S p) = 5
    · have h5 := tx_5 k5
      rw [if_pos k5, if_pos k5, hc 0 (by omega) (by omega), hc 1 (by omega) (by omega), hc 2 (by omega) (by omega)]
    rw [if_neg k5, if_neg k5]
    by_cases k6 : kd (S p) = 6
    · rw [if_pos k6, if_pos k6]
      have h5 := tx_6 k6
      have h6 := wo_6 k6
      have h7 := nA_in (wo (S p))
      have e : c3 (nA (wo (S p))) (V (tp Z p 0)) (V (tp Z p 1)) (V (tp Z p 2)) = c3 (nA (wo (S p))) (V' (tp Z p 0)) (V' (tp Z p 1)) (V' (tp Z p 2)) := by
        have h8 : nA (wo (S p)) = 0 ∨ nA (wo (S p)) = 1 ∨ nA (wo (S p)) = 2 ∨ nA (wo (S p)) = 3 := by omega
        rcases h8 with h8 | h8 | h8 | h8
        · rw [h8]; simp [c3]
        · rw [hc 0 (by omega) (by omega), h8]; simp [c3]
        · rw [hc 0 (by omega) (by omega), hc 1 (by omega) (by omega), h8]; simp [c3]
        · rw [hc 0 (by omega) (by omega), hc 1 (by omega) (by omega), hc 2 (by omega) (by omega)]
      rw [e]
      have i2 := c3_in (f := wo (S p)) (V' (tp Z p 0)) (V' (tp Z p 1)) (V' (tp Z p 2))
      exact hTT _ _ h6.1 h6.2 i2.1 i2.2
    · rw [if_neg k6, if_neg k6]
theorem Sol.eq {S Z D : Int → Int} {b n : Int} {T T' : TB} {V V' : Int → Bool} {s : Int} (hV : Sol S Z T V s b n) (hW : Wf S Z D b n) (hTT : ∀ g r, 0 ≤ g → g < 4 → 0 ≤ r → r ≤ aA g → T g r = T' g r) (hV' : Sol S Z T' V' s b n) {p : Int} (h1 : b ≤ p) (h2 : p < b + n) : V p = V' p :=
  mv_eq hW hTT hV hV' (b + n - p).toNat p h1 h2 (by omega)
/-- tables that hold: for each FUNCTION and set what comes of its BODY -/
def FixT (N S Z : Int → Int) (T : TB) : Prop := ∀ f, 0 ≤ f → f < 4 → ∀ s, 0 ≤ s → s ≤ aA f → ∃ V, Sol S Z T V s (f * 30) (N f) ∧ T f s = V (f * 30)
/-- the least ones -/
def LfpT (N S Z : Int → Int) (T : TB) : Prop := MonoT T ∧ FixT N S Z T ∧ ∀ L, MonoT L → FixT N S Z L → leT T L
end
section
/-! the TABLES -/
def BOK (σ : Sg) : Prop := ∀ f, 0 ≤ f → f < 4 → Wf (σ 7) (σ 10) (σ 11) (f * 30) (σ 6 f) ∧ ∀ p, f * 30 ≤ p → p < f * 30 + σ 6 f → σ 8 p = kd (σ 7 p) ∧ σ 9 p = wo (σ 7 p) ∧ (kd (σ 7 p) = 3 → wo (σ 7 p) < nA f)
def RW (σ : Sg) : Prop := ∀ p, 0 ≤ σ 13 p ∧ σ 13 p < 256
def TR (σ : Sg) : Prop := ∀ f, 0 ≤ σ 14 f ∧ σ 14 f < 256
/-- the tables as they stand -/
def tbl (σ : Sg) : TB := fun g r => bt (σ 14 g) r
theorem mvl_congr {S Z : Int → Int} {T : TB} {V V' : Int → Bool} {s p : Int} (hc : ∀ j, 0 ≤ j → j < tx (S p) → V (tp Z p j) = V' (tp Z p j)) : mvl S Z T V s p = mvl S Z T V' s p := by
  unfold mvl
  by_cases k1 : kd (S p) = 1
  · rw [if_pos k1, if_pos k1]
  rw [if_neg k1, if_neg k1]
  by_cases k3 : kd (S p) = 3
  · rw [if_pos k3, if_pos k3]
  rw [if_neg k3, if_neg k3]
  by_cases k4 : kd (S p) = 4
  · have h5 := tx_4 k4
    rw [if_pos k4, if_pos k4, hc 0 (by omega) (by omega), hc 1 (by omega) (by omega)]
  rw [if_neg k4, if_neg k4]
  by_cases k5 : kd (S p) = 5
  · have h5 := tx_5 k5
    rw [if_pos k5, if_pos k5, hc 0 (by omega) (by omega), hc 1 (by omega) (by omega), hc 2 (by omega) (by omega)]
  rw [if_neg k5, if_neg k5]
  by_cases k6 : kd (S p) = 6
  · rw [if_pos k6, if_pos k6]
    have h5 := tx_6 k6
    have h7 := nA_in (wo (S p))
    have h8 : nA (wo (S p)) = 0 ∨ nA (wo (S p)) = 1 ∨ nA (wo (S p)) = 2 ∨ nA (wo (S p)) = 3 := by omega
    rcases h8 with h8 | h8 | h8 | h8
    · rw [h8]; simp [c3]
    · rw [hc 0 (by omega) (by omega), h8]; simp [c3]
    · rw [hc 0 (by omega) (by omega), hc 1 (by omega) (by omega), h8]; simp [c3]
    · rw [hc 0 (by omega) (by omega), hc 1 (by omega) (by omega), hc 2 (by omega) (by omega)]
  · rw [if_neg k6, if_neg k6]
theorem c3_skip {n : Int} (hn : 0 ≤ n ∧ n < 3) {v0 v1 v2 : Bool} (h : (if n = 0 then v0 else if n = 1 then v1 else v2) = false) : c3 n v0 v1 v2 = c3 (n + 1) v0 v1 v2 := by
  have h1 : n = 0 ∨ n = 1 ∨ n = 2 := by omega
  rcases h1 with rfl | rfl | rfl <;> cases v0 <;> cases v1 <;> cases v2 <;> first | rfl | (simp at h)
theorem c3_with {n : Int} (hn : 0 ≤ n ∧ n < 3) {v0 v1 v2 : Bool} (h : (if n = 0 then v0 else if n = 1 then v1 else v2) = true) : bOr (c3 n v0 v1 v2) (bShl 1 n) = c3 (n + 1) v0 v1 v2 := by
  have h1 : n = 0 ∨ n = 1 ∨ n = 2 := by omega
  rcases h1 with rfl | rfl | rfl <;> cases v0 <;> cases v1 <;> cases v2 <;> first | decide | (simp at h)
/-- the ARGUMENTS without which nothing may come -/
def need3 (h : Int → Bool) (f : Int) : Int := c3 (nA f) (!h (cutA f 1)) (!h (cutA f 2)) (!h (cutA f 4))
theorem sel3 {a : Int} (ha : 0 ≤ a ∧ a < 3) (h : Int → Bool) (f : Int) : (if a = 0 then !h (cutA f 1) else if a = 1 then !h (cutA f 2) else !h (cutA f 4)) = !h (cutA f (bShl 1 a)) := by
  have h1 : a = 0 ∨ a = 1 ∨ a = 2 := by omega
  rcases h1 with rfl | rfl | rfl <;> rfl
def isJ (T : TB) (f s : Int) : Prop := T f (cutA f s) = false ∧ ∀ r, 0 ≤ r → r < s → bAnd r (bXor s (-1)) = 0 → T f (cutA f r) = true
theorem shl3 {a : Int} (ha : 0 ≤ a ∧ a < 3) : 0 ≤ bShl 1 a ∧ bShl 1 a < 8 := by
  have h1 : a = 0 ∨ a = 1 ∨ a = 2 := by omega
  rcases h1 with rfl | rfl | rfl <;> decide
set_option maxHeartbeats 1000000 in
theorem c_X7_rowAt (l : Launch) (E : Ev) (q : Nat → Nat) (sh : List Shp) (σ : Sg) (hs : HsC sh) (p : Int) (hp : 0 ≤ p ∧ p < 120) : CI l E yX7_rowAt cX7_rowAt 2 .int ({ frames := 1, cells := 0, slots := 0, locals := 20 } : Room) q sh σ [.ref (q 12), vI p] (is (σ 13 p) σ) := by
  refine CI_of (own := RX7) (by decide) rfl (Nat.le_of_ble_eq_true rfl) (fun X Q F hQ => ?_)
  show G X E 2 q sh σ 0 0 Q 0 [(0, .ref (q 12)), (1, vI p)] []
  refine g_iload_n F 1 rfl rfl d_X7_rowAt_0 ?_
  refine g_Ni F (own := RX7) (c_X8_isPlace l E q sh σ p ⟨by omega, by omega⟩) k_X7_86 [] d_X7_rowAt_1 ⟨rfl, rfl, by decide, by decide⟩ ⟨Nat.zero_le _, Nat.zero_le _⟩ rfl (Nat.le_of_ble_eq_true rfl) ?_
  rintro _ _ ⟨rfl, rfl⟩
  refine g_b_eq F d_X7_rowAt_4 (fun h4 => by exfalso; omega) (fun h4 => ?_)
  refine g_aload_n F 0 rfl rfl d_X7_rowAt_7 ?_
  refine g_getR F f_X7_11 d_X7_rowAt_8 (hsC_12 hs) rfl ?_
  refine g_iload_n F 1 rfl rfl d_X7_rowAt_11 ?_
  refine g_iaload F d_X7_rowAt_12 (hsC_13 hs) (by omega) (by omega) (by decide) ?_
  refine g_goto F d_X7_rowAt_13 ?_
  exact hQ d_X7_rowAt_17 (⟨by first | rfl | omega | (simp only [*]; done) | (simp [*]; done) | (split <;> omega), rfl⟩)
set_option maxHeartbeats 1000000 in
theorem c_X7_setRow (l : Launch) (E : Ev) (q : Nat → Nat) (sh : List Shp) (σ : Sg) (hs : HsC sh) (p v : Int) (hp : 0 ≤ p ∧ p < 120) : CV l E yX7_setRow cX7_setRow 3 ({ frames := 1, cells := 0, slots := 0, locals := 20 } : Room) q sh σ [.ref (q 12), vI p, vI v] (isS (up σ 13 p v)) := by
  refine CV_of (own := RX7) (by decide) rfl (Nat.le_of_ble_eq_true rfl) (fun X Q F hQ => ?_)
  show G X E 3 q sh σ 0 0 Q 0 [(0, .ref (q 12)), (1, vI p), (2, vI v)] []
  refine g_iload_n F 1 rfl rfl d_X7_setRow_0 ?_
  refine g_Ni F (own := RX7) (c_X8_isPlace l E q sh σ p ⟨by omega, by omega⟩) k_X7_86 [] d_X7_setRow_1 ⟨rfl, rfl, by decide, by decide⟩ ⟨Nat.zero_le _, Nat.zero_le _⟩ rfl (Nat.le_of_ble_eq_true rfl) ?_
  rintro _ _ ⟨rfl, rfl⟩
  refine g_b_eq F d_X7_setRow_4 (fun h4 => by exfalso; omega) (fun h4 => ?_)
  refine g_aload_n F 0 rfl rfl d_X7_setRow_7 ?_
  refine g_getR F f_X7_11 d_X7_setRow_8 (hsC_12 hs) rfl ?_
  refine g_iload_n F 1 rfl rfl d_X7_setRow_11 ?_
  refine g_iload_n F 2 rfl rfl d_X7_setRow_12 ?_
  refine g_iastore F d_X7_setRow_13 (hsC_13 hs) (by omega) (by omega) (by decide) ?_
  exact hQ d_X7_setRow_14 (rfl)
set_option maxHeartbeats 1000000 in
theorem c_X7_textRow (l : Launch) (E : Ev) (q : Nat → Nat) (sh : List Shp) (σ : Sg) (hs : HsC sh) (p t : Int) (hp : 0 ≤ p ∧ p < 120) (ht : 0 ≤ t ∧ t ≤ 3) (hh : ∀ j : Int, 0 ≤ j → j ≤ t → 0 ≤ tp (σ 10) p j ∧ tp (σ 10) p j < 120) : CI l E yX7_textRow cX7_textRow 3 .int ({ frames := 2, cells := 0, slots := 0, locals := 41 } : Room) q sh σ [.ref (q 12), vI p, vI t] (is (σ 13 (tp (σ 10) p t)) σ) := by
  refine CI_of (own := RX7) (by decide) rfl (Nat.le_of_ble_eq_true rfl) (fun X Q F hQ => ?_)
  show G X E 3 q sh σ 0 0 Q 0 [(0, .ref (q 12)), (1, vI p), (2, vI t)] []
  refine g_aload_n F 0 rfl rfl d_X7_textRow_0 ?_
  refine g_aload_n F 0 rfl rfl d_X7_textRow_1 ?_
  refine g_getR F f_X7_21 d_X7_textRow_2 (hsC_12 hs) rfl ?_
  refine g_iload_n F 1 rfl rfl d_X7_textRow_5 ?_
  refine g_iload_n F 2 rfl rfl d_X7_textRow_6 ?_
  refine g_Vi F (own := RX7) (c_X0_textPlace l E q sh σ hs.B p t hp ht (fun j h0 h1 => hh j h0 (by omega))) k_X7_83 (hsC_5 hs) rfl rfl [.ref (q 12)] d_X7_textRow_7 ⟨rfl, rfl, by decide, by decide⟩ ⟨Nat.zero_le _, Nat.zero_le _⟩ rfl (Nat.le_of_ble_eq_true rfl) ?_
  rintro _ _ ⟨rfl, rfl⟩
  refine g_Vi F (own := RX7) (c_X7_rowAt l E q sh σ hs (tp (σ 10) p t) (hh t ht.1 (Int.le_refl _))) k_X7_58 (hsC_12 hs) rfl rfl [] d_X7_textRow_10 ⟨rfl, rfl, by decide, by decide⟩ ⟨Nat.zero_le _, Nat.zero_le _⟩ rfl (Nat.le_of_ble_eq_true rfl) ?_
  rintro _ _ ⟨rfl, rfl⟩
  exact hQ d_X7_textRow_13 (⟨by first | rfl | omega | (simp only [*]; done) | (simp [*]; done) | (split <;> omega), rfl⟩)
set_option maxHeartbeats 1000000 in
theorem c_X7_setsWith (l : Launch) (E : Ev) (q : Nat → Nat) (sh : List Shp) (σ : Sg) (x : Int) (hx : 0 ≤ x ∧ x < 3) : CI l E yX7_setsWith cX7_setsWith 1 .int ({ frames := 0, cells := 0, slots := 0, locals := 0 } : Room) q sh σ [vI x] (is (stV 3 x) σ) := by
  refine CI_of (own := RX7) (by decide) rfl (Nat.le_of_ble_eq_true rfl) (fun X Q F hQ => ?_)
  show G X E 1 q sh σ 0 0 Q 0 [(0, vI x)] []
  refine g_iload_n F 0 rfl rfl d_X7_setsWith_0 ?_
  refine g_if_lt F d_X7_setsWith_1 ⟨by omega, by omega⟩ (fun h1 => by exfalso; omega) (fun h1 => ?_)
  refine g_iload_n F 0 rfl rfl d_X7_setsWith_4 ?_
  refine g_iconst F d_X7_setsWith_5 ?_
  refine g_icmp_ge F d_X7_setsWith_6 ⟨by omega, by omega⟩ ⟨by decide, by decide⟩ (fun h6 => by exfalso; omega) (fun h6 => ?_)
  refine g_gets F 3 (by decide) rfl (mg 328 (by decide +kernel) rfl) d_X7_setsWith_9 ?_
  refine g_iload_n F 0 rfl rfl d_X7_setsWith_12 ?_
  refine g_sald F 3 (by decide) (by omega) (by show _ < (3 : Int); omega) d_X7_setsWith_13 ?_
  refine g_goto F d_X7_setsWith_14 ?_
  exact hQ d_X7_setsWith_18 (⟨by first | rfl | omega | (simp only [*]; done) | (simp [*]; done) | (split <;> omega), rfl⟩)
set_option maxHeartbeats 1000000 in
theorem c_X7_has (l : Launch) (E : Ev) (q : Nat → Nat) (sh : List Shp) (σ : Sg) (hs : HsC sh) (x y : Int) (hx : 0 ≤ x ∧ x < 4) (hy : 0 ≤ y ∧ y < 8) (hT : 0 ≤ σ 14 x ∧ σ 14 x < 256) : CI l E yX7_has cX7_has 3 .boolean ({ frames := 1, cells := 0, slots := 0, locals := 20 } : Room) q sh σ [.ref (q 12), vI x, vI y] (is (if bt (σ 14 x) y = true then 1 else 0) σ) := by
  refine CB_of (own := RX7) (by decide) rfl (Nat.le_of_ble_eq_true rfl) (fun X Q F hQ => ?_)
  show G X E 3 q sh σ 0 0 Q 0 [(0, .ref (q 12)), (1, vI x), (2, vI y)] []
  refine g_iload_n F 1 rfl rfl d_X7_has_0 ?_
  refine g_Ni F (own := RX7) (c_X8_isFunction l E q sh σ x ⟨by omega, by omega⟩) k_X7_93 [] d_X7_has_1 ⟨rfl, rfl, by decide, by decide⟩ ⟨Nat.zero_le _, Nat.zero_le _⟩ rfl (Nat.le_of_ble_eq_true rfl) ?_
  rintro _ _ ⟨rfl, rfl⟩
  refine g_b_eq F d_X7_has_4 (fun h4 => by exfalso; omega) (fun h4 => ?_)
  refine g_aload_n F 0 rfl rfl d_X7_has_7 ?_
  refine g_getR F f_X7_15 d_X7_has_8 (hsC_12 hs) rfl ?_
  refine g_iload_n F 1 rfl rfl d_X7_has_11 ?_
  refine g_iaload F d_X7_has_12 (hsC_14 hs) (by omega) (by omega) (by decide) ?_
  refine g_iload_n F 2 rfl rfl d_X7_has_13 ?_
  refine g_ishr F d_X7_has_14 ?_
  refine g_iconst F d_X7_has_15 ?_
  refine g_iand F d_X7_has_16 ?_
  refine G_top (b := b2 (bt (σ 14 x) y)) (bit_eq hT hy) ?_
  refine g_iconst F d_X7_has_17 ?_
  have hb := b2_in (bt (σ 14 x) y)
  refine g_icmp_ne F d_X7_has_18 ⟨by omega, by omega⟩ ⟨by decide, by decide⟩ (fun h18 => ?_) (fun h18 => ?_)
  · refine g_iconst F d_X7_has_25 ?_
    exact hQ d_X7_has_26 (Or.inl rfl) (⟨by first | (rw [if_pos (b2_t.mp h18)]; done) | (rw [if_neg (fun h => h18 (b2_t.mpr h))]; done), rfl⟩)
  · refine g_iconst F d_X7_has_21 ?_
    refine g_goto F d_X7_has_22 ?_
    exact hQ d_X7_has_26 (Or.inr rfl) (⟨by first | (rw [if_pos (b2_t.mp h18)]; done) | (rw [if_neg (fun h => h18 (b2_t.mpr h))]; done), rfl⟩)
set_option maxHeartbeats 1000000 in
theorem c_X7_hasAt (l : Launch) (E : Ev) (q : Nat → Nat) (sh : List Shp) (σ : Sg) (hs : HsC sh) (p y : Int) (hp : 0 ≤ p ∧ p < 120) (hy : 0 ≤ y ∧ y < 8) (hT : 0 ≤ σ 13 p ∧ σ 13 p < 256) : CI l E yX7_hasAt cX7_hasAt 3 .boolean ({ frames := 2, cells := 0, slots := 0, locals := 41 } : Room) q sh σ [.ref (q 12), vI p, vI y] (is (if bt (σ 13 p) y = true then 1 else 0) σ) := by
  refine CB_of (own := RX7) (by decide) rfl (Nat.le_of_ble_eq_true rfl) (fun X Q F hQ => ?_)
  show G X E 3 q sh σ 0 0 Q 0 [(0, .ref (q 12)), (1, vI p), (2, vI y)] []
  refine g_aload_n F 0 rfl rfl d_X7_hasAt_0 ?_
  refine g_iload_n F 1 rfl rfl d_X7_hasAt_1 ?_
  refine g_Vi F (own := RX7) (c_X7_rowAt l E q sh σ hs p (by omega)) k_X7_58 (hsC_12 hs) rfl rfl [] d_X7_hasAt_2 ⟨rfl, rfl, by decide, by decide⟩ ⟨Nat.zero_le _, Nat.zero_le _⟩ rfl (Nat.le_of_ble_eq_true rfl) ?_
  rintro _ _ ⟨rfl, rfl⟩
  refine g_iload_n F 2 rfl rfl d_X7_hasAt_5 ?_
  refine g_ishr F d_X7_hasAt_6 ?_
  refine g_iconst F d_X7_hasAt_7 ?_
  refine g_iand F d_X7_hasAt_8 ?_
  refine G_top (b := b2 (bt (σ 13 p) y)) (bit_eq hT hy) ?_
  refine g_iconst F d_X7_hasAt_9 ?_
  have hb := b2_in (bt (σ 13 p) y)
  refine g_icmp_ne F d_X7_hasAt_10 ⟨by omega, by omega⟩ ⟨by decide, by decide⟩ (fun h10 => ?_) (fun h10 => ?_)
  · refine g_iconst F d_X7_hasAt_17 ?_
    exact hQ d_X7_hasAt_18 (Or.inl rfl) (⟨by first | (rw [if_pos (b2_t.mp h10)]; done) | (rw [if_neg (fun h => h10 (b2_t.mpr h))]; done), rfl⟩)
  · refine g_iconst F d_X7_hasAt_13 ?_
    refine g_goto F d_X7_hasAt_14 ?_
    exact hQ d_X7_hasAt_18 (Or.inr rfl) (⟨by first | (rw [if_pos (b2_t.mp h10)]; done) | (rw [if_neg (fun h => h10 (b2_t.mpr h))]; done), rfl⟩)
set_option maxHeartbeats 1000000 in
theorem c_X7_neededOf (l : Launch) (E : Ev) (q : Nat → Nat) (sh : List Shp) (σ : Sg) (hs : HsC sh) (x : Int) (hx : 0 ≤ x ∧ x < 4) : CI l E yX7_neededOf cX7_neededOf 2 .int ({ frames := 1, cells := 0, slots := 0, locals := 20 } : Room) q sh σ [.ref (q 12), vI x] (is (σ 15 x) σ) := by
  refine CI_of (own := RX7) (by decide) rfl (Nat.le_of_ble_eq_true rfl) (fun X Q F hQ => ?_)
  show G X E 2 q sh σ 0 0 Q 0 [(0, .ref (q 12)), (1, vI x)] []
  refine g_iload_n F 1 rfl rfl d_X7_neededOf_0 ?_
  refine g_Ni F (own := RX7) (c_X8_isFunction l E q sh σ x ⟨by omega, by omega⟩) k_X7_93 [] d_X7_neededOf_1 ⟨rfl, rfl, by decide, by decide⟩ ⟨Nat.zero_le _, Nat.zero_le _⟩ rfl (Nat.le_of_ble_eq_true rfl) ?_
  rintro _ _ ⟨rfl, rfl⟩
  refine g_b_eq F d_X7_neededOf_4 (fun h4 => by exfalso; omega) (fun h4 => ?_)
  refine g_aload_n F 0 rfl rfl d_X7_neededOf_7 ?_
  refine g_getR F f_X7_18 d_X7_neededOf_8 (hsC_12 hs) rfl ?_
  refine g_iload_n F 1 rfl rfl d_X7_neededOf_11 ?_
  refine g_iaload F d_X7_neededOf_12 (hsC_15 hs) (by omega) (by omega) (by decide) ?_
  refine g_goto F d_X7_neededOf_13 ?_
  exact hQ d_X7_neededOf_17 (⟨by first | rfl | omega | (simp only [*]; done) | (simp [*]; done) | (split <;> omega), rfl⟩)
set_option maxHeartbeats 1000000 in
theorem c_X7_neededAt (l : Launch) (E : Ev) (q : Nat → Nat) (sh : List Shp) (σ : Sg) (hs : HsC sh) (p y : Int) (hp : 0 ≤ p ∧ p < 120) (hy : 0 ≤ y ∧ y < 4) (hT : 0 ≤ σ 13 p ∧ σ 13 p < 256) : CI l E yX7_neededAt cX7_neededAt 5 .int ({ frames := 3, cells := 0, slots := 0, locals := 63 } : Room) q sh σ [.ref (q 12), vI p, vI y] (is (need3 (fun s => bt (σ 13 p) s) y) σ) := by
  have hn := nA_in y
  have haa := aA_in y
  refine CI_of (own := RX7) (by decide) rfl (Nat.le_of_ble_eq_true rfl) (fun X Q F hQ => ?_)
  show G X E 5 q sh σ 0 0 Q 0 [(0, .ref (q 12)), (1, vI p), (2, vI y)] []
  refine g_iconst F d_X7_neededAt_0 ?_
  refine g_istore_n F (lv' := [(3, vI 0), (0, .ref (q 12)), (1, vI p), (2, vI y)]) rfl (by decide) rfl d_X7_neededAt_1 ?_
  refine g_iconst F d_X7_neededAt_2 ?_
  refine g_istore F (lv' := [(4, vI 0), (3, vI 0), (0, .ref (q 12)), (1, vI p), (2, vI y)]) (by decide) rfl d_X7_neededAt_3 ?_
  have loop5 : ∀ (n : Nat) (w : Int) (a : Int), (0 ≤ a ∧ a ≤ nA y) → (w = c3 a (!bt (σ 13 p) (cutA y 1)) (!bt (σ 13 p) (cutA y 2)) (!bt (σ 13 p) (cutA y 4))) → (nA y - a).toNat < n → G X E 5 q sh σ 0 0 Q 5 [(0, .ref (q 12)), (1, vI p), (2, vI y), (3, vI w), (4, vI a)] [] := by
    intro n5
    induction n5 with
    | zero => intro w a ha hw hm5; exact absurd hm5 (Nat.not_lt_zero _)
    | succ n5 ih5 =>
      intro w a ha hw hm5
      refine g_iload F 4 rfl d_X7_neededAt_5 ?_
      refine g_iload_n F 2 rfl rfl d_X7_neededAt_7 ?_
      refine g_Ni F (own := RX7) (c_X8_argumentsOf l E q sh σ y ⟨by omega, by omega⟩) k_X7_76 [vI a] d_X7_neededAt_8 ⟨rfl, rfl, by decide, by decide⟩ ⟨Nat.zero_le _, Nat.zero_le _⟩ rfl (Nat.le_of_ble_eq_true rfl) ?_
      rintro _ _ ⟨rfl, rfl⟩
      refine g_icmp_ge F d_X7_neededAt_11 ⟨by omega, by omega⟩ ⟨by omega, by omega⟩ (fun h11 => ?_) (fun h11 => ?_)
      · refine g_iload_n F 3 rfl rfl d_X7_neededAt_46 ?_
        exact hQ d_X7_neededAt_47 (⟨by rw [hw, show a = nA y by omega]; rfl, rfl⟩)
      · have hs3 := shl3 (a := a) (by omega)
        have hc3 := cutA_in hy hs3
        refine g_aload_n F 0 rfl rfl d_X7_neededAt_14 ?_
        refine g_iload_n F 1 rfl rfl d_X7_neededAt_15 ?_
        refine g_iload_n F 2 rfl rfl d_X7_neededAt_16 ?_
        refine g_Ni F (own := RX7) (c_X8_allArguments l E q sh σ y ⟨by omega, by omega⟩) k_X7_96 [vI p, .ref (q 12)] d_X7_neededAt_17 ⟨rfl, rfl, by decide, by decide⟩ ⟨Nat.zero_le _, Nat.zero_le _⟩ rfl (Nat.le_of_ble_eq_true rfl) ?_
        rintro _ _ ⟨rfl, rfl⟩
        refine g_iconst F d_X7_neededAt_20 ?_
        refine g_iload F 4 rfl d_X7_neededAt_21 ?_
        refine g_ishl F d_X7_neededAt_23 ?_
        refine g_iconst F d_X7_neededAt_24 ?_
        refine g_ixor F d_X7_neededAt_25 ?_
        refine g_iand F d_X7_neededAt_26 ?_
        refine G_top (b := cutA y (bShl 1 a)) (rfl) ?_
        refine g_Vi F (own := RX7) (c_X7_hasAt l E q sh σ hs p (cutA y (bShl 1 a)) hp (by omega) hT) k_X7_99 (hsC_12 hs) rfl rfl [] d_X7_neededAt_27 ⟨rfl, rfl, by decide, by decide⟩ ⟨Nat.zero_le _, Nat.zero_le _⟩ rfl (Nat.le_of_ble_eq_true rfl) ?_
        rintro _ _ ⟨rfl, rfl⟩
        refine g_b_ne F d_X7_neededAt_30 (fun h30 => ?_) (fun h30 => ?_)
        · refine g_iinc F (lv' := [(4, vI (a + 1)), (0, .ref (q 12)), (1, vI p), (2, vI y), (3, vI w)]) 4 rfl rfl (by decide) rfl d_X7_neededAt_40 ?_
          refine g_goto F d_X7_neededAt_43 ?_
          have hw2 : w = c3 (a + 1) (!bt (σ 13 p) (cutA y 1)) (!bt (σ 13 p) (cutA y 2)) (!bt (σ 13 p) (cutA y 4)) := by
            rw [hw]
            first
              | (apply c3_skip (by omega); rw [sel3 (by omega) (fun s => bt (σ 13 p) s) y]; simp; exact h30)
              | (apply c3_with (by omega); rw [sel3 (by omega) (fun s => bt (σ 13 p) s) y]; simp; simpa using h30)
          refine G_sub (ks := [1, 2, 3, 4, 0]) rfl ?_
          exact ih5 w (a + 1) (by omega) hw2 (by omega)
        · refine g_iload_n F 3 rfl rfl d_X7_neededAt_33 ?_
          refine g_iconst F d_X7_neededAt_34 ?_
          refine g_iload F 4 rfl d_X7_neededAt_35 ?_
          refine g_ishl F d_X7_neededAt_37 ?_
          refine g_ior F d_X7_neededAt_38 ?_
          refine g_istore_n F (lv' := [(3, vI (bOr w (bShl 1 a))), (0, .ref (q 12)), (1, vI p), (2, vI y), (4, vI a)]) rfl (by decide) rfl d_X7_neededAt_39 ?_
          refine g_iinc F (lv' := [(4, vI (a + 1)), (3, vI (bOr w (bShl 1 a))), (0, .ref (q 12)), (1, vI p), (2, vI y)]) 4 rfl rfl (by decide) rfl d_X7_neededAt_40 ?_
          refine g_goto F d_X7_neededAt_43 ?_
          have hw2 : (bOr w (bShl 1 a)) = c3 (a + 1) (!bt (σ 13 p) (cutA y 1)) (!bt (σ 13 p) (cutA y 2)) (!bt (σ 13 p) (cutA y 4)) := by
            rw [hw]
            first
              | (apply c3_skip (by omega); rw [sel3 (by omega) (fun s => bt (σ 13 p) s) y]; simp; exact h30)
              | (apply c3_with (by omega); rw [sel3 (by omega) (fun s => bt (σ 13 p) s) y]; simp; simpa using h30)
          refine G_sub (ks := [2, 3, 4, 1, 0]) rfl ?_
          exact ih5 (bOr w (bShl 1 a)) (a + 1) (by omega) hw2 (by omega)
  refine G_sub (ks := [2, 3, 4, 1, 0]) rfl ?_
  exact loop5 _ 0 0 (by omega) (c3_0 _ _ _).symm (Nat.lt_succ_self _)
set_option maxHeartbeats 1000000 in
theorem c_X7_stops (l : Launch) (E : Ev) (q : Nat → Nat) (sh : List Shp) (σ : Sg) (hs : HsC sh) (x y : Int) (hx : 0 ≤ x ∧ x < 4) (hy : 0 ≤ y ∧ y < 8) (hT : 0 ≤ σ 14 x ∧ σ 14 x < 256) : CI l E yX7_stops cX7_stops 3 .boolean ({ frames := 3, cells := 0, slots := 0, locals := 60 } : Room) q sh σ [.ref (q 12), vI x, vI y] (is (if bt (σ 14 x) (cutA x y) = false then 1 else 0) σ) := by
  have hc := cutA_in hx hy
  have haa := aA_in x
  refine CB_of (own := RX7) (by decide) rfl (Nat.le_of_ble_eq_true rfl) (fun X Q F hQ => ?_)
  show G X E 3 q sh σ 0 0 Q 0 [(0, .ref (q 12)), (1, vI x), (2, vI y)] []
  refine g_aload_n F 0 rfl rfl d_X7_stops_0 ?_
  refine g_iload_n F 1 rfl rfl d_X7_stops_1 ?_
  refine g_iload_n F 1 rfl rfl d_X7_stops_2 ?_
  refine g_Ni F (own := RX7) (c_X8_allArguments l E q sh σ x ⟨by omega, by omega⟩) k_X7_96 [vI x, .ref (q 12)] d_X7_stops_3 ⟨rfl, rfl, by decide, by decide⟩ ⟨Nat.zero_le _, Nat.zero_le _⟩ rfl (Nat.le_of_ble_eq_true rfl) ?_
  rintro _ _ ⟨rfl, rfl⟩
  refine g_iload_n F 2 rfl rfl d_X7_stops_6 ?_
  refine g_iconst F d_X7_stops_7 ?_
  refine g_ixor F d_X7_stops_8 ?_
  refine g_iand F d_X7_stops_9 ?_
  refine G_top (b := cutA x y) (rfl) ?_
  refine g_Vi F (own := RX7) (c_X7_has l E q sh σ hs x (cutA x y) hx (by omega) hT) k_X7_79 (hsC_12 hs) rfl rfl [] d_X7_stops_10 ⟨rfl, rfl, by decide, by decide⟩ ⟨Nat.zero_le _, Nat.zero_le _⟩ rfl (Nat.le_of_ble_eq_true rfl) ?_
  rintro _ _ ⟨rfl, rfl⟩
  refine g_b_ne F d_X7_stops_13 (fun h13 => ?_) (fun h13 => ?_)
  · refine g_iconst F d_X7_stops_20 ?_
    exact hQ d_X7_stops_21 (Or.inl rfl) (⟨by first | (rw [if_pos (by simpa using h13)]; done) | (rw [if_neg (by simp [h13])]; done), rfl⟩)
  · refine g_iconst F d_X7_stops_16 ?_
    refine g_goto F d_X7_stops_17 ?_
    exact hQ d_X7_stops_21 (Or.inr rfl) (⟨by first | (rw [if_pos (by simpa using h13)]; done) | (rw [if_neg (by simp [h13])]; done), rfl⟩)
set_option maxHeartbeats 1000000 in
theorem c_X7_isJoint (l : Launch) (E : Ev) (q : Nat → Nat) (sh : List Shp) (σ : Sg) (hs : HsC sh) (x y : Int) (hx : 0 ≤ x ∧ x < 4) (hy : 0 ≤ y ∧ y < 8) (hT : 0 ≤ σ 14 x ∧ σ 14 x < 256) : CI l E yX7_isJoint cX7_isJoint 4 .boolean ({ frames := 4, cells := 0, slots := 0, locals := 82 } : Room) q sh σ [.ref (q 12), vI x, vI y] (fun z τ => σ = τ ∧ ((z = 1 ∧ isJ (tbl σ) x y) ∨ (z = 0 ∧ ¬ isJ (tbl σ) x y))) := by
  refine CB_of (own := RX7) (by decide) rfl (Nat.le_of_ble_eq_true rfl) (fun X Q F hQ => ?_)
  show G X E 4 q sh σ 0 0 Q 0 [(0, .ref (q 12)), (1, vI x), (2, vI y)] []
  refine g_aload_n F 0 rfl rfl d_X7_isJoint_0 ?_
  refine g_iload_n F 1 rfl rfl d_X7_isJoint_1 ?_
  refine g_iload_n F 2 rfl rfl d_X7_isJoint_2 ?_
  refine g_Vi F (own := RX7) (c_X7_stops l E q sh σ hs x y (by omega) (by omega) (by omega)) k_X7_102 (hsC_12 hs) rfl rfl [] d_X7_isJoint_3 ⟨rfl, rfl, by decide, by decide⟩ ⟨Nat.zero_le _, Nat.zero_le _⟩ rfl (Nat.le_of_ble_eq_true rfl) ?_
  rintro _ _ ⟨rfl, rfl⟩
  refine g_b_ne F d_X7_isJoint_6 (fun h6 => ?_) (fun h6 => ?_)
  · refine g_iconst F d_X7_isJoint_11 ?_
    refine g_istore_n F (lv' := [(3, vI 0), (0, .ref (q 12)), (1, vI x), (2, vI y)]) rfl (by decide) rfl d_X7_isJoint_12 ?_
    have loop13 : ∀ (n : Nat) (r : Int), (0 ≤ r ∧ r ≤ y) → (∀ k, 0 ≤ k → k < r → bAnd k (bXor y (-1)) = 0 → tbl σ x (cutA x k) = true) → (y - r).toNat < n → G X E 4 q sh σ 0 0 Q 13 [(0, .ref (q 12)), (1, vI x), (2, vI y), (3, vI r)] [] := by
      intro n13
      induction n13 with
      | zero => intro r hr hj hm13; exact absurd hm13 (Nat.not_lt_zero _)
      | succ n13 ih13 =>
        intro r hr hj hm13
        refine g_iload_n F 3 rfl rfl d_X7_isJoint_13 ?_
        refine g_iload_n F 2 rfl rfl d_X7_isJoint_14 ?_
        refine g_icmp_ge F d_X7_isJoint_15 ⟨by omega, by omega⟩ ⟨by omega, by omega⟩ (fun h15 => ?_) (fun h15 => ?_)
        · refine g_iconst F d_X7_isJoint_43 ?_
          exact hQ d_X7_isJoint_44 (Or.inr rfl) (⟨rfl, Or.inl ⟨rfl, h6, fun k h0 h1 h2 => hj k h0 (by omega) h2⟩⟩)
        · refine g_iload_n F 3 rfl rfl d_X7_isJoint_18 ?_
          refine g_iload_n F 2 rfl rfl d_X7_isJoint_19 ?_
          refine g_iconst F d_X7_isJoint_20 ?_
          refine g_ixor F d_X7_isJoint_21 ?_
          refine g_iand F d_X7_isJoint_22 ?_
          refine g_if_ne F d_X7_isJoint_23 (rg_of _) (fun h23 => ?_) (fun h23 => ?_)
          · refine g_iinc F (lv' := [(3, vI (r + 1)), (0, .ref (q 12)), (1, vI x), (2, vI y)]) 3 rfl rfl (by decide) rfl d_X7_isJoint_37 ?_
            refine g_goto F d_X7_isJoint_40 ?_
            refine G_sub (ks := [1, 2, 3, 0]) rfl ?_
            exact ih13 (r + 1) (by omega) (fun k h0 h1 h2 => by by_cases hk : k = r; (subst hk; first | (exfalso; exact h23 h2) | (show bt (σ 14 x) (cutA x k) = true; simpa using h32)); exact hj k h0 (by omega) h2) (by omega)
          · refine g_aload_n F 0 rfl rfl d_X7_isJoint_26 ?_
            refine g_iload_n F 1 rfl rfl d_X7_isJoint_27 ?_
            refine g_iload_n F 3 rfl rfl d_X7_isJoint_28 ?_
            refine g_Vi F (own := RX7) (c_X7_stops l E q sh σ hs x r hx (by omega) hT) k_X7_102 (hsC_12 hs) rfl rfl [] d_X7_isJoint_29 ⟨rfl, rfl, by decide, by decide⟩ ⟨Nat.zero_le _, Nat.zero_le _⟩ rfl (Nat.le_of_ble_eq_true rfl) ?_
            rintro _ _ ⟨rfl, rfl⟩
            refine g_b_eq F d_X7_isJoint_32 (fun h32 => ?_) (fun h32 => ?_)
            · refine g_iinc F (lv' := [(3, vI (r + 1)), (0, .ref (q 12)), (1, vI x), (2, vI y)]) 3 rfl rfl (by decide) rfl d_X7_isJoint_37 ?_
              refine g_goto F d_X7_isJoint_40 ?_
              refine G_sub (ks := [1, 2, 3, 0]) rfl ?_
              exact ih13 (r + 1) (by omega) (fun k h0 h1 h2 => by by_cases hk : k = r; (subst hk; first | (exfalso; exact h23 h2) | (show bt (σ 14 x) (cutA x k) = true; simpa using h32)); exact hj k h0 (by omega) h2) (by omega)
            · refine g_iconst F d_X7_isJoint_35 ?_
              exact hQ d_X7_isJoint_36 (Or.inl rfl) (⟨rfl, Or.inr ⟨rfl, fun h => by have h9 := h.2 r hr.1 (by omega) h23; (change bt (σ 14 x) (cutA x r) = true at h9); rw [h9] at h32; cases h32⟩⟩)
    refine G_sub (ks := [1, 2, 3, 0]) rfl ?_
    exact loop13 _ 0 (by omega) (fun k h0 h1 => by exfalso; omega) (Nat.lt_succ_self _)
  · refine g_iconst F d_X7_isJoint_9 ?_
    exact hQ d_X7_isJoint_10 (Or.inl rfl) (⟨rfl, Or.inr ⟨rfl, fun h => h6 h.1⟩⟩)
end
section
/-- which texts of a call may come, as bits -/
def cwd (σ : Sg) (p y s : Int) : Int := c3 (nA y) (bt (σ 13 (tp (σ 10) p 0)) s) (bt (σ 13 (tp (σ 10) p 1)) s) (bt (σ 13 (tp (σ 10) p 2)) s)
theorem cwd_sel (σ : Sg) (p s : Int) {t : Int} (ht : 0 ≤ t ∧ t < 3) : (if t = 0 then bt (σ 13 (tp (σ 10) p 0)) s else if t = 1 then bt (σ 13 (tp (σ 10) p 1)) s else bt (σ 13 (tp (σ 10) p 2)) s) = bt (σ 13 (tp (σ 10) p t)) s := by
  have h1 : t = 0 ∨ t = 1 ∨ t = 2 := by omega
  rcases h1 with rfl | rfl | rfl <;> rfl
theorem cwd_step (σ : Sg) (p s : Int) {t d : Int} (ht : 0 ≤ t ∧ t < 3) (hd : d = c3 t (bt (σ 13 (tp (σ 10) p 0)) s) (bt (σ 13 (tp (σ 10) p 1)) s) (bt (σ 13 (tp (σ 10) p 2)) s)) : bOr d (bShl (b2 (bt (σ 13 (tp (σ 10) p t)) s)) t) = c3 (t + 1) (bt (σ 13 (tp (σ 10) p 0)) s) (bt (σ 13 (tp (σ 10) p 1)) s) (bt (σ 13 (tp (σ 10) p 2)) s) := by
  rw [← cwd_sel σ p s ht, hd]
  exact c3_step ht _ _ _
theorem bit_lt {k s : Int} (h : k ≠ s) : decide (k < s) = decide (k < s + 1) := by
  congr 1
  apply propext
  omega
theorem bit_put {w s : Int} (hw : 0 ≤ w ∧ w < 256) (hs : 0 ≤ s ∧ s < 8) {P : Int → Bool} (hk : ∀ k, 0 ≤ k → k < 8 → bt w k = (decide (k < s) && P k)) (hP : P s = true) : ∀ k, 0 ≤ k → k < 8 → bt (bOr w (bShl 1 s)) k = (decide (k < s + 1) && P k) := by
  intro k h0 h1
  have ho := one_in hs
  rw [(or_in hw ho.1).2, ho.2 k h0, hk k h0 h1]
  by_cases hks : k = s
  · subst hks
    rw [hP]
    simp
    omega
  · have e1 : decide (k = s) = false := by simpa using hks
    rw [e1, bit_lt hks]
    simp
theorem bit_skip {w s : Int} {P : Int → Bool} (hk : ∀ k, 0 ≤ k → k < 8 → bt w k = (decide (k < s) && P k)) (hP : P s = false) : ∀ k, 0 ≤ k → k < 8 → bt w k = (decide (k < s + 1) && P k) := by
  intro k h0 h1
  rw [hk k h0 h1]
  by_cases hks : k = s
  · subst hks
    rw [hP]
    simp
  · rw [bit_lt hks]
/-- a row of a text, by its rows within -/
def rowOk (σ : Sg) (p z : Int) : Prop := (0 ≤ z ∧ z < 256) ∧ ∀ s, 0 ≤ s → s < 8 → bt z s = mvl (σ 7) (σ 10) (tbl σ) (fun x => bt (σ 13 x) s) s p
set_option maxHeartbeats 1000000 in
theorem c_J7_fill_53178 (l : Launch) (E : Ev) (q : Nat → Nat) (sh : List Shp) (σ : Sg) (c n : Nat) (v : Int) (hc : sh[c]? = some (.inl n)) (hn : n < 2147483648) : CV l E yJ7_fill_53178 cJ7_fill_53178 4 ({ frames := 0, cells := 0, slots := 0, locals := 0 } : Room) q sh σ [.ref (q c), vI v] (fun τ => (∀ j, 0 ≤ j → j < (n : Int) → τ c j = v) ∧ (∀ j, ¬ (0 ≤ j ∧ j < (n : Int)) → τ c j = σ c j) ∧ Sm [c] σ τ) := by
  refine CV_of (own := RJ7) (by decide) rfl (Nat.le_of_ble_eq_true rfl) (fun X Q F hQ => ?_)
  show G X E 4 q sh σ 0 0 Q 0 [(0, .ref (q c)), (1, vI v)] []
  refine g_iconst F d_J7_fill_53178_0 ?_
  refine g_istore_n F (lv' := [(2, vI 0), (0, .ref (q c)), (1, vI v)]) rfl (by decide) rfl d_J7_fill_53178_1 ?_
  refine g_aload_n F 1 rfl rfl d_J7_fill_53178_2 ?_
  refine g_alen F d_J7_fill_53178_3 hc ?_
  refine g_istore_n F (lv' := [(3, vI (((n : Nat) : Int))), (2, vI 0), (0, .ref (q c)), (1, vI v)]) rfl (by decide) rfl d_J7_fill_53178_4 ?_
  have loop5 : ∀ (nn : Nat) (i : Int) (τ : Sg), (0 ≤ i ∧ i ≤ (n : Int)) → (∀ j, 0 ≤ j → j < i → τ c j = v) → (∀ j, ¬ (0 ≤ j ∧ j < (n : Int)) → τ c j = σ c j) → (Sm [c] σ τ) → ((n : Int) - i).toNat < nn → G X E 4 q sh τ 0 0 Q 5 [(0, .ref (q c)), (1, vI v), (2, vI i), (3, vI (((n : Nat) : Int)))] [] := by
    intro n5
    induction n5 with
    | zero => intro i τ hi h1 h2 hm hm5; exact absurd hm5 (Nat.not_lt_zero _)
    | succ n5 ih5 =>
      intro i τ hi h1 h2 hm hm5
      refine g_iload_n F 2 rfl rfl d_J7_fill_53178_5 ?_
      refine g_iload_n F 3 rfl rfl d_J7_fill_53178_6 ?_
      refine g_icmp_ge F d_J7_fill_53178_7 ⟨by omega, by omega⟩ ⟨by omega, by omega⟩ (fun h7 => ?_) (fun h7 => ?_)
      · exact hQ d_J7_fill_53178_20 (⟨fun j a b => h1 j a (by omega), h2, hm⟩)
      · refine g_aload_n F 0 rfl rfl d_J7_fill_53178_10 ?_
        refine g_iload_n F 2 rfl rfl d_J7_fill_53178_11 ?_
        refine g_iload_n F 1 rfl rfl d_J7_fill_53178_12 ?_
        refine g_iastore F d_J7_fill_53178_13 hc (by omega) (by omega) hn ?_
        refine g_iinc F (lv' := [(2, vI (i + 1)), (0, .ref (q c)), (1, vI v), (3, vI (((n : Nat) : Int)))]) 2 rfl rfl (by decide) rfl d_J7_fill_53178_14 ?_
        refine g_goto F d_J7_fill_53178_17 ?_
        refine G_sub (ks := [1, 2, 0, 3]) rfl ?_
        exact ih5 (i + 1) (up τ c i v) (by omega) (fun j a b => by rw [up_at]; split; rfl; exact h1 j a (by omega)) (fun j a => by rw [up_other _ _ (by omega)]; exact h2 j a) (hm.up (by simp) _ _) (by omega)
  refine G_sub (ks := [2, 3, 1, 0]) rfl ?_
  exact loop5 _ 0 σ (by omega) (fun j a b => by exfalso; omega) (fun _ _ => rfl) (Sm.refl _ _) (Nat.lt_succ_self _)
set_option maxHeartbeats 1000000 in
theorem c_X7_callRow (l : Launch) (E : Ev) (q : Nat → Nat) (sh : List Shp) (σ : Sg) (hs : HsC sh) (p y : Int) (hp : 0 ≤ p ∧ p < 120) (hy : 0 ≤ y ∧ y < 4) (hh : ∀ j : Int, 0 ≤ j → j < nA y → 0 ≤ tp (σ 10) p j ∧ tp (σ 10) p j < 120) (hR : RW σ) (hT : 0 ≤ σ 14 y ∧ σ 14 y < 256) : CI l E yX7_callRow cX7_callRow 7 .int ({ frames := 3, cells := 0, slots := 0, locals := 63 } : Room) q sh σ [.ref (q 12), vI p, vI y] (fun z τ => σ = τ ∧ (0 ≤ z ∧ z < 256) ∧ ∀ s, 0 ≤ s → s < 8 → bt z s = bt (σ 14 y) (cwd σ p y s)) := by
  have hn := nA_in y
  have haa := aA_in y
  refine CI_of (own := RX7) (by decide) rfl (Nat.le_of_ble_eq_true rfl) (fun X Q F hQ => ?_)
  show G X E 7 q sh σ 0 0 Q 0 [(0, .ref (q 12)), (1, vI p), (2, vI y)] []
  refine g_iconst F d_X7_callRow_0 ?_
  refine g_istore_n F (lv' := [(3, vI 0), (0, .ref (q 12)), (1, vI p), (2, vI y)]) rfl (by decide) rfl d_X7_callRow_1 ?_
  refine g_iconst F d_X7_callRow_2 ?_
  refine g_istore F (lv' := [(4, vI 0), (3, vI 0), (0, .ref (q 12)), (1, vI p), (2, vI y)]) (by decide) rfl d_X7_callRow_3 ?_
  have loop5 : ∀ (nn : Nat) (w : Int) (s : Int), (0 ≤ s ∧ s ≤ 8) → (0 ≤ w ∧ w < 256) → (∀ k, 0 ≤ k → k < 8 → bt w k = (decide (k < s) && bt (σ 14 y) (cwd σ p y k))) → (8 - s).toNat < nn → G X E 7 q sh σ 0 0 Q 5 [(0, .ref (q 12)), (1, vI p), (2, vI y), (3, vI w), (4, vI s)] [] := by
    intro n5
    induction n5 with
    | zero => intro w s hs0 hw hk hm5; exact absurd hm5 (Nat.not_lt_zero _)
    | succ n5 ih5 =>
      intro w s hs0 hw hk hm5
      refine g_iload F 4 rfl d_X7_callRow_5 ?_
      refine g_bipush F (by decide) d_X7_callRow_7 ?_
      refine g_icmp_ge F d_X7_callRow_9 ⟨by omega, by omega⟩ ⟨by decide, by decide⟩ (fun h9 => ?_) (fun h9 => ?_)
      · refine g_iload_n F 3 rfl rfl d_X7_callRow_76 ?_
        exact hQ d_X7_callRow_77 (⟨rfl, hw, fun k h0 h1 => by rw [hk k h0 h1]; simp; intro; omega⟩)
      · refine g_iconst F d_X7_callRow_12 ?_
        refine g_istore F (lv' := [(5, vI 0), (0, .ref (q 12)), (1, vI p), (2, vI y), (3, vI w), (4, vI s)]) (by decide) rfl d_X7_callRow_13 ?_
        refine g_iconst F d_X7_callRow_15 ?_
        refine g_istore F (lv' := [(6, vI 0), (5, vI 0), (0, .ref (q 12)), (1, vI p), (2, vI y), (3, vI w), (4, vI s)]) (by decide) rfl d_X7_callRow_16 ?_
        have loop18 : ∀ (nn : Nat) (d : Int) (t : Int), (0 ≤ t ∧ t ≤ nA y) → (d = c3 t (bt (σ 13 (tp (σ 10) p 0)) s) (bt (σ 13 (tp (σ 10) p 1)) s) (bt (σ 13 (tp (σ 10) p 2)) s)) → (nA y - t).toNat < nn → G X E 7 q sh σ 0 0 Q 18 [(0, .ref (q 12)), (1, vI p), (2, vI y), (3, vI w), (4, vI s), (5, vI d), (6, vI t)] [] := by
          intro n18
          induction n18 with
          | zero => intro d t ht hd hm18; exact absurd hm18 (Nat.not_lt_zero _)
          | succ n18 ih18 =>
            intro d t ht hd hm18
            refine g_iload F 6 rfl d_X7_callRow_18 ?_
            refine g_iload_n F 2 rfl rfl d_X7_callRow_20 ?_
            refine g_Ni F (own := RX7) (c_X8_argumentsOf l E q sh σ y ⟨by omega, by omega⟩) k_X7_76 [vI t] d_X7_callRow_21 ⟨rfl, rfl, by decide, by decide⟩ ⟨Nat.zero_le _, Nat.zero_le _⟩ rfl (Nat.le_of_ble_eq_true rfl) ?_
            rintro _ _ ⟨rfl, rfl⟩
            refine g_icmp_ge F d_X7_callRow_24 ⟨by omega, by omega⟩ ⟨by omega, by omega⟩ (fun h24 => ?_) (fun h24 => ?_)
            · have hcw : 0 ≤ cwd σ p y s ∧ cwd σ p y s ≤ aA y := c3_in _ _ _
              refine g_aload_n F 0 rfl rfl d_X7_callRow_53 ?_
              refine g_iload_n F 2 rfl rfl d_X7_callRow_54 ?_
              refine g_iload F 5 rfl d_X7_callRow_55 ?_
              refine G_top (b := cwd σ p y s) (by rw [hd, show t = nA y by omega]; rfl) ?_
              refine g_Vi F (own := RX7) (c_X7_has l E q sh σ hs y (cwd σ p y s) hy (by omega) hT) k_X7_79 (hsC_12 hs) rfl rfl [] d_X7_callRow_57 ⟨rfl, rfl, by decide, by decide⟩ ⟨Nat.zero_le _, Nat.zero_le _⟩ rfl (Nat.le_of_ble_eq_true rfl) ?_
              rintro _ _ ⟨rfl, rfl⟩
              refine g_b_eq F d_X7_callRow_60 (fun h60 => ?_) (fun h60 => ?_)
              · refine g_iinc F (lv' := [(4, vI (s + 1)), (0, .ref (q 12)), (1, vI p), (2, vI y), (3, vI w), (5, vI d), (6, vI t)]) 4 rfl rfl (by decide) rfl d_X7_callRow_70 ?_
                refine g_goto F d_X7_callRow_73 ?_
                have hw2 : 0 ≤ w ∧ w < 256 := by first | exact hw | exact (or_in hw (one_in (k := s) (by omega)).1).1
                have hk2 : ∀ k, 0 ≤ k → k < 8 → bt w k = (decide (k < s + 1) && bt (σ 14 y) (cwd σ p y k)) := by
                  first
                    | exact bit_put hw (by omega) hk h60
                    | exact bit_skip hk (by simpa using h60)
                refine G_sub (ks := [1, 2, 3, 4, 0]) rfl ?_
                exact ih5 w (s + 1) (by omega) hw2 hk2 (by omega)
              · refine g_iload_n F 3 rfl rfl d_X7_callRow_63 ?_
                refine g_iconst F d_X7_callRow_64 ?_
                refine g_iload F 4 rfl d_X7_callRow_65 ?_
                refine g_ishl F d_X7_callRow_67 ?_
                refine g_ior F d_X7_callRow_68 ?_
                refine g_istore_n F (lv' := [(3, vI (bOr w (bShl 1 s))), (0, .ref (q 12)), (1, vI p), (2, vI y), (4, vI s), (5, vI d), (6, vI t)]) rfl (by decide) rfl d_X7_callRow_69 ?_
                refine g_iinc F (lv' := [(4, vI (s + 1)), (3, vI (bOr w (bShl 1 s))), (0, .ref (q 12)), (1, vI p), (2, vI y), (5, vI d), (6, vI t)]) 4 rfl rfl (by decide) rfl d_X7_callRow_70 ?_
                refine g_goto F d_X7_callRow_73 ?_
                have hw2 : 0 ≤ (bOr w (bShl 1 s)) ∧ (bOr w (bShl 1 s)) < 256 := by first | exact hw | exact (or_in hw (one_in (k := s) (by omega)).1).1
                have hk2 : ∀ k, 0 ≤ k → k < 8 → bt (bOr w (bShl 1 s)) k = (decide (k < s + 1) && bt (σ 14 y) (cwd σ p y k)) := by
                  first
                    | exact bit_put hw (by omega) hk h60
                    | exact bit_skip hk (by simpa using h60)
                refine G_sub (ks := [2, 3, 4, 1, 0]) rfl ?_
                exact ih5 (bOr w (bShl 1 s)) (s + 1) (by omega) hw2 hk2 (by omega)
            · refine g_iload F 5 rfl d_X7_callRow_27 ?_
              refine g_aload_n F 0 rfl rfl d_X7_callRow_29 ?_
              refine g_iload_n F 1 rfl rfl d_X7_callRow_30 ?_
              refine g_iload F 6 rfl d_X7_callRow_31 ?_
              refine g_Vi F (own := RX7) (c_X7_textRow l E q sh σ hs p t hp (by omega) (fun j h0 h1 => hh j h0 (by omega))) k_X7_70 (hsC_12 hs) rfl rfl [vI d] d_X7_callRow_33 ⟨rfl, rfl, by decide, by decide⟩ ⟨Nat.zero_le _, Nat.zero_le _⟩ rfl (Nat.le_of_ble_eq_true rfl) ?_
              rintro _ _ ⟨rfl, rfl⟩
              refine g_iload F 4 rfl d_X7_callRow_36 ?_
              refine g_ishr F d_X7_callRow_38 ?_
              refine g_iconst F d_X7_callRow_39 ?_
              refine g_iand F d_X7_callRow_40 ?_
              refine G_top (b := b2 (bt (σ 13 (tp (σ 10) p t)) s)) (bit_eq (hR _) (by omega)) ?_
              refine g_iload F 6 rfl d_X7_callRow_41 ?_
              refine g_ishl F d_X7_callRow_43 ?_
              refine g_ior F d_X7_callRow_44 ?_
              refine g_istore F (lv' := [(5, vI (bOr d (bShl (b2 (bt (σ 13 (tp (σ 10) p t)) s)) t))), (0, .ref (q 12)), (1, vI p), (2, vI y), (3, vI w), (4, vI s), (6, vI t)]) (by decide) rfl d_X7_callRow_45 ?_
              refine g_iinc F (lv' := [(6, vI (t + 1)), (5, vI (bOr d (bShl (b2 (bt (σ 13 (tp (σ 10) p t)) s)) t))), (0, .ref (q 12)), (1, vI p), (2, vI y), (3, vI w), (4, vI s)]) 6 rfl rfl (by decide) rfl d_X7_callRow_47 ?_
              refine g_goto F d_X7_callRow_50 ?_
              refine G_sub (ks := [2, 3, 4, 5, 6, 1, 0]) rfl ?_
              exact ih18 (bOr d (bShl (b2 (bt (σ 13 (tp (σ 10) p t)) s)) t)) (t + 1) (by omega) (cwd_step σ p s (by omega) hd) (by omega)
        refine G_sub (ks := [2, 3, 4, 5, 6, 1, 0]) rfl ?_
        exact loop18 _ 0 0 (by omega) (c3_0 _ _ _).symm (Nat.lt_succ_self _)
  refine G_sub (ks := [2, 3, 4, 1, 0]) rfl ?_
  exact loop5 _ 0 0 (by omega) (by omega) (fun k h0 h1 => by rw [bt_0]; simp; intro h; exfalso; omega) (Nat.lt_succ_self _)
set_option maxHeartbeats 1000000 in
theorem c_X7_rowOf (l : Launch) (E : Ev) (q : Nat → Nat) (sh : List Shp) (σ : Sg) (hs : HsC sh) (p f : Int) (hf : 0 ≤ f ∧ f < 4) (hp : f * 30 ≤ p ∧ p < f * 30 + σ 6 f) (hBO : BOK σ) (hR : RW σ) (hTR : TR σ) : CI l E yX7_rowOf cX7_rowOf 2 .int ({ frames := 4, cells := 0, slots := 0, locals := 89 } : Room) q sh σ [.ref (q 12), vI p] (fun z τ => σ = τ ∧ rowOk σ p z) := by
  have hB := (hBO f hf.1 hf.2).1
  have hn1 := hB.1
  have hn2 := hB.2.1
  have hK := (hBO f hf.1 hf.2).2 p hp.1 hp.2
  have hc := (hB.2.2.2.2 p hp.1 hp.2).2.1
  have hkd := kd_in (σ 7 p)
  refine CI_of (own := RX7) (by decide) rfl (Nat.le_of_ble_eq_true rfl) (fun X Q F hQ => ?_)
  show G X E 2 q sh σ 0 0 Q 0 [(0, .ref (q 12)), (1, vI p)] []
  refine g_aload_n F 0 rfl rfl d_X7_rowOf_0 ?_
  refine g_getR F f_X7_21 d_X7_rowOf_1 (hsC_12 hs) rfl ?_
  refine g_iload_n F 1 rfl rfl d_X7_rowOf_4 ?_
  refine g_Vi F (own := RX7) (c_X0_kindAt l E q sh σ hs.B p (by omega)) k_X7_61 (hsC_5 hs) rfl rfl [] d_X7_rowOf_5 ⟨rfl, rfl, by decide, by decide⟩ ⟨Nat.zero_le _, Nat.zero_le _⟩ rfl (Nat.le_of_ble_eq_true rfl) ?_
  rintro _ _ ⟨rfl, rfl⟩
  refine G_top (b := kd (σ 7 p)) (hK.1) ?_
  have hcs : kd (σ 7 p) = 1 ∨ kd (σ 7 p) = 2 ∨ kd (σ 7 p) = 3 ∨ kd (σ 7 p) = 4 ∨ kd (σ 7 p) = 5 ∨ kd (σ 7 p) = 6 ∨ kd (σ 7 p) = 0 := by omega
  rcases hcs with hk | hk | hk | hk | hk | hk | hk
  · refine g_tabIn F d_X7_rowOf_8 ⟨by omega, by omega⟩ 0 (tgt := 48) (by omega) (by decide) rfl rfl ?_
    refine g_sipush F (by decide) d_X7_rowOf_48 ?_
    exact hQ d_X7_rowOf_51 (⟨rfl, by decide, fun s h0 h1 => by rw [bt_255 ⟨h0, h1⟩]; simp [mvl, hk]⟩)
  · refine g_tabIn F d_X7_rowOf_8 ⟨by omega, by omega⟩ 1 (tgt := 113) (by omega) (by decide) rfl rfl ?_
    refine g_iconst F d_X7_rowOf_113 ?_
    exact hQ d_X7_rowOf_114 (⟨rfl, by decide, fun s h0 h1 => by rw [bt_0]; simp [mvl, hk]⟩)
  · have h3 := kd_3.mp hk
    have h4 := wo_3 hk
    refine g_tabIn F d_X7_rowOf_8 ⟨by omega, by omega⟩ 2 (tgt := 52) (by omega) (by decide) rfl rfl ?_
    refine g_aload_n F 0 rfl rfl d_X7_rowOf_52 ?_
    refine g_getR F f_X7_21 d_X7_rowOf_53 (hsC_12 hs) rfl ?_
    refine g_iload_n F 1 rfl rfl d_X7_rowOf_56 ?_
    refine g_Vi F (own := RX7) (c_X0_worthAt l E q sh σ hs.B p (by omega)) k_X7_64 (hsC_5 hs) rfl rfl [] d_X7_rowOf_57 ⟨rfl, rfl, by decide, by decide⟩ ⟨Nat.zero_le _, Nat.zero_le _⟩ rfl (Nat.le_of_ble_eq_true rfl) ?_
    rintro _ _ ⟨rfl, rfl⟩
    refine G_top (b := wo (σ 7 p)) (hK.2.1) ?_
    refine g_Si F (own := RX7) (c_X7_setsWith l E q sh σ (wo (σ 7 p)) (by omega)) k_X7_67 [] d_X7_rowOf_60 ⟨rfl, rfl, by decide, by decide⟩ ⟨Nat.zero_le _, Nat.zero_le _⟩ rfl (Nat.le_of_ble_eq_true rfl) ?_
    rintro _ _ ⟨rfl, rfl⟩
    exact hQ d_X7_rowOf_63 (⟨rfl, ⟨by have := bt_sets (a := wo (σ 7 p)) (s := 0) (by omega) (by omega); omega, by have := bt_sets (a := wo (σ 7 p)) (s := 0) (by omega) (by omega); omega⟩, fun s h0 h1 => by rw [(bt_sets (a := wo (σ 7 p)) (s := s) (by omega) ⟨h0, h1⟩).1]; simp [mvl, hk]⟩)
  · have ht9 := tx_4 hk
    have hr := and_in (hR (tp (σ 10) p 0)) (hR (tp (σ 10) p 1))
    refine g_tabIn F d_X7_rowOf_8 ⟨by omega, by omega⟩ 3 (tgt := 64) (by omega) (by decide) rfl rfl ?_
    refine g_aload_n F 0 rfl rfl d_X7_rowOf_64 ?_
    refine g_iload_n F 1 rfl rfl d_X7_rowOf_65 ?_
    refine g_iconst F d_X7_rowOf_66 ?_
    refine g_Vi F (own := RX7) (c_X7_textRow l E q sh σ hs p 0 (by omega) (by omega) (fun j h0 h1 => by have h9 := hc j h0 (by omega); omega)) k_X7_70 (hsC_12 hs) rfl rfl [] d_X7_rowOf_67 ⟨rfl, rfl, by decide, by decide⟩ ⟨Nat.zero_le _, Nat.zero_le _⟩ rfl (Nat.le_of_ble_eq_true rfl) ?_
    rintro _ _ ⟨rfl, rfl⟩
    refine g_aload_n F 0 rfl rfl d_X7_rowOf_70 ?_
    refine g_iload_n F 1 rfl rfl d_X7_rowOf_71 ?_
    refine g_iconst F d_X7_rowOf_72 ?_
    refine g_Vi F (own := RX7) (c_X7_textRow l E q sh σ hs p 1 (by omega) (by omega) (fun j h0 h1 => by have h9 := hc j h0 (by omega); omega)) k_X7_70 (hsC_12 hs) rfl rfl [vI (σ 13 (tp (σ 10) p 0))] d_X7_rowOf_73 ⟨rfl, rfl, by decide, by decide⟩ ⟨Nat.zero_le _, Nat.zero_le _⟩ rfl (Nat.le_of_ble_eq_true rfl) ?_
    rintro _ _ ⟨rfl, rfl⟩
    refine g_iand F d_X7_rowOf_76 ?_
    exact hQ d_X7_rowOf_77 (⟨rfl, hr.1, fun s h0 h1 => by rw [hr.2]; simp [mvl, hk]⟩)
  · have ht9 := tx_5 hk
    have hr1 := or_in (hR (tp (σ 10) p 1)) (hR (tp (σ 10) p 2))
    have hr := and_in (hR (tp (σ 10) p 0)) hr1.1
    refine g_tabIn F d_X7_rowOf_8 ⟨by omega, by omega⟩ 4 (tgt := 78) (by omega) (by decide) rfl rfl ?_
    refine g_aload_n F 0 rfl rfl d_X7_rowOf_78 ?_
    refine g_iload_n F 1 rfl rfl d_X7_rowOf_79 ?_
    refine g_iconst F d_X7_rowOf_80 ?_
    refine g_Vi F (own := RX7) (c_X7_textRow l E q sh σ hs p 0 (by omega) (by omega) (fun j h0 h1 => by have h9 := hc j h0 (by omega); omega)) k_X7_70 (hsC_12 hs) rfl rfl [] d_X7_rowOf_81 ⟨rfl, rfl, by decide, by decide⟩ ⟨Nat.zero_le _, Nat.zero_le _⟩ rfl (Nat.le_of_ble_eq_true rfl) ?_
    rintro _ _ ⟨rfl, rfl⟩
    refine g_aload_n F 0 rfl rfl d_X7_rowOf_84 ?_
    refine g_iload_n F 1 rfl rfl d_X7_rowOf_85 ?_
    refine g_iconst F d_X7_rowOf_86 ?_
    refine g_Vi F (own := RX7) (c_X7_textRow l E q sh σ hs p 1 (by omega) (by omega) (fun j h0 h1 => by have h9 := hc j h0 (by omega); omega)) k_X7_70 (hsC_12 hs) rfl rfl [vI (σ 13 (tp (σ 10) p 0))] d_X7_rowOf_87 ⟨rfl, rfl, by decide, by decide⟩ ⟨Nat.zero_le _, Nat.zero_le _⟩ rfl (Nat.le_of_ble_eq_true rfl) ?_
    rintro _ _ ⟨rfl, rfl⟩
    refine g_aload_n F 0 rfl rfl d_X7_rowOf_90 ?_
    refine g_iload_n F 1 rfl rfl d_X7_rowOf_91 ?_
    refine g_iconst F d_X7_rowOf_92 ?_
    refine g_Vi F (own := RX7) (c_X7_textRow l E q sh σ hs p 2 (by omega) (by omega) (fun j h0 h1 => by have h9 := hc j h0 (by omega); omega)) k_X7_70 (hsC_12 hs) rfl rfl [vI (σ 13 (tp (σ 10) p 1)), vI (σ 13 (tp (σ 10) p 0))] d_X7_rowOf_93 ⟨rfl, rfl, by decide, by decide⟩ ⟨Nat.zero_le _, Nat.zero_le _⟩ rfl (Nat.le_of_ble_eq_true rfl) ?_
    rintro _ _ ⟨rfl, rfl⟩
    refine g_ior F d_X7_rowOf_96 ?_
    refine g_iand F d_X7_rowOf_97 ?_
    exact hQ d_X7_rowOf_98 (⟨rfl, hr.1, fun s h0 h1 => by rw [hr.2, hr1.2]; simp [mvl, hk]⟩)
  · have ht9 := tx_6 hk
    have hw6 := wo_6 hk
    refine g_tabIn F d_X7_rowOf_8 ⟨by omega, by omega⟩ 5 (tgt := 99) (by omega) (by decide) rfl rfl ?_
    refine g_aload_n F 0 rfl rfl d_X7_rowOf_99 ?_
    refine g_iload_n F 1 rfl rfl d_X7_rowOf_100 ?_
    refine g_aload_n F 0 rfl rfl d_X7_rowOf_101 ?_
    refine g_getR F f_X7_21 d_X7_rowOf_102 (hsC_12 hs) rfl ?_
    refine g_iload_n F 1 rfl rfl d_X7_rowOf_105 ?_
    refine g_Vi F (own := RX7) (c_X0_worthAt l E q sh σ hs.B p (by omega)) k_X7_64 (hsC_5 hs) rfl rfl [vI p, .ref (q 12)] d_X7_rowOf_106 ⟨rfl, rfl, by decide, by decide⟩ ⟨Nat.zero_le _, Nat.zero_le _⟩ rfl (Nat.le_of_ble_eq_true rfl) ?_
    rintro _ _ ⟨rfl, rfl⟩
    refine G_top (b := wo (σ 7 p)) (hK.2.1) ?_
    refine g_Vi F (own := RX7) (c_X7_callRow l E q sh σ hs p (wo (σ 7 p)) (by omega) hw6 (fun j h0 h1 => by have h9 := hc j h0 (by omega); omega) hR (hTR _)) k_X7_73 (hsC_12 hs) rfl rfl [] d_X7_rowOf_109 ⟨rfl, rfl, by decide, by decide⟩ ⟨Nat.zero_le _, Nat.zero_le _⟩ rfl (Nat.le_of_ble_eq_true rfl) ?_
    intro z τ hz
    obtain ⟨rfl, hz1, hz2⟩ := hz
    exact hQ d_X7_rowOf_112 (⟨rfl, hz1, fun s h0 h1 => by rw [hz2 s h0 h1]; simp [mvl, hk, tbl, cwd]⟩)
  · refine g_tabOut F d_X7_rowOf_8 ⟨by omega, by omega⟩ (tgt := 113) (by omega) rfl ?_
    refine g_iconst F d_X7_rowOf_113 ?_
    exact hQ d_X7_rowOf_114 (⟨rfl, by decide, fun s h0 h1 => by rw [bt_0]; simp [mvl, hk]⟩)
set_option maxHeartbeats 1000000 in
theorem c_X7_fillRows (l : Launch) (E : Ev) (q : Nat → Nat) (sh : List Shp) (σ : Sg) (hs : HsC sh) (hBO : BOK σ) (hR : RW σ) (hTR : TR σ) : CV l E yX7_fillRows cX7_fillRows 4 ({ frames := 5, cells := 0, slots := 0, locals := 110 } : Room) q sh σ [.ref (q 12)] (fun τ => Sm [13] σ τ ∧ RW τ ∧ ∀ f, 0 ≤ f → f < 4 → ∀ s, 0 ≤ s → s < 8 → Sol (σ 7) (σ 10) (tbl σ) (fun x => bt (τ 13 x) s) s (f * 30) (σ 6 f)) := by
  refine CV_of (own := RX7) (by decide) rfl (Nat.le_of_ble_eq_true rfl) (fun X Q F hQ => ?_)
  show G X E 4 q sh σ 0 0 Q 0 [(0, .ref (q 12))] []
  refine g_iconst F d_X7_fillRows_0 ?_
  refine g_istore_n F (lv' := [(1, vI 0), (0, .ref (q 12))]) rfl (by decide) rfl d_X7_fillRows_1 ?_
  have loop2 : ∀ (nn : Nat) (f : Int) (τ : Sg), (0 ≤ f ∧ f ≤ 4) → (Sm [13] σ τ) → (RW τ) → (∀ g, 0 ≤ g → g < f → ∀ s, 0 ≤ s → s < 8 → Sol (σ 7) (σ 10) (tbl σ) (fun x => bt (τ 13 x) s) s (g * 30) (σ 6 g)) → (4 - f).toNat < nn → G X E 4 q sh τ 0 0 Q 2 [(0, .ref (q 12)), (1, vI f)] [] := by
    intro n2
    induction n2 with
    | zero => intro f τ hf hm hR1 hd hm2; exact absurd hm2 (Nat.not_lt_zero _)
    | succ n2 ih2 =>
      intro f τ hf hm hR1 hd hm2
      have e6 : τ 6 = σ 6 := hm 6 (by decide)
      refine g_iload_n F 1 rfl rfl d_X7_fillRows_2 ?_
      refine g_iconst F d_X7_fillRows_3 ?_
      refine g_icmp_ge F d_X7_fillRows_4 ⟨by omega, by omega⟩ ⟨by decide, by decide⟩ (fun h4 => ?_) (fun h4 => ?_)
      · exact hQ d_X7_fillRows_56 (⟨hm, hR1, fun g h0 h1 => hd g h0 (by omega)⟩)
      · have hn1 := (hBO f hf.1 (by omega)).1.1
        have hn2 := (hBO f hf.1 (by omega)).1.2.1
        refine g_aload_n F 0 rfl rfl d_X7_fillRows_7 ?_
        refine g_getR F f_X7_21 d_X7_fillRows_8 (hsC_12 hs) rfl ?_
        refine g_iload_n F 1 rfl rfl d_X7_fillRows_11 ?_
        refine g_Vi F (own := RX7) (c_X0_root l E q sh τ hs.B f (by omega)) k_X7_38 (hsC_5 hs) rfl rfl [] d_X7_fillRows_12 ⟨rfl, rfl, by decide, by decide⟩ ⟨Nat.zero_le _, Nat.zero_le _⟩ rfl (Nat.le_of_ble_eq_true rfl) ?_
        rintro _ _ ⟨rfl, rfl⟩
        refine g_istore_n F (lv' := [(2, vI (f * 30)), (0, .ref (q 12)), (1, vI f)]) rfl (by decide) rfl d_X7_fillRows_15 ?_
        refine g_iload_n F 0 rfl rfl d_X7_fillRows_16 ?_
        refine g_aload_n F 1 rfl rfl d_X7_fillRows_17 ?_
        refine g_getR F f_X7_21 d_X7_fillRows_18 (hsC_12 hs) rfl ?_
        refine g_iload_n F 2 rfl rfl d_X7_fillRows_21 ?_
        refine g_Vi F (own := RX7) (c_X0_count l E q sh τ hs.B f (by omega)) k_X7_48 (hsC_5 hs) rfl rfl [vI (f * 30)] d_X7_fillRows_22 ⟨rfl, rfl, by decide, by decide⟩ ⟨Nat.zero_le _, Nat.zero_le _⟩ rfl (Nat.le_of_ble_eq_true rfl) ?_
        rintro _ _ ⟨rfl, rfl⟩
        refine G_top (b := σ 6 f) (by rw [e6]) ?_
        refine g_iadd F d_X7_fillRows_25 ?_
        refine g_iconst F d_X7_fillRows_26 ?_
        refine g_isub F d_X7_fillRows_27 ?_
        refine g_istore_n F (lv' := [(3, vI (((f * 30) + (σ 6 f)) - 1)), (2, vI (f * 30)), (0, .ref (q 12)), (1, vI f)]) rfl (by decide) rfl d_X7_fillRows_28 ?_
        have loop29 : ∀ (nn : Nat) (i : Int) (τ2 : Sg), (f * 30 - 1 ≤ i ∧ i ≤ f * 30 + σ 6 f - 1) → (Sm [13] σ τ2) → (RW τ2) → (∀ g, 0 ≤ g → g < f → ∀ s, 0 ≤ s → s < 8 → Sol (σ 7) (σ 10) (tbl σ) (fun x => bt (τ2 13 x) s) s (g * 30) (σ 6 g)) → (∀ p, i < p → p < f * 30 + σ 6 f → ∀ s, 0 ≤ s → s < 8 → bt (τ2 13 p) s = mvl (σ 7) (σ 10) (tbl σ) (fun x => bt (τ2 13 x) s) s p) → (i - f * 30 + 1).toNat < nn → G X E 4 q sh τ2 0 0 Q 29 [(0, .ref (q 12)), (1, vI f), (2, vI (f * 30)), (3, vI i)] [] := by
          intro n29
          induction n29 with
          | zero => intro i τ2 hi hm2 hR2 hd2 hin hm29; exact absurd hm29 (Nat.not_lt_zero _)
          | succ n29 ih29 =>
            intro i τ2 hi hm2 hR2 hd2 hin hm29
            have g6 : τ2 6 = σ 6 := hm2 6 (by decide)
            have g7 : τ2 7 = σ 7 := hm2 7 (by decide)
            have g8 : τ2 8 = σ 8 := hm2 8 (by decide)
            have g9 : τ2 9 = σ 9 := hm2 9 (by decide)
            have g10 : τ2 10 = σ 10 := hm2 10 (by decide)
            have g11 : τ2 11 = σ 11 := hm2 11 (by decide)
            have g14 : τ2 14 = σ 14 := hm2 14 (by decide)
            refine g_iload_n F 3 rfl rfl d_X7_fillRows_29 ?_
            refine g_iload_n F 2 rfl rfl d_X7_fillRows_30 ?_
            refine g_icmp_lt F d_X7_fillRows_31 ⟨by omega, by omega⟩ ⟨by omega, by omega⟩ (fun h31 => ?_) (fun h31 => ?_)
            · refine g_iinc F (lv' := [(1, vI (f + 1)), (0, .ref (q 12)), (2, vI (f * 30)), (3, vI i)]) 1 rfl rfl (by decide) rfl d_X7_fillRows_50 ?_
              refine g_goto F d_X7_fillRows_53 ?_
              refine G_sub (ks := [1, 0]) rfl ?_
              exact ih2 (f + 1) τ2 (by omega) hm2 hR2 (fun g h0 h1 s h2 h3 => by by_cases hg : g = f; (subst hg; exact fun p h4 h5 => hin p (by omega) h5 s h2 h3); exact hd2 g h0 (by omega) s h2 h3) (by omega)
            · have hBO2 : BOK τ2 := by
                intro g h0 h1
                rw [g6, g7, g8, g9, g10, g11]
                exact hBO g h0 h1
              refine g_aload_n F 0 rfl rfl d_X7_fillRows_34 ?_
              refine g_iload_n F 3 rfl rfl d_X7_fillRows_35 ?_
              refine g_aload_n F 0 rfl rfl d_X7_fillRows_36 ?_
              refine g_iload_n F 3 rfl rfl d_X7_fillRows_37 ?_
              refine g_Vi F (own := RX7) (c_X7_rowOf l E q sh τ2 hs i f ⟨hf.1, by omega⟩ ⟨by omega, by rw [g6]; omega⟩ hBO2 hR2 (fun g => by rw [g14]; exact hTR g)) k_X7_51 (hsC_12 hs) rfl rfl [vI i, .ref (q 12)] d_X7_fillRows_38 ⟨rfl, rfl, by decide, by decide⟩ ⟨Nat.zero_le _, Nat.zero_le _⟩ rfl (Nat.le_of_ble_eq_true rfl) ?_
              intro z τ3 hz
              obtain ⟨rfl, hz1⟩ := hz
              refine g_Vv F (own := RX7) (c_X7_setRow l E q sh τ2 hs i z (by omega)) k_X7_54 (hsC_12 hs) rfl rfl [] d_X7_fillRows_41 ⟨rfl, rfl, by decide, by decide⟩ ⟨Nat.zero_le _, Nat.zero_le _⟩ rfl (Nat.le_of_ble_eq_true rfl) ?_
              rintro _ rfl
              refine g_iinc F (lv' := [(3, vI (i + (-1))), (0, .ref (q 12)), (1, vI f), (2, vI (f * 30))]) 3 rfl rfl (by decide) rfl d_X7_fillRows_44 ?_
              refine g_goto F d_X7_fillRows_47 ?_
              have q0 : ∀ b n D, Wf (σ 7) (σ 10) D b n → (i < b ∨ b + n ≤ i ∨ True) → True := fun _ _ _ _ _ => trivial
              have q1 : ∀ g, 0 ≤ g → g < f → ∀ s, 0 ≤ s → s < 8 → Sol (σ 7) (σ 10) (tbl σ) (fun x => bt ((up τ2 13 i z) 13 x) s) s (g * 30) (σ 6 g) := by
                intro g h0 h1 s h2 h3 p h4 h5
                have hB := (hBO g h0 (by omega)).1
                have hn3 := hB.2.1
                show bt ((up τ2 13 i z) 13 p) s = _
                rw [up_other _ _ (show p ≠ i by omega)]
                have h6 := hd2 g h0 h1 s h2 h3 p h4 h5
                rw [show bt (τ2 13 p) s = (fun x => bt (τ2 13 x) s) p from rfl, h6]
                apply mvl_congr
                intro j hj0 hj1
                have h7 := (hB.2.2.2.2 p h4 h5).2.1 j hj0 hj1
                show bt (τ2 13 _) s = bt ((up τ2 13 i z) 13 _) s
                rw [up_other _ _ (show tp (σ 10) p j ≠ i by omega)]
              have q2 : ∀ p, i - 1 < p → p < f * 30 + σ 6 f → ∀ s, 0 ≤ s → s < 8 → bt ((up τ2 13 i z) 13 p) s = mvl (σ 7) (σ 10) (tbl σ) (fun x => bt ((up τ2 13 i z) 13 x) s) s p := by
                intro p h4 h5 s h2 h3
                have hB := (hBO f hf.1 (by omega)).1
                have key : mvl (σ 7) (σ 10) (tbl σ) (fun x => bt (τ2 13 x) s) s p = mvl (σ 7) (σ 10) (tbl σ) (fun x => bt ((up τ2 13 i z) 13 x) s) s p := by
                  apply mvl_congr
                  intro j hj0 hj1
                  have h7 := (hB.2.2.2.2 p (by omega) h5).2.1 j hj0 hj1
                  show bt (τ2 13 _) s = bt ((up τ2 13 i z) 13 _) s
                  rw [up_other _ _ (show tp (σ 10) p j ≠ i by omega)]
                rw [← key]
                by_cases hp : p = i
                · subst hp
                  rw [up_same, hz1.2 s h2 h3, g7, g10]
                  unfold tbl
                  rw [g14]
                · rw [up_other _ _ hp]
                  exact hin p (by omega) h5 s h2 h3
              refine G_sub (ks := [1, 2, 3, 0]) rfl ?_
              exact ih29 (i + (-1)) (up τ2 13 i z) (by omega) (hm2.up (by decide) _ _) (fun p => by rw [up_at]; split; exact hz1.1; exact hR2 p) q1 q2 (by omega)
        refine G_sub (ks := [2, 3, 1, 0]) rfl ?_
        exact loop29 _ (((f * 30) + (σ 6 f)) - 1) τ (by omega) hm hR1 hd (fun p h1 h2 => by exfalso; omega) (Nat.lt_succ_self _)
  refine G_sub (ks := [1, 0]) rfl ?_
  exact loop2 _ 0 σ (by omega) (Sm.refl _ _) hR (fun g h0 h1 => by exfalso; omega) (Nat.lt_succ_self _)
end
section
def mu (σ : Sg) : Int := pc8 (σ 14 0) + pc8 (σ 14 1) + pc8 (σ 14 2) + pc8 (σ 14 3)
theorem mu_in (σ : Sg) : 0 ≤ mu σ ∧ mu σ ≤ 32 := by
  have h0 := pc8_in (σ 14 0)
  have h1 := pc8_in (σ 14 1)
  have h2 := pc8_in (σ 14 2)
  have h3 := pc8_in (σ 14 3)
  unfold mu
  omega
def le8 (σ τ : Sg) : Prop := ∀ f s, 0 ≤ f → f < 4 → 0 ≤ s → s < 8 → bt (σ 14 f) s = true → bt (τ 14 f) s = true
theorem mu_step {σ τ : Sg} (hs : TR σ) (ht : TR τ) (h : le8 σ τ) (hf : ∃ f, 0 ≤ f ∧ f < 4 ∧ σ 14 f ≠ τ 14 f) : mu σ + 1 ≤ mu τ := by
  have h0 := pc8_mono (a := σ 14 0) (b := τ 14 0) (fun s a b => h 0 s (by decide) (by decide) a b)
  have h1 := pc8_mono (a := σ 14 1) (b := τ 14 1) (fun s a b => h 1 s (by decide) (by decide) a b)
  have h2 := pc8_mono (a := σ 14 2) (b := τ 14 2) (fun s a b => h 2 s (by decide) (by decide) a b)
  have h3 := pc8_mono (a := σ 14 3) (b := τ 14 3) (fun s a b => h 3 s (by decide) (by decide) a b)
  obtain ⟨f, f0, f1, f2⟩ := hf
  have h4 : pc8 (σ 14 f) < pc8 (τ 14 f) := by
    rcases Int.lt_or_le (pc8 (σ 14 f)) (pc8 (τ 14 f)) with q | q
    · exact q
    · exact absurd (pc8_eq (hs f) (ht f) (fun s a b => h f s f0 f1 a b) q) f2
  unfold mu
  rcases four ⟨f0, f1⟩ with rfl | rfl | rfl | rfl <;> omega
def chgT (σ : Sg) : Prop := ∃ f, 0 ≤ f ∧ f < 4 ∧ σ 14 f ≠ σ 13 (f * 30)
def RI (σ τ : Sg) : Prop := MonoT (tbl τ) ∧ (∀ L, MonoT L → FixT (σ 6) (σ 7) (σ 10) L → leT (tbl τ) L) ∧ ∀ f s, 0 ≤ f → f < 4 → 0 ≤ s → s < 8 → bt (τ 14 f) s = true → ∀ V, Sol (σ 7) (σ 10) (tbl τ) V s (f * 30) (σ 6 f) → V (f * 30) = true
theorem RI_0 {σ τ : Sg} (h : ∀ f, 0 ≤ f → f < 4 → τ 14 f = 0) : RI σ τ := by
  have e : ∀ f r, 0 ≤ f → f < 4 → tbl τ f r = true → False := by
    intro f r h0 h1 h2
    unfold tbl at h2
    rw [h f h0 h1, bt_0] at h2
    cases h2
  refine ⟨fun g r r' h0 h1 _ _ _ _ _ h2 => (e g r h0 h1 h2).elim, fun L _ _ g r h0 h1 _ _ h2 => (e g r h0 h1 h2).elim, fun f s h0 h1 _ _ h2 => (e f s h0 h1 h2).elim⟩
theorem RI_step {σ τ τ2 τ3 : Sg} (hBO : BOK σ) (h : RI σ τ) (hsol : ∀ f, 0 ≤ f → f < 4 → ∀ s, 0 ≤ s → s < 8 → Sol (σ 7) (σ 10) (tbl τ) (fun x => bt (τ2 13 x) s) s (f * 30) (σ 6 f)) (h3 : ∀ f, 0 ≤ f → f < 4 → τ3 14 f = τ2 13 (f * 30)) : RI σ τ3 ∧ le8 τ τ3 := by
  obtain ⟨hM, hL, hP⟩ := h
  have hB : ∀ f, 0 ≤ f → f < 4 → Wf (σ 7) (σ 10) (σ 11) (f * 30) (σ 6 f) := fun f h0 h1 => (hBO f h0 h1).1
  have e : ∀ f s, 0 ≤ f → f < 4 → tbl τ3 f s = bt (τ2 13 (f * 30)) s := fun f s h0 h1 => by unfold tbl; rw [h3 f h0 h1]
  have hle : le8 τ τ3 := by
    intro f s h0 h1 h2 h4 h5
    have := hP f s h0 h1 h2 h4 h5 _ (hsol f h0 h1 s h2 h4)
    rw [h3 f h0 h1]
    exact this
  have hle2 : leT (tbl τ) (tbl τ3) := by
    intro g r h0 h1 h2 h4 h5
    have := aA_in g
    exact hle g r h0 h1 h2 (by omega) h5
  refine ⟨⟨?_, ?_, ?_⟩, hle⟩
  · intro g r r' h0 h1 h2 h4 h5 h6 h7 h8
    have ha := aA_in g
    rw [e g r h0 h1] at h8
    rw [e g r' h0 h1]
    have hn := (hB g h0 h1).1
    exact (hsol g h0 h1 r h2 (by omega)).le (hB g h0 h1) hM (leT.refl _) h7 (hsol g h0 h1 r' h5 (by omega)) (p := g * 30) (by omega) (by omega) h8
  · intro L hLM hLF g r h0 h1 h2 h4 h5
    have ha := aA_in g
    rw [e g r h0 h1] at h5
    obtain ⟨V, hV, hV2⟩ := hLF g h0 h1 r h2 h4
    rw [hV2]
    have hn := (hB g h0 h1).1
    exact (hsol g h0 h1 r h2 (by omega)).le (hB g h0 h1) hM (hL L hLM hLF) (sub.refl _) hV (p := g * 30) (by omega) (by omega) h5
  · intro f s h0 h1 h2 h4 h5 V hV
    have h6 := e f s h0 h1
    unfold tbl at h6
    rw [h6] at h5
    have hn := (hB f h0 h1).1
    exact (hsol f h0 h1 s h2 h4).le (hB f h0 h1) hM hle2 (sub.refl _) hV (p := f * 30) (by omega) (by omega) h5
theorem Sol.tables {S Z : Int → Int} {T T' : TB} {V : Int → Bool} {s b n : Int} (h : ∀ g r, 0 ≤ g → g < 4 → T g r = T' g r) (hV : Sol S Z T V s b n) : Sol S Z T' V s b n := by
  intro p h1 h2
  rw [hV p h1 h2]
  unfold mvl
  by_cases k6 : kd (S p) = 6
  · have := wo_6 k6
    rw [if_neg (by omega), if_neg (by omega), if_neg (by omega), if_neg (by omega), if_pos k6, if_neg (by omega), if_neg (by omega), if_neg (by omega), if_neg (by omega), if_pos k6]
    exact h _ _ this.1 this.2
  · rw [if_neg k6, if_neg k6]
/-- what renew leaves behind -/
def TOK (σ τ : Sg) : Prop := RW τ ∧ TR τ ∧ LfpT (σ 6) (σ 7) (σ 10) (tbl τ) ∧ (∀ f, 0 ≤ f → f < 4 → ∀ s, 0 ≤ s → s < 8 → Sol (σ 7) (σ 10) (tbl τ) (fun x => bt (τ 13 x) s) s (f * 30) (σ 6 f)) ∧ ∀ f, 0 ≤ f → f < 4 → τ 14 f = τ 13 (f * 30)
theorem TOK_of {σ τ τ4 : Sg} (hBO : BOK σ) (hI : RI σ τ) (hR : RW τ) (hT : TR τ) (hf : (∀ f, 0 ≤ f → f < 4 → ∀ s, 0 ≤ s → s < 8 → Sol (σ 7) (σ 10) (tbl τ) (fun x => bt (τ 13 x) s) s (f * 30) (σ 6 f)) ∧ ∀ f, 0 ≤ f → f < 4 → τ 14 f = τ 13 (f * 30)) (g13 : τ4 13 = τ 13) (g14 : τ4 14 = τ 14) : TOK σ τ4 := by
  have e : tbl τ4 = tbl τ := by unfold tbl; rw [g14]
  refine ⟨fun j => by rw [g13]; exact hR j, fun j => by rw [g14]; exact hT j, ?_, ?_, ?_⟩
  · rw [e]
    refine ⟨hI.1, fun f a b s c d => ?_, hI.2.1⟩
    have ha := aA_in f
    exact ⟨_, hf.1 f a b s c (by omega), by unfold tbl; rw [hf.2 f a b]⟩
  · rw [e, g13]; exact hf.1
  · rw [g13, g14]; exact hf.2
set_option maxHeartbeats 1000000 in
theorem c_X7_takeRoots (l : Launch) (E : Ev) (q : Nat → Nat) (sh : List Shp) (σ : Sg) (hs : HsC sh) (hR : RW σ) (hT : TR σ) : CI l E yX7_takeRoots cX7_takeRoots 4 .boolean ({ frames := 2, cells := 0, slots := 0, locals := 41 } : Room) q sh σ [.ref (q 12)] (fun z τ => Sm [14] σ τ ∧ (∀ f, 0 ≤ f → f < 4 → τ 14 f = σ 13 (f * 30)) ∧ TR τ ∧ ((z = 0 ∧ ∀ f, 0 ≤ f → f < 4 → σ 14 f = σ 13 (f * 30)) ∨ (z = 1 ∧ chgT σ))) := by
  refine CB_of (own := RX7) (by decide) rfl (Nat.le_of_ble_eq_true rfl) (fun X Q F hQ => ?_)
  show G X E 4 q sh σ 0 0 Q 0 [(0, .ref (q 12))] []
  refine g_iconst F d_X7_takeRoots_0 ?_
  refine g_istore_n F (lv' := [(1, vI 0), (0, .ref (q 12))]) rfl (by decide) rfl d_X7_takeRoots_1 ?_
  refine g_iconst F d_X7_takeRoots_2 ?_
  refine g_istore_n F (lv' := [(2, vI 0), (1, vI 0), (0, .ref (q 12))]) rfl (by decide) rfl d_X7_takeRoots_3 ?_
  have loop4 : ∀ (nn : Nat) (c : Int) (f : Int) (τ : Sg), (0 ≤ f ∧ f ≤ 4) → (Sm [14] σ τ) → (∀ g, 0 ≤ g → g < f → τ 14 g = σ 13 (g * 30)) → (∀ g, f ≤ g → τ 14 g = σ 14 g) → (TR τ) → ((c = 0 ∧ ∀ g, 0 ≤ g → g < f → σ 14 g = σ 13 (g * 30)) ∨ (c = 1 ∧ chgT σ)) → (4 - f).toNat < nn → G X E 4 q sh τ 0 0 Q 4 [(0, .ref (q 12)), (1, vI c), (2, vI f)] [] := by
    intro n4
    induction n4 with
    | zero => intro c f τ hf hm h1 h2 hT1 hc hm4; exact absurd hm4 (Nat.not_lt_zero _)
    | succ n4 ih4 =>
      intro c f τ hf hm h1 h2 hT1 hc hm4
      have e13 : τ 13 = σ 13 := hm 13 (by decide)
      have hc01 : c = 0 ∨ c = 1 := hc.elim (fun h => Or.inl h.1) (fun h => Or.inr h.1)
      refine g_iload_n F 2 rfl rfl d_X7_takeRoots_4 ?_
      refine g_iconst F d_X7_takeRoots_5 ?_
      refine g_icmp_ge F d_X7_takeRoots_6 ⟨by omega, by omega⟩ ⟨by decide, by decide⟩ (fun h6 => ?_) (fun h6 => ?_)
      · refine g_iload_n F 1 rfl rfl d_X7_takeRoots_55 ?_
        exact hQ d_X7_takeRoots_56 hc01 (⟨hm, fun g a b => h1 g a (by omega), hT1, hc.elim (fun h => Or.inl ⟨h.1, fun g a b => h.2 g a (by omega)⟩) Or.inr⟩)
      · refine g_aload_n F 0 rfl rfl d_X7_takeRoots_9 ?_
        refine g_aload_n F 0 rfl rfl d_X7_takeRoots_10 ?_
        refine g_getR F f_X7_21 d_X7_takeRoots_11 (hsC_12 hs) rfl ?_
        refine g_iload_n F 2 rfl rfl d_X7_takeRoots_14 ?_
        refine g_Vi F (own := RX7) (c_X0_root l E q sh τ hs.B f (by omega)) k_X7_38 (hsC_5 hs) rfl rfl [.ref (q 12)] d_X7_takeRoots_15 ⟨rfl, rfl, by decide, by decide⟩ ⟨Nat.zero_le _, Nat.zero_le _⟩ rfl (Nat.le_of_ble_eq_true rfl) ?_
        rintro _ _ ⟨rfl, rfl⟩
        refine g_Vi F (own := RX7) (c_X7_rowAt l E q sh τ hs (f * 30) (by omega)) k_X7_58 (hsC_12 hs) rfl rfl [] d_X7_takeRoots_18 ⟨rfl, rfl, by decide, by decide⟩ ⟨Nat.zero_le _, Nat.zero_le _⟩ rfl (Nat.le_of_ble_eq_true rfl) ?_
        rintro _ _ ⟨rfl, rfl⟩
        refine G_top (b := σ 13 (f * 30)) (by rw [e13]) ?_
        refine g_istore_n F (lv' := [(3, vI (σ 13 (f * 30))), (0, .ref (q 12)), (1, vI c), (2, vI f)]) rfl (by decide) rfl d_X7_takeRoots_21 ?_
        refine g_iload_n F 2 rfl rfl d_X7_takeRoots_22 ?_
        refine g_if_ne F d_X7_takeRoots_23 ⟨by omega, by omega⟩ (fun h23 => ?_) (fun h23 => ?_)
        · refine g_iconst F d_X7_takeRoots_36 ?_
          refine g_goto F d_X7_takeRoots_37 ?_
          refine g_istore_n F (lv' := [(1, vI 1), (3, vI (σ 13 (f * 30))), (0, .ref (q 12)), (2, vI f)]) rfl (by decide) rfl d_X7_takeRoots_41 ?_
          refine g_aload_n F 2 rfl rfl d_X7_takeRoots_42 ?_
          refine g_getR F f_X7_15 d_X7_takeRoots_43 (hsC_12 hs) rfl ?_
          refine g_iload_n F 3 rfl rfl d_X7_takeRoots_46 ?_
          refine g_iload_n F 1 rfl rfl d_X7_takeRoots_47 ?_
          refine g_iastore F d_X7_takeRoots_48 (hsC_14 hs) (by omega) (by omega) (by decide) ?_
          refine g_iinc F (lv' := [(2, vI (f + 1)), (1, vI 1), (3, vI (σ 13 (f * 30))), (0, .ref (q 12))]) 3 rfl rfl (by decide) rfl d_X7_takeRoots_49 ?_
          refine g_goto F d_X7_takeRoots_52 ?_
          have hc2 : ((1 : Int) = 0 ∧ ∀ g, 0 ≤ g → g < f + 1 → σ 14 g = σ 13 (g * 30)) ∨ ((1 : Int) = 1 ∧ chgT σ) := by
            rcases hc with ⟨q1, q2⟩ | ⟨q1, q2⟩
            · first
                | (left; refine ⟨rfl, fun g a b => ?_⟩; by_cases hg : g = f; (rw [hg]; exact h33.symm); exact q2 g a (by omega))
                | (right; exact ⟨rfl, f, hf.1, by omega, fun z => h33 z.symm⟩)
                | (exfalso; omega)
            · first
                | (right; exact ⟨rfl, q2⟩)
                | (exfalso; omega)
          refine G_sub (ks := [3, 1, 0]) rfl ?_
          exact ih4 1 (f + 1) (up τ 14 f (σ 13 (f * 30))) (by omega) (hm.up (by decide) _ _) (fun g a b => by rw [up_at]; split; (rename_i e; rw [e]); exact h1 g a (by omega)) (fun g a => by rw [up_other _ _ (by omega)]; exact h2 g (by omega)) (fun g => by rw [up_at]; split; exact hR _; exact hT1 g) hc2 (by omega)
        · refine g_iload_n F 0 rfl rfl d_X7_takeRoots_26 ?_
          refine g_aload_n F 1 rfl rfl d_X7_takeRoots_27 ?_
          refine g_getR F f_X7_15 d_X7_takeRoots_28 (hsC_12 hs) rfl ?_
          refine g_iload_n F 3 rfl rfl d_X7_takeRoots_31 ?_
          refine g_iaload F d_X7_takeRoots_32 (hsC_14 hs) (by omega) (by omega) (by decide) ?_
          refine G_top (b := σ 14 f) (h2 f (Int.le_refl _)) ?_
          refine g_icmp_eq F d_X7_takeRoots_33 ⟨by have := hR (f * 30); omega, by have := hR (f * 30); omega⟩ ⟨by have := hT f; omega, by have := hT f; omega⟩ (fun h33 => ?_) (fun h33 => ?_)
          · refine g_iconst F d_X7_takeRoots_40 ?_
            refine g_istore_n F (lv' := [(1, vI 0), (3, vI (σ 13 (f * 30))), (0, .ref (q 12)), (2, vI f)]) rfl (by decide) rfl d_X7_takeRoots_41 ?_
            refine g_aload_n F 2 rfl rfl d_X7_takeRoots_42 ?_
            refine g_getR F f_X7_15 d_X7_takeRoots_43 (hsC_12 hs) rfl ?_
            refine g_iload_n F 3 rfl rfl d_X7_takeRoots_46 ?_
            refine g_iload_n F 1 rfl rfl d_X7_takeRoots_47 ?_
            refine g_iastore F d_X7_takeRoots_48 (hsC_14 hs) (by omega) (by omega) (by decide) ?_
            refine g_iinc F (lv' := [(2, vI (f + 1)), (1, vI 0), (3, vI (σ 13 (f * 30))), (0, .ref (q 12))]) 3 rfl rfl (by decide) rfl d_X7_takeRoots_49 ?_
            refine g_goto F d_X7_takeRoots_52 ?_
            have hc2 : ((0 : Int) = 0 ∧ ∀ g, 0 ≤ g → g < f + 1 → σ 14 g = σ 13 (g * 30)) ∨ ((0 : Int) = 1 ∧ chgT σ) := by
              rcases hc with ⟨q1, q2⟩ | ⟨q1, q2⟩
              · first
                  | (left; refine ⟨rfl, fun g a b => ?_⟩; by_cases hg : g = f; (rw [hg]; exact h33.symm); exact q2 g a (by omega))
                  | (right; exact ⟨rfl, f, hf.1, by omega, fun z => h33 z.symm⟩)
                  | (exfalso; omega)
              · first
                  | (right; exact ⟨rfl, q2⟩)
                  | (exfalso; omega)
            refine G_sub (ks := [3, 1, 0]) rfl ?_
            exact ih4 0 (f + 1) (up τ 14 f (σ 13 (f * 30))) (by omega) (hm.up (by decide) _ _) (fun g a b => by rw [up_at]; split; (rename_i e; rw [e]); exact h1 g a (by omega)) (fun g a => by rw [up_other _ _ (by omega)]; exact h2 g (by omega)) (fun g => by rw [up_at]; split; exact hR _; exact hT1 g) hc2 (by omega)
          · refine g_iconst F d_X7_takeRoots_36 ?_
            refine g_goto F d_X7_takeRoots_37 ?_
            refine g_istore_n F (lv' := [(1, vI 1), (3, vI (σ 13 (f * 30))), (0, .ref (q 12)), (2, vI f)]) rfl (by decide) rfl d_X7_takeRoots_41 ?_
            refine g_aload_n F 2 rfl rfl d_X7_takeRoots_42 ?_
            refine g_getR F f_X7_15 d_X7_takeRoots_43 (hsC_12 hs) rfl ?_
            refine g_iload_n F 3 rfl rfl d_X7_takeRoots_46 ?_
            refine g_iload_n F 1 rfl rfl d_X7_takeRoots_47 ?_
            refine g_iastore F d_X7_takeRoots_48 (hsC_14 hs) (by omega) (by omega) (by decide) ?_
            refine g_iinc F (lv' := [(2, vI (f + 1)), (1, vI 1), (3, vI (σ 13 (f * 30))), (0, .ref (q 12))]) 3 rfl rfl (by decide) rfl d_X7_takeRoots_49 ?_
            refine g_goto F d_X7_takeRoots_52 ?_
            have hc2 : ((1 : Int) = 0 ∧ ∀ g, 0 ≤ g → g < f + 1 → σ 14 g = σ 13 (g * 30)) ∨ ((1 : Int) = 1 ∧ chgT σ) := by
              rcases hc with ⟨q1, q2⟩ | ⟨q1, q2⟩
              · first
                  | (left; refine ⟨rfl, fun g a b => ?_⟩; by_cases hg : g = f; (rw [hg]; exact h33.symm); exact q2 g a (by omega))
                  | (right; exact ⟨rfl, f, hf.1, by omega, fun z => h33 z.symm⟩)
                  | (exfalso; omega)
              · first
                  | (right; exact ⟨rfl, q2⟩)
                  | (exfalso; omega)
            refine G_sub (ks := [3, 1, 0]) rfl ?_
            exact ih4 1 (f + 1) (up τ 14 f (σ 13 (f * 30))) (by omega) (hm.up (by decide) _ _) (fun g a b => by rw [up_at]; split; (rename_i e; rw [e]); exact h1 g a (by omega)) (fun g a => by rw [up_other _ _ (by omega)]; exact h2 g (by omega)) (fun g => by rw [up_at]; split; exact hR _; exact hT1 g) hc2 (by omega)
  refine G_sub (ks := [2, 1, 0]) rfl ?_
  exact loop4 _ 0 0 σ (by omega) (Sm.refl _ _) (fun g a b => by exfalso; omega) (fun _ _ => rfl) hT (Or.inl ⟨rfl, fun g a b => by exfalso; omega⟩) (Nat.lt_succ_self _)
set_option maxHeartbeats 1000000 in
theorem c_X7_renew (l : Launch) (E : Ev) (q : Nat → Nat) (sh : List Shp) (σ : Sg) (hs : HsC sh) (hBO : BOK σ) (hR : RW σ) (hT : TR σ) : CV l E yX7_renew cX7_renew 3 ({ frames := 6, cells := 0, slots := 0, locals := 133 } : Room) q sh σ [.ref (q 12)] (fun τ => Sm [13, 14, 15] σ τ ∧ TOK σ τ ∧ ∀ f, 0 ≤ f → f < 4 → τ 15 f = need3 (fun s => tbl τ f s) f) := by
  refine CV_of (own := RX7) (by decide) rfl (Nat.le_of_ble_eq_true rfl) (fun X Q F hQ => ?_)
  show G X E 3 q sh σ 0 0 Q 0 [(0, .ref (q 12))] []
  refine g_aload_n F 0 rfl rfl d_X7_renew_0 ?_
  refine g_getR F f_X7_15 d_X7_renew_1 (hsC_12 hs) rfl ?_
  refine g_iconst F d_X7_renew_4 ?_
  refine g_Sv F (own := RX7) (c_J7_fill_53178 l E q sh σ 14 4 0 (hsC_14 hs) (by decide)) k_X7_25 [] d_X7_renew_5 ⟨rfl, rfl, by decide, by decide⟩ ⟨Nat.zero_le _, Nat.zero_le _⟩ rfl (Nat.le_of_ble_eq_true rfl) ?_
  intro τ1 hp
  refine g_iconst F d_X7_renew_8 ?_
  refine g_istore_n F (lv' := [(1, vI 1), (0, .ref (q 12))]) rfl (by decide) rfl d_X7_renew_9 ?_
  refine g_iconst F d_X7_renew_10 ?_
  refine g_istore_n F (lv' := [(2, vI 0), (1, vI 1), (0, .ref (q 12))]) rfl (by decide) rfl d_X7_renew_11 ?_
  have loop12 : ∀ (nn : Nat) (g : Int) (r : Int) (τ : Sg), (0 ≤ r ∧ r ≤ 33) → (g = 0 ∨ g = 1) → (Sm [13, 14] σ τ) → (RW τ) → (TR τ) → (RI σ τ) → (g = 1 → r ≤ mu τ) → (g = 0 → (∀ f, 0 ≤ f → f < 4 → ∀ s, 0 ≤ s → s < 8 → Sol (σ 7) (σ 10) (tbl τ) (fun x => bt (τ 13 x) s) s (f * 30) (σ 6 f)) ∧ ∀ f, 0 ≤ f → f < 4 → τ 14 f = τ 13 (f * 30)) → (33 - r).toNat < nn → G X E 3 q sh τ 0 0 Q 12 [(0, .ref (q 12)), (1, vI g), (2, vI r)] [] := by
    intro n12
    induction n12 with
    | zero => intro g r τ hr hg hm hR1 hT1 hI h1 h0 hm12; exact absurd hm12 (Nat.not_lt_zero _)
    | succ n12 ih12 =>
      intro g r τ hr hg hm hR1 hT1 hI h1 h0 hm12
      have e6 : τ 6 = σ 6 := hm 6 (by decide)
      have e7 : τ 7 = σ 7 := hm 7 (by decide)
      have e8 : τ 8 = σ 8 := hm 8 (by decide)
      have e9 : τ 9 = σ 9 := hm 9 (by decide)
      have e10 : τ 10 = σ 10 := hm 10 (by decide)
      have e11 : τ 11 = σ 11 := hm 11 (by decide)
      refine g_iload_n F 1 rfl rfl d_X7_renew_12 ?_
      refine g_if_eq F d_X7_renew_13 ⟨by omega, by omega⟩ (fun h13 => ?_) (fun h13 => ?_)
      · have hg0 : g = 0 := by
          rcases hg with q | q
          · exact q
          · have := h1 q
            have := mu_in τ
            exfalso; omega
        have hfin := h0 hg0
        refine g_iconst F d_X7_renew_37 ?_
        refine g_istore_n F (lv' := [(2, vI 0), (0, .ref (q 12)), (1, vI g)]) rfl (by decide) rfl d_X7_renew_38 ?_
        have loop39 : ∀ (nn : Nat) (f2 : Int) (τ4 : Sg), (0 ≤ f2 ∧ f2 ≤ 4) → (Sm [15] τ τ4) → (∀ k, 0 ≤ k → k < f2 → τ4 15 k = need3 (fun s => bt (τ 13 (k * 30)) s) k) → (4 - f2).toNat < nn → G X E 3 q sh τ4 0 0 Q 39 [(0, .ref (q 12)), (1, vI g), (2, vI f2)] [] := by
          intro n39
          induction n39 with
          | zero => intro f2 τ4 hf2 hm4 hn4 hm39; exact absurd hm39 (Nat.not_lt_zero _)
          | succ n39 ih39 =>
            intro f2 τ4 hf2 hm4 hn4 hm39
            have g13 : τ4 13 = τ 13 := hm4 13 (by decide)
            have g14 : τ4 14 = τ 14 := hm4 14 (by decide)
            refine g_iload_n F 2 rfl rfl d_X7_renew_39 ?_
            refine g_iconst F d_X7_renew_40 ?_
            refine g_icmp_ge F d_X7_renew_41 ⟨by omega, by omega⟩ ⟨by decide, by decide⟩ (fun h41 => ?_) (fun h41 => ?_)
            · exact hQ d_X7_renew_69 (⟨(hm.wide (by decide)).trans (hm4.wide (by decide)), TOK_of hBO hI hR1 hT1 hfin g13 g14, fun k a b => by rw [hn4 k a (by omega)]; unfold need3 tbl; rw [g14, hfin.2 k a b]⟩)
            · refine g_aload_n F 0 rfl rfl d_X7_renew_44 ?_
              refine g_getR F f_X7_18 d_X7_renew_45 (hsC_12 hs) rfl ?_
              refine g_iload_n F 2 rfl rfl d_X7_renew_48 ?_
              refine g_aload_n F 0 rfl rfl d_X7_renew_49 ?_
              refine g_aload_n F 0 rfl rfl d_X7_renew_50 ?_
              refine g_getR F f_X7_21 d_X7_renew_51 (hsC_12 hs) rfl ?_
              refine g_iload_n F 2 rfl rfl d_X7_renew_54 ?_
              refine g_Vi F (own := RX7) (c_X0_root l E q sh τ4 hs.B f2 (by omega)) k_X7_38 (hsC_5 hs) rfl rfl [.ref (q 12), vI f2, .ref (q 15)] d_X7_renew_55 ⟨rfl, rfl, by decide, by decide⟩ ⟨Nat.zero_le _, Nat.zero_le _⟩ rfl (Nat.le_of_ble_eq_true rfl) ?_
              rintro _ _ ⟨rfl, rfl⟩
              refine g_iload_n F 2 rfl rfl d_X7_renew_58 ?_
              refine g_Vi F (own := RX7) (c_X7_neededAt l E q sh τ4 hs (f2 * 30) f2 (by omega) (by omega) (by rw [g13]; exact hR1 _)) k_X7_44 (hsC_12 hs) rfl rfl [vI f2, .ref (q 15)] d_X7_renew_59 ⟨rfl, rfl, by decide, by decide⟩ ⟨Nat.zero_le _, Nat.zero_le _⟩ rfl (Nat.le_of_ble_eq_true rfl) ?_
              rintro _ _ ⟨rfl, rfl⟩
              refine G_top (b := need3 (fun s => bt (τ 13 (f2 * 30)) s) f2) (by rw [g13]) ?_
              refine g_iastore F d_X7_renew_62 (hsC_15 hs) (by omega) (by omega) (by decide) ?_
              refine g_iinc F (lv' := [(2, vI (f2 + 1)), (0, .ref (q 12)), (1, vI g)]) 2 rfl rfl (by decide) rfl d_X7_renew_63 ?_
              refine g_goto F d_X7_renew_66 ?_
              refine G_sub (ks := [1, 2, 0]) rfl ?_
              exact ih39 (f2 + 1) (up τ4 15 f2 (need3 (fun s => bt (τ 13 (f2 * 30)) s) f2)) (by omega) (hm4.up (by decide) _ _) (fun k a b => by rw [up_at]; split; (rename_i e; rw [e]); exact hn4 k a (by omega)) (by omega)
        refine G_sub (ks := [1, 2, 0]) rfl ?_
        exact loop39 _ 0 τ (by omega) (Sm.refl _ _) (fun k a b => by exfalso; omega) (Nat.lt_succ_self _)
      · refine g_iload_n F 2 rfl rfl d_X7_renew_16 ?_
        refine g_bipush F (by decide) d_X7_renew_17 ?_
        refine g_icmp_ge F d_X7_renew_19 ⟨by omega, by omega⟩ ⟨by decide, by decide⟩ (fun h19 => ?_) (fun h19 => ?_)
        · have hg0 : g = 0 := by
            rcases hg with q | q
            · exact q
            · have := h1 q
              have := mu_in τ
              exfalso; omega
          have hfin := h0 hg0
          refine g_iconst F d_X7_renew_37 ?_
          refine g_istore_n F (lv' := [(2, vI 0), (0, .ref (q 12)), (1, vI g)]) rfl (by decide) rfl d_X7_renew_38 ?_
          have loop39 : ∀ (nn : Nat) (f2 : Int) (τ4 : Sg), (0 ≤ f2 ∧ f2 ≤ 4) → (Sm [15] τ τ4) → (∀ k, 0 ≤ k → k < f2 → τ4 15 k = need3 (fun s => bt (τ 13 (k * 30)) s) k) → (4 - f2).toNat < nn → G X E 3 q sh τ4 0 0 Q 39 [(0, .ref (q 12)), (1, vI g), (2, vI f2)] [] := by
            intro n39
            induction n39 with
            | zero => intro f2 τ4 hf2 hm4 hn4 hm39; exact absurd hm39 (Nat.not_lt_zero _)
            | succ n39 ih39 =>
              intro f2 τ4 hf2 hm4 hn4 hm39
              have g13 : τ4 13 = τ 13 := hm4 13 (by decide)
              have g14 : τ4 14 = τ 14 := hm4 14 (by decide)
              refine g_iload_n F 2 rfl rfl d_X7_renew_39 ?_
              refine g_iconst F d_X7_renew_40 ?_
              refine g_icmp_ge F d_X7_renew_41 ⟨by omega, by omega⟩ ⟨by decide, by decide⟩ (fun h41 => ?_) (fun h41 => ?_)
              · exact hQ d_X7_renew_69 (⟨(hm.wide (by decide)).trans (hm4.wide (by decide)), TOK_of hBO hI hR1 hT1 hfin g13 g14, fun k a b => by rw [hn4 k a (by omega)]; unfold need3 tbl; rw [g14, hfin.2 k a b]⟩)
              · refine g_aload_n F 0 rfl rfl d_X7_renew_44 ?_
                refine g_getR F f_X7_18 d_X7_renew_45 (hsC_12 hs) rfl ?_
                refine g_iload_n F 2 rfl rfl d_X7_renew_48 ?_
                refine g_aload_n F 0 rfl rfl d_X7_renew_49 ?_
                refine g_aload_n F 0 rfl rfl d_X7_renew_50 ?_
                refine g_getR F f_X7_21 d_X7_renew_51 (hsC_12 hs) rfl ?_
                refine g_iload_n F 2 rfl rfl d_X7_renew_54 ?_
                refine g_Vi F (own := RX7) (c_X0_root l E q sh τ4 hs.B f2 (by omega)) k_X7_38 (hsC_5 hs) rfl rfl [.ref (q 12), vI f2, .ref (q 15)] d_X7_renew_55 ⟨rfl, rfl, by decide, by decide⟩ ⟨Nat.zero_le _, Nat.zero_le _⟩ rfl (Nat.le_of_ble_eq_true rfl) ?_
                rintro _ _ ⟨rfl, rfl⟩
                refine g_iload_n F 2 rfl rfl d_X7_renew_58 ?_
                refine g_Vi F (own := RX7) (c_X7_neededAt l E q sh τ4 hs (f2 * 30) f2 (by omega) (by omega) (by rw [g13]; exact hR1 _)) k_X7_44 (hsC_12 hs) rfl rfl [vI f2, .ref (q 15)] d_X7_renew_59 ⟨rfl, rfl, by decide, by decide⟩ ⟨Nat.zero_le _, Nat.zero_le _⟩ rfl (Nat.le_of_ble_eq_true rfl) ?_
                rintro _ _ ⟨rfl, rfl⟩
                refine G_top (b := need3 (fun s => bt (τ 13 (f2 * 30)) s) f2) (by rw [g13]) ?_
                refine g_iastore F d_X7_renew_62 (hsC_15 hs) (by omega) (by omega) (by decide) ?_
                refine g_iinc F (lv' := [(2, vI (f2 + 1)), (0, .ref (q 12)), (1, vI g)]) 2 rfl rfl (by decide) rfl d_X7_renew_63 ?_
                refine g_goto F d_X7_renew_66 ?_
                refine G_sub (ks := [1, 2, 0]) rfl ?_
                exact ih39 (f2 + 1) (up τ4 15 f2 (need3 (fun s => bt (τ 13 (f2 * 30)) s) f2)) (by omega) (hm4.up (by decide) _ _) (fun k a b => by rw [up_at]; split; (rename_i e; rw [e]); exact hn4 k a (by omega)) (by omega)
          refine G_sub (ks := [1, 2, 0]) rfl ?_
          exact loop39 _ 0 τ (by omega) (Sm.refl _ _) (fun k a b => by exfalso; omega) (Nat.lt_succ_self _)
        · have hBO2 : BOK τ := by
            intro g h0 h1
            rw [e6, e7, e8, e9, e10, e11]
            exact hBO g h0 h1
          refine g_aload_n F 0 rfl rfl d_X7_renew_22 ?_
          refine g_Vv F (own := RX7) (c_X7_fillRows l E q sh τ hs  hBO2 hR1 hT1) k_X7_31 (hsC_12 hs) rfl rfl [] d_X7_renew_23 ⟨rfl, rfl, by decide, by decide⟩ ⟨Nat.zero_le _, Nat.zero_le _⟩ rfl (Nat.le_of_ble_eq_true rfl) ?_
          intro τ2 hf
          rw [e6, e7, e10] at hf
          have e14 : τ2 14 = τ 14 := hf.1 14 (by decide)
          refine g_aload_n F 0 rfl rfl d_X7_renew_26 ?_
          refine g_Vi F (own := RX7) (c_X7_takeRoots l E q sh τ2 hs  hf.2.1 (fun j => by rw [e14]; exact hT1 j)) k_X7_34 (hsC_12 hs) rfl rfl [] d_X7_renew_27 ⟨rfl, rfl, by decide, by decide⟩ ⟨Nat.zero_le _, Nat.zero_le _⟩ rfl (Nat.le_of_ble_eq_true rfl) ?_
          intro z τ3 hz
          have e13 : τ3 13 = τ2 13 := hz.1 13 (by decide)
          have hR3 : RW τ3 := fun j => by rw [e13]; exact hf.2.1 j
          have hst := RI_step hBO hI hf.2.2 (τ3 := τ3) hz.2.1
          have hs1 : z = 1 → r + 1 ≤ mu τ3 := by
            intro h
            have h5 := h1 (by omega)
            rcases hz.2.2.2 with q | q
            · exfalso; omega
            · obtain ⟨f, a, b, c⟩ := q.2
              have := mu_step hT1 hz.2.2.1 hst.2 ⟨f, a, b, by rw [hz.2.1 f a b]; rw [e14] at c; exact c⟩
              omega
          have hs0 : z = 0 → (∀ f, 0 ≤ f → f < 4 → ∀ s, 0 ≤ s → s < 8 → Sol (σ 7) (σ 10) (tbl τ3) (fun x => bt (τ3 13 x) s) s (f * 30) (σ 6 f)) ∧ ∀ f, 0 ≤ f → f < 4 → τ3 14 f = τ3 13 (f * 30) := by
            intro h
            rcases hz.2.2.2 with q | q
            · have e5 : ∀ g r, 0 ≤ g → g < 4 → tbl τ g r = tbl τ3 g r := by
                intro g r a b
                unfold tbl
                rw [hz.2.1 g a b, ← q.2 g a b, e14]
              refine ⟨fun f a b s c d => ?_, fun f a b => by rw [e13]; exact hz.2.1 f a b⟩
              rw [e13]
              exact (hf.2.2 f a b s c d).tables e5
            · exfalso; omega
          refine g_istore_n F (lv' := [(1, vI z), (0, .ref (q 12)), (2, vI r)]) rfl (by decide) rfl d_X7_renew_30 ?_
          refine g_iinc F (lv' := [(2, vI (r + 1)), (1, vI z), (0, .ref (q 12))]) 2 rfl rfl (by decide) rfl d_X7_renew_31 ?_
          refine g_goto F d_X7_renew_34 ?_
          refine G_sub (ks := [2, 1, 0]) rfl ?_
          exact ih12 z (r + 1) τ3 (by omega) (hz.2.2.2.elim (fun h => Or.inl h.1) (fun h => Or.inr h.1)) ((hm.trans (hf.1.wide (by decide))).trans (hz.1.wide (by decide))) hR3 hz.2.2.1 hst.1 hs1 hs0 (by omega)
  have hz : ∀ j, 0 ≤ j → j < 4 → τ1 14 j = 0 := fun j a b => hp.1 j a (by omega)
  have hT9 : TR τ1 := by
    intro j
    by_cases hj : 0 ≤ j ∧ j < 4
    · rw [hz j hj.1 hj.2]; decide
    · rw [hp.2.1 j (by omega)]; exact hT j
  have hR9 : RW τ1 := by
    intro j
    rw [hp.2.2 13 (by decide)]
    exact hR j
  have hmu := mu_in τ1
  refine G_sub (ks := [2, 1, 0]) rfl ?_
  exact loop12 _ 1 0 τ1 (by omega) (Or.inr rfl) (hp.2.2.wide (by decide)) hR9 hT9 (RI_0 hz) (fun _ => hmu.1) (fun h => by cases h) (Nat.lt_succ_self _)
end
section
/-! USES: the least counts -/
def held (x : Int) : Int := if 2 < x then 2 else x
def most (a b : Int) : Int := if a < b then b else a
def u3 (n : Int) (x : Int → Int) : Int := (if 0 < n then x 0 else 0) + (if 1 < n then x 1 else 0) + (if 2 < n then x 2 else 0)
theorem u3_0 (x : Int → Int) : u3 0 x = 0 := by simp [u3]
theorem u3_step {n : Int} (hn : 0 ≤ n ∧ n < 3) (x : Int → Int) : u3 n x + x n = u3 (n + 1) x := by
  have h1 : n = 0 ∨ n = 1 ∨ n = 2 := by omega
  rcases h1 with rfl | rfl | rfl <;> simp [u3]
theorem u3_le {n : Int} {x y : Int → Int} (h : ∀ j, 0 ≤ j → j < n → j < 3 → x j ≤ y j) : u3 n x ≤ u3 n y := by
  unfold u3
  have h0 := h 0 (by omega)
  have h1 := h 1 (by omega)
  have h2 := h 2 (by omega)
  by_cases a : 0 < n <;> by_cases b : 1 < n <;> by_cases c : 2 < n <;> simp only [a, b, c, if_true, if_false] <;> first | omega | (have h0 := h0 a (by omega); omega) | (have h0 := h0 a (by omega); have h1 := h1 b (by omega); omega) | (have h0 := h0 a (by omega); have h1 := h1 b (by omega); have h2 := h2 c (by omega); omega)
theorem u3_congr {n : Int} {x y : Int → Int} (h : ∀ j, 0 ≤ j → j < n → j < 3 → x j = y j) : u3 n x = u3 n y :=
  Int.le_antisymm (u3_le fun j a b c => Int.le_of_eq (h j a b c)) (u3_le fun j a b c => Int.le_of_eq (h j a b c).symm)
theorem u3_in {n : Int} {x : Int → Int} {m : Int} (hm : 0 ≤ m) (h : ∀ j, 0 ≤ j → j < n → j < 3 → 0 ≤ x j ∧ x j ≤ m) : 0 ≤ u3 n x ∧ u3 n x ≤ 3 * m := by
  constructor
  · have := u3_le (n := n) (x := fun _ => 0) (y := x) (fun j a b c => (h j a b c).1)
    have e : u3 n (fun _ => 0) = 0 := by unfold u3; split <;> split <;> split <;> rfl
    omega
  · have := u3_le (n := n) (x := x) (y := fun _ => m) (fun j a b c => (h j a b c).2)
    have e : u3 n (fun _ => m) ≤ 3 * m := by unfold u3; dsimp only; split <;> split <;> split <;> omega
    omega
theorem held_le {a b : Int} (h : a ≤ b) : held a ≤ held b := by unfold held; split <;> split <;> omega
theorem held_in {a : Int} (h : 0 ≤ a) : 0 ≤ held a ∧ held a ≤ 2 := by unfold held; split <;> omega
theorem most_le {a b c d : Int} (h : a ≤ c) (h' : b ≤ d) : most a b ≤ most c d := by unfold most; split <;> split <;> omega
theorem mul_le2 {a b c d : Int} (h : a ≤ c) (h' : b ≤ d) (hb : 0 ≤ b) (hc : 0 ≤ c) : a * b ≤ c * d := Int.mul_le_mul h h' hb hc
theorem mul_in2 {a b : Int} (ha : 0 ≤ a ∧ a ≤ 2) (hb : 0 ≤ b ∧ b ≤ 2) : 0 ≤ a * b ∧ a * b ≤ 4 := by
  have h1 := Int.mul_nonneg ha.1 hb.1
  have h2 : a * b ≤ 2 * 2 := mul_le2 ha.2 hb.2 hb.1 (by decide)
  omega
def ul (S Z : Int → Int) (U : Int → Int → Int) (C : Int → Int) (a p : Int) : Int :=
  if kd (S p) = 3 then (if wo (S p) = a then 1 else 0) else if kd (S p) = 4 then held (C (tp Z p 0) + C (tp Z p 1))
  else if kd (S p) = 5 then held (C (tp Z p 0) + most (C (tp Z p 1)) (C (tp Z p 2)))
  else if kd (S p) = 6 then held (u3 (nA (wo (S p))) (fun j => U (wo (S p)) j * C (tp Z p j))) else 0
def SolU (S Z : Int → Int) (U : Int → Int → Int) (C : Int → Int) (a b n : Int) : Prop := ∀ p, b ≤ p → p < b + n → C p = ul S Z U C a p
def in2 (C : Int → Int) : Prop := ∀ p, 0 ≤ C p ∧ C p ≤ 2
def inU (U : Int → Int → Int) : Prop := ∀ g a, 0 ≤ U g a ∧ U g a ≤ 2
def leU (U U' : Int → Int → Int) : Prop := ∀ g a, 0 ≤ g → g < 4 → 0 ≤ a → a < nA g → U g a ≤ U' g a
theorem ul_congr {S Z : Int → Int} {U : Int → Int → Int} {C C' : Int → Int} {a p : Int} (hc : ∀ j, 0 ≤ j → j < tx (S p) → C (tp Z p j) = C' (tp Z p j)) : ul S Z U C a p = ul S Z U C' a p := by
  unfold ul
  by_cases k3 : kd (S p) = 3
  · rw [if_pos k3, if_pos k3]
  rw [if_neg k3, if_neg k3]
  by_cases k4 : kd (S p) = 4
  · have h5 := tx_4 k4
    rw [if_pos k4, if_pos k4, hc 0 (by omega) (by omega), hc 1 (by omega) (by omega)]
  rw [if_neg k4, if_neg k4]
  by_cases k5 : kd (S p) = 5
  · have h5 := tx_5 k5
    rw [if_pos k5, if_pos k5, hc 0 (by omega) (by omega), hc 1 (by omega) (by omega), hc 2 (by omega) (by omega)]
  rw [if_neg k5, if_neg k5]
  by_cases k6 : kd (S p) = 6
  · have h5 := tx_6 k6
    rw [if_pos k6, if_pos k6]
    congr 1
    exact u3_congr (fun j h0 h1 _ => by rw [hc j h0 (by omega)])
  · rw [if_neg k6, if_neg k6]
theorem ul_tables {S Z : Int → Int} {U U' : Int → Int → Int} {C : Int → Int} {a p : Int} (h : ∀ g j, 0 ≤ g → g < 4 → 0 ≤ j → j < nA g → U g j = U' g j) : ul S Z U C a p = ul S Z U' C a p := by
  unfold ul
  by_cases k6 : kd (S p) = 6
  · have h6 := wo_6 k6
    rw [if_neg (by omega), if_neg (by omega), if_neg (by omega), if_pos k6, if_neg (by omega), if_neg (by omega), if_neg (by omega), if_pos k6]
    congr 1
    exact u3_congr (fun j h0 h1 _ => by rw [h _ j h6.1 h6.2 h0 h1])
  · rw [if_neg k6, if_neg k6]
theorem ul_in {S Z : Int → Int} {U : Int → Int → Int} {C : Int → Int} {a p : Int} (hU : inU U) (hC : in2 C) : 0 ≤ ul S Z U C a p ∧ ul S Z U C a p ≤ 2 := by
  have c0 := hC (tp Z p 0)
  have c1 := hC (tp Z p 1)
  have c2 := hC (tp Z p 2)
  unfold ul
  split
  · split <;> omega
  · split
    · exact held_in (by omega)
    · split
      · exact held_in (by unfold most; split <;> omega)
      · split
        · exact held_in (u3_in (m := 4) (by decide) (fun j _ _ _ => mul_in2 (hU _ j) (hC _))).1
        · decide
theorem us_le {S Z D : Int → Int} {b n : Int} {U U' : Int → Int → Int} {C C' : Int → Int} {a : Int} (hW : Wf S Z D b n) (hUU : leU U U') (hU : inU U) (hU' : inU U') (h2 : in2 C) (hC : SolU S Z U C a b n) (hC' : SolU S Z U' C' a b n) :
    ∀ (k : Nat) (p : Int), b ≤ p → p < b + n → b + n - p ≤ k → C p ≤ C' p := by
  intro k
  induction k with
  | zero => intro p h1 h2 h3; exfalso; omega
  | succ k ih =>
    intro p h1 h3 h4
    have hc : ∀ j, 0 ≤ j → j < tx (S p) → C (tp Z p j) ≤ C' (tp Z p j) := by
      intro j hj0 hj1
      have h5 := (hW.2.2.2.2 p h1 h3).2.1 j hj0 hj1
      exact ih _ (by omega) h5.2.1 (by omega)
    rw [hC p h1 h3, hC' p h1 h3]
    unfold ul
    by_cases k3 : kd (S p) = 3
    · rw [if_pos k3, if_pos k3]; exact Int.le_refl _
    rw [if_neg k3, if_neg k3]
    by_cases k4 : kd (S p) = 4
    · have h5 := tx_4 k4
      rw [if_pos k4, if_pos k4]
      have i0 := hc 0 (by omega) (by omega)
      have i1 := hc 1 (by omega) (by omega)
      exact held_le (by omega)
    rw [if_neg k4, if_neg k4]
    by_cases k5 : kd (S p) = 5
    · have h5 := tx_5 k5
      rw [if_pos k5, if_pos k5]
      have i0 := hc 0 (by omega) (by omega)
      have i1 := most_le (hc 1 (by omega) (by omega)) (hc 2 (by omega) (by omega))
      exact held_le (by omega)
    rw [if_neg k5, if_neg k5]
    by_cases k6 : kd (S p) = 6
    · have h5 := tx_6 k6
      have h6 := wo_6 k6
      rw [if_pos k6, if_pos k6]
      exact held_le (u3_le (fun j h0 h1 _ => mul_le2 (hUU _ j h6.1 h6.2 h0 h1) (hc j h0 (by omega)) (h2 _).1 (hU' _ j).1))
    · rw [if_neg k6, if_neg k6]; exact Int.le_refl _
theorem SolU.le {S Z D : Int → Int} {b n : Int} {U U' : Int → Int → Int} {C C' : Int → Int} {a : Int} (hC : SolU S Z U C a b n) (hW : Wf S Z D b n) (hUU : leU U U') (hU : inU U) (hU' : inU U') (h2 : in2 C) (hC' : SolU S Z U' C' a b n) {p : Int} (h1 : b ≤ p) (h3 : p < b + n) : C p ≤ C' p :=
  us_le hW hUU hU hU' h2 hC hC' (b + n - p).toNat p h1 h3 (by omega)
def FixU (N S Z : Int → Int) (U : Int → Int → Int) : Prop := inU U ∧ ∀ f, 0 ≤ f → f < 4 → ∀ a, 0 ≤ a → a < nA f → ∃ C, in2 C ∧ SolU S Z U C a (f * 30) (N f) ∧ U f a = C (f * 30)
def LfpU (N S Z : Int → Int) (U : Int → Int → Int) : Prop := FixU N S Z U ∧ ∀ L, FixU N S Z L → leU U L
end
section
/-! Math.min, Math.max -/
theorem iI_min {a b : Int} (ha : rg a) (hb : rg b) : (if iI b < iI a then iI b else iI a) = iI (if b < a then b else a) := by
  by_cases h : b < a
  · rw [if_pos h, if_pos ((iI_lt hb ha).mpr h)]
  · rw [if_neg h, if_neg (fun z => h ((iI_lt hb ha).mp z))]
theorem iI_max {a b : Int} (ha : rg a) (hb : rg b) : (if iI a < iI b then iI b else iI a) = iI (if a < b then b else a) := by
  by_cases h : a < b
  · rw [if_pos h, if_pos ((iI_lt ha hb).mpr h)]
  · rw [if_neg h, if_neg (fun z => h ((iI_lt ha hb).mp z))]
theorem mmin_w : Cond.static Lib.Math.min.name ∈ lw_g ∧ Cond.initialized "java/lang/Math" ∈ lw_g ∧ Cond.code Lib.Math.min.name Lib.Math.min.code 2 (some .int) ∈ lw_g := ⟨mg 398 (by decide +kernel) rfl, mg 66 (by decide +kernel) rfl, mg 399 (by decide +kernel) rfl⟩
theorem g_mmin {X : Cx} {E : Ev} {l : Launch} {cc : ByteArray} {nL : Nat} {own : String} {rm : Room} {q : Nat → Nat} {sh : List Shp} {σ : Sg} {ck cs : Nat} {Q : State → Prop} {pc pc' : Nat} {lv : List (Nat × Value)} {st : List Value} (F : Fx X E l cc nL own rm) {idx : Nat} {a b : Int} (hl : Cond.methodLink own idx Lib.Math.min.name ∈ lw_g) (hfr : 1 ≤ rm.frames) (hlo : (st.map fun v => v.category).sum + 13 ≤ rm.locals) (hc : ck ≤ rm.cells ∧ cs ≤ rm.slots) (d : At cc pc (.invokestatic idx) 3 pc') (ha : rg a) (hb : rg b) (k : G X E nL q sh σ ck cs Q pc' lv (vI (if b < a then b else a) :: st)) : G X E nL q sh σ ck cs Q pc lv (vI b :: vI a :: st) := by
  intro hA H locs ls hP hS hl2
  obtain ⟨d, rfl⟩ := d
  have hr := F.2.2.2.2.2.2.2.1
  refine va_mmin F.1 F.2.1 (F.2.2.1.trans hl2.1.symm) F.2.2.2.1 (F.2.2.2.2.1 _ hl) (F.2.2.2.2.1 _ mmin_w.1) (F.2.2.2.2.1 _ mmin_w.2.1) (F.2.2.2.2.1 _ mmin_w.2.2) (by rw [hr]; exact hfr) (by rw [hr]; exact hlo) (by rw [hr]; exact hc.1) (by rw [hr]; exact hc.2) d ?_
  rw [iI_min ha hb]
  exact k hA H locs ls hP hS hl2
theorem mmax_w : Cond.static Lib.Math.max.name ∈ lw_g ∧ Cond.initialized "java/lang/Math" ∈ lw_g ∧ Cond.code Lib.Math.max.name Lib.Math.max.code 2 (some .int) ∈ lw_g := ⟨mg 401 (by decide +kernel) rfl, mg 66 (by decide +kernel) rfl, mg 402 (by decide +kernel) rfl⟩
theorem g_mmax {X : Cx} {E : Ev} {l : Launch} {cc : ByteArray} {nL : Nat} {own : String} {rm : Room} {q : Nat → Nat} {sh : List Shp} {σ : Sg} {ck cs : Nat} {Q : State → Prop} {pc pc' : Nat} {lv : List (Nat × Value)} {st : List Value} (F : Fx X E l cc nL own rm) {idx : Nat} {a b : Int} (hl : Cond.methodLink own idx Lib.Math.max.name ∈ lw_g) (hfr : 1 ≤ rm.frames) (hlo : (st.map fun v => v.category).sum + 13 ≤ rm.locals) (hc : ck ≤ rm.cells ∧ cs ≤ rm.slots) (d : At cc pc (.invokestatic idx) 3 pc') (ha : rg a) (hb : rg b) (k : G X E nL q sh σ ck cs Q pc' lv (vI (if a < b then b else a) :: st)) : G X E nL q sh σ ck cs Q pc lv (vI b :: vI a :: st) := by
  intro hA H locs ls hP hS hl2
  obtain ⟨d, rfl⟩ := d
  have hr := F.2.2.2.2.2.2.2.1
  refine va_mmax F.1 F.2.1 (F.2.2.1.trans hl2.1.symm) F.2.2.2.1 (F.2.2.2.2.1 _ hl) (F.2.2.2.2.1 _ mmax_w.1) (F.2.2.2.2.1 _ mmax_w.2.1) (F.2.2.2.2.1 _ mmax_w.2.2) (by rw [hr]; exact hfr) (by rw [hr]; exact hlo) (by rw [hr]; exact hc.1) (by rw [hr]; exact hc.2) d ?_
  rw [iI_max ha hb]
  exact k hA H locs ls hP hS hl2
/-! the USES, walked -/
def CR (σ : Sg) : Prop := in2 (σ 17)
def KR (σ : Sg) : Prop := in2 (σ 18)
def kn (σ : Sg) : Int → Int → Int := fun g j => σ 18 (g * 3 + j)
theorem KR.U {σ : Sg} (h : KR σ) : inU (kn σ) := fun g j => h (g * 3 + j)
theorem held_min (e : Int) : (if e < 2 then e else 2) = held e := by unfold held; split <;> split <;> omega
def sumK (σ : Sg) : Int := σ 18 0 + σ 18 1 + σ 18 2 + σ 18 3 + σ 18 4 + σ 18 5 + σ 18 6 + σ 18 7 + σ 18 8 + σ 18 9 + σ 18 10 + σ 18 11
theorem sumK_in {σ : Sg} (h : KR σ) : 0 ≤ sumK σ ∧ sumK σ ≤ 24 := by
  have h0 := h 0
  have h1 := h 1
  have h2 := h 2
  have h3 := h 3
  have h4 := h 4
  have h5 := h 5
  have h6 := h 6
  have h7 := h 7
  have h8 := h 8
  have h9 := h 9
  have h10 := h 10
  have h11 := h 11
  unfold sumK
  omega
def chgU (σ : Sg) : Prop := ∃ j, 0 ≤ j ∧ j < 12 ∧ σ 19 j ≠ σ 18 j
theorem twelve {j : Int} (h : 0 ≤ j ∧ j < 12) : j = 0 ∨ j = 1 ∨ j = 2 ∨ j = 3 ∨ j = 4 ∨ j = 5 ∨ j = 6 ∨ j = 7 ∨ j = 8 ∨ j = 9 ∨ j = 10 ∨ j = 11 := by omega
theorem sumK_step {σ τ : Sg} (h : ∀ j, 0 ≤ j → j < 12 → σ 18 j ≤ τ 18 j) (hc : ∃ j, 0 ≤ j ∧ j < 12 ∧ τ 18 j ≠ σ 18 j) : sumK σ + 1 ≤ sumK τ := by
  have h0 := h 0 (by decide) (by decide)
  have h1 := h 1 (by decide) (by decide)
  have h2 := h 2 (by decide) (by decide)
  have h3 := h 3 (by decide) (by decide)
  have h4 := h 4 (by decide) (by decide)
  have h5 := h 5 (by decide) (by decide)
  have h6 := h 6 (by decide) (by decide)
  have h7 := h 7 (by decide) (by decide)
  have h8 := h 8 (by decide) (by decide)
  have h9 := h 9 (by decide) (by decide)
  have h10 := h 10 (by decide) (by decide)
  have h11 := h 11 (by decide) (by decide)
  obtain ⟨j, j0, j1, j2⟩ := hc
  unfold sumK
  rcases twelve ⟨j0, j1⟩ with rfl | rfl | rfl | rfl | rfl | rfl | rfl | rfl | rfl | rfl | rfl | rfl <;> omega
/-- a slot's next count comes of the counts as they stand -/
def nextOk (σ τ : Sg) (j v : Int) : Prop := ∃ C, in2 C ∧ SolU (σ 7) (σ 10) (kn τ) C (j % 3) (j / 3 * 30) (σ 6 (j / 3)) ∧ v = C (j / 3 * 30)
def UI (σ τ : Sg) : Prop := (∀ L, FixU (σ 6) (σ 7) (σ 10) L → leU (kn τ) L) ∧ ∀ j, 0 ≤ j → j < 12 → ∀ C, in2 C → SolU (σ 7) (σ 10) (kn τ) C (j % 3) (j / 3 * 30) (σ 6 (j / 3)) → τ 18 j ≤ C (j / 3 * 30)
theorem UI_0 {σ τ : Sg} (h : ∀ j, 0 ≤ j → j < 12 → τ 18 j = 0) : UI σ τ := by
  refine ⟨fun L hL g a h0 h1 h2 h3 => ?_, fun j h0 h1 C hC _ => by rw [h j h0 h1]; exact (hC _).1⟩
  have ha := nA_in g
  show τ 18 (g * 3 + a) ≤ _
  rw [h _ (by omega) (by omega)]
  exact (hL.1 g a).1
theorem UI_step {σ τ τ3 : Sg} (hBO : BOK σ) (hK : KR τ) (hK3 : KR τ3) (h : UI σ τ) (h3 : ∀ j, 0 ≤ j → j < 12 → nextOk σ τ j (τ3 18 j)) : UI σ τ3 ∧ ∀ j, 0 ≤ j → j < 12 → τ 18 j ≤ τ3 18 j := by
  have hB : ∀ f, 0 ≤ f → f < 4 → Wf (σ 7) (σ 10) (σ 11) (f * 30) (σ 6 f) := fun f h0 h1 => (hBO f h0 h1).1
  have hle : ∀ j, 0 ≤ j → j < 12 → τ 18 j ≤ τ3 18 j := by
    intro j h0 h1
    obtain ⟨C, c1, c2, c3⟩ := h3 j h0 h1
    rw [c3]
    exact h.2 j h0 h1 C c1 c2
  have hleU : leU (kn τ) (kn τ3) := by
    intro g a h0 h1 h2 h4
    have ha := nA_in g
    exact hle (g * 3 + a) (by omega) (by omega)
  refine ⟨⟨?_, ?_⟩, hle⟩
  · intro L hL g a h0 h1 h2 h4
    have ha := nA_in g
    obtain ⟨C, c1, c2, c3⟩ := h3 (g * 3 + a) (by omega) (by omega)
    rw [show (g * 3 + a) % 3 = a by omega, show (g * 3 + a) / 3 = g by omega] at c2
    rw [show (g * 3 + a) / 3 = g by omega] at c3
    show τ3 18 (g * 3 + a) ≤ _
    rw [c3]
    obtain ⟨C', d1, d2, d3⟩ := hL.2 g h0 h1 a h2 h4
    rw [d3]
    have hn := (hB g h0 h1).1
    exact c2.le (hB g h0 h1) (h.1 L hL) hK.U hL.1 c1 d2 (by omega) (by omega)
  · intro j h0 h1 C' c1' c2'
    obtain ⟨C, c1, c2, c3⟩ := h3 j h0 h1
    rw [c3]
    have hn := (hB (j / 3) (by omega) (by omega)).1
    exact c2.le (hB (j / 3) (by omega) (by omega)) hleU hK.U hK3.U c1 c2' (by omega) (by omega)
/-- what renew leaves behind -/
def UOK (σ τ : Sg) : Prop := KR τ ∧ LfpU (σ 6) (σ 7) (σ 10) (kn τ)
set_option maxHeartbeats 1000000 in
theorem c_X1_countAt (l : Launch) (E : Ev) (q : Nat → Nat) (sh : List Shp) (σ : Sg) (hs : HsC sh) (p : Int) (hp : 0 ≤ p ∧ p < 120) : CI l E yX1_countAt cX1_countAt 2 .int ({ frames := 1, cells := 0, slots := 0, locals := 20 } : Room) q sh σ [.ref (q 16), vI p] (is (σ 17 p) σ) := by
  refine CI_of (own := RX1) (by decide) rfl (Nat.le_of_ble_eq_true rfl) (fun X Q F hQ => ?_)
  show G X E 2 q sh σ 0 0 Q 0 [(0, .ref (q 16)), (1, vI p)] []
  refine g_iload_n F 1 rfl rfl d_X1_countAt_0 ?_
  refine g_Ni F (own := RX1) (c_X8_isPlace l E q sh σ p ⟨by omega, by omega⟩) k_X1_87 [] d_X1_countAt_1 ⟨rfl, rfl, by decide, by decide⟩ ⟨Nat.zero_le _, Nat.zero_le _⟩ rfl (Nat.le_of_ble_eq_true rfl) ?_
  rintro _ _ ⟨rfl, rfl⟩
  refine g_b_eq F d_X1_countAt_4 (fun h4 => by exfalso; omega) (fun h4 => ?_)
  refine g_aload_n F 0 rfl rfl d_X1_countAt_7 ?_
  refine g_getR F f_X1_11 d_X1_countAt_8 (hsC_16 hs) rfl ?_
  refine g_iload_n F 1 rfl rfl d_X1_countAt_11 ?_
  refine g_iaload F d_X1_countAt_12 (hsC_17 hs) (by omega) (by omega) (by decide) ?_
  refine g_goto F d_X1_countAt_13 ?_
  exact hQ d_X1_countAt_17 (⟨by first | rfl | omega | (simp only [*]; done) | (simp [*]; done) | (split <;> omega), rfl⟩)
set_option maxHeartbeats 1000000 in
theorem c_X1_setCount (l : Launch) (E : Ev) (q : Nat → Nat) (sh : List Shp) (σ : Sg) (hs : HsC sh) (p v : Int) (hp : 0 ≤ p ∧ p < 120) : CV l E yX1_setCount cX1_setCount 3 ({ frames := 1, cells := 0, slots := 0, locals := 20 } : Room) q sh σ [.ref (q 16), vI p, vI v] (isS (up σ 17 p v)) := by
  refine CV_of (own := RX1) (by decide) rfl (Nat.le_of_ble_eq_true rfl) (fun X Q F hQ => ?_)
  show G X E 3 q sh σ 0 0 Q 0 [(0, .ref (q 16)), (1, vI p), (2, vI v)] []
  refine g_iload_n F 1 rfl rfl d_X1_setCount_0 ?_
  refine g_Ni F (own := RX1) (c_X8_isPlace l E q sh σ p ⟨by omega, by omega⟩) k_X1_87 [] d_X1_setCount_1 ⟨rfl, rfl, by decide, by decide⟩ ⟨Nat.zero_le _, Nat.zero_le _⟩ rfl (Nat.le_of_ble_eq_true rfl) ?_
  rintro _ _ ⟨rfl, rfl⟩
  refine g_b_eq F d_X1_setCount_4 (fun h4 => by exfalso; omega) (fun h4 => ?_)
  refine g_aload_n F 0 rfl rfl d_X1_setCount_7 ?_
  refine g_getR F f_X1_11 d_X1_setCount_8 (hsC_16 hs) rfl ?_
  refine g_iload_n F 1 rfl rfl d_X1_setCount_11 ?_
  refine g_iload_n F 2 rfl rfl d_X1_setCount_12 ?_
  refine g_iastore F d_X1_setCount_13 (hsC_17 hs) (by omega) (by omega) (by decide) ?_
  exact hQ d_X1_setCount_14 (rfl)
set_option maxHeartbeats 1000000 in
theorem c_X1_textCount (l : Launch) (E : Ev) (q : Nat → Nat) (sh : List Shp) (σ : Sg) (hs : HsC sh) (p t : Int) (hp : 0 ≤ p ∧ p < 120) (ht : 0 ≤ t ∧ t ≤ 3) (hh : ∀ j : Int, 0 ≤ j → j ≤ t → 0 ≤ tp (σ 10) p j ∧ tp (σ 10) p j < 120) : CI l E yX1_textCount cX1_textCount 3 .int ({ frames := 2, cells := 0, slots := 0, locals := 41 } : Room) q sh σ [.ref (q 16), vI p, vI t] (is (σ 17 (tp (σ 10) p t)) σ) := by
  refine CI_of (own := RX1) (by decide) rfl (Nat.le_of_ble_eq_true rfl) (fun X Q F hQ => ?_)
  show G X E 3 q sh σ 0 0 Q 0 [(0, .ref (q 16)), (1, vI p), (2, vI t)] []
  refine g_aload_n F 0 rfl rfl d_X1_textCount_0 ?_
  refine g_aload_n F 0 rfl rfl d_X1_textCount_1 ?_
  refine g_getR F f_X1_21 d_X1_textCount_2 (hsC_16 hs) rfl ?_
  refine g_iload_n F 1 rfl rfl d_X1_textCount_5 ?_
  refine g_iload_n F 2 rfl rfl d_X1_textCount_6 ?_
  refine g_Vi F (own := RX1) (c_X0_textPlace l E q sh σ hs.B p t hp ht (fun j h0 h1 => hh j h0 (by omega))) k_X1_84 (hsC_5 hs) rfl rfl [.ref (q 16)] d_X1_textCount_7 ⟨rfl, rfl, by decide, by decide⟩ ⟨Nat.zero_le _, Nat.zero_le _⟩ rfl (Nat.le_of_ble_eq_true rfl) ?_
  rintro _ _ ⟨rfl, rfl⟩
  refine g_Vi F (own := RX1) (c_X1_countAt l E q sh σ hs (tp (σ 10) p t) (hh t ht.1 (Int.le_refl _))) k_X1_55 (hsC_16 hs) rfl rfl [] d_X1_textCount_10 ⟨rfl, rfl, by decide, by decide⟩ ⟨Nat.zero_le _, Nat.zero_le _⟩ rfl (Nat.le_of_ble_eq_true rfl) ?_
  rintro _ _ ⟨rfl, rfl⟩
  exact hQ d_X1_textCount_13 (⟨by first | rfl | omega | (simp only [*]; done) | (simp [*]; done) | (split <;> omega), rfl⟩)
set_option maxHeartbeats 1000000 in
theorem c_X1_of (l : Launch) (E : Ev) (q : Nat → Nat) (sh : List Shp) (σ : Sg) (hs : HsC sh) (x y : Int) (hx : 0 ≤ x ∧ x < 4) (hy : 0 ≤ y ∧ y < nA x) : CI l E yX1_of cX1_of 3 .int ({ frames := 2, cells := 0, slots := 0, locals := 41 } : Room) q sh σ [.ref (q 16), vI x, vI y] (is (σ 18 (x * 3 + y)) σ) := by
  have hn := nA_in x
  refine CI_of (own := RX1) (by decide) rfl (Nat.le_of_ble_eq_true rfl) (fun X Q F hQ => ?_)
  show G X E 3 q sh σ 0 0 Q 0 [(0, .ref (q 16)), (1, vI x), (2, vI y)] []
  refine g_iload_n F 1 rfl rfl d_X1_of_0 ?_
  refine g_iload_n F 2 rfl rfl d_X1_of_1 ?_
  refine g_Ni F (own := RX1) (c_X8_hasArgument l E q sh σ x y ⟨by omega, by omega⟩ ⟨by omega, by omega⟩) k_X1_91 [] d_X1_of_2 ⟨rfl, rfl, by decide, by decide⟩ ⟨Nat.zero_le _, Nat.zero_le _⟩ rfl (Nat.le_of_ble_eq_true rfl) ?_
  rintro _ _ ⟨rfl, rfl⟩
  refine g_b_eq F d_X1_of_5 (fun h5 => by exfalso; omega) (fun h5 => ?_)
  refine g_aload_n F 0 rfl rfl d_X1_of_8 ?_
  refine g_getR F f_X1_15 d_X1_of_9 (hsC_16 hs) rfl ?_
  refine g_iload_n F 1 rfl rfl d_X1_of_12 ?_
  refine g_iconst F d_X1_of_13 ?_
  refine g_imul F d_X1_of_14 ?_
  refine g_iload_n F 2 rfl rfl d_X1_of_15 ?_
  refine g_iadd F d_X1_of_16 ?_
  refine g_iaload F d_X1_of_17 (hsC_18 hs) (by omega) (by omega) (by decide) ?_
  refine g_goto F d_X1_of_18 ?_
  exact hQ d_X1_of_22 (⟨by first | rfl | omega | (simp only [*]; done) | (simp [*]; done) | (split <;> omega), rfl⟩)
set_option maxHeartbeats 1000000 in
theorem c_X1_callCount (l : Launch) (E : Ev) (q : Nat → Nat) (sh : List Shp) (σ : Sg) (hs : HsC sh) (p y : Int) (hp : 0 ≤ p ∧ p < 120) (hy : 0 ≤ y ∧ y < 4) (hh : ∀ j : Int, 0 ≤ j → j < nA y → 0 ≤ tp (σ 10) p j ∧ tp (σ 10) p j < 120) (hC : CR σ) (hK : KR σ) : CI l E yX1_callCount cX1_callCount 5 .int ({ frames := 3, cells := 0, slots := 0, locals := 63 } : Room) q sh σ [.ref (q 16), vI p, vI y] (is (held (u3 (nA y) (fun j => kn σ y j * σ 17 (tp (σ 10) p j)))) σ) := by
  have hn := nA_in y
  refine CI_of (own := RX1) (by decide) rfl (Nat.le_of_ble_eq_true rfl) (fun X Q F hQ => ?_)
  show G X E 5 q sh σ 0 0 Q 0 [(0, .ref (q 16)), (1, vI p), (2, vI y)] []
  refine g_iconst F d_X1_callCount_0 ?_
  refine g_istore_n F (lv' := [(3, vI 0), (0, .ref (q 16)), (1, vI p), (2, vI y)]) rfl (by decide) rfl d_X1_callCount_1 ?_
  refine g_iconst F d_X1_callCount_2 ?_
  refine g_istore F (lv' := [(4, vI 0), (3, vI 0), (0, .ref (q 16)), (1, vI p), (2, vI y)]) (by decide) rfl d_X1_callCount_3 ?_
  have loop5 : ∀ (nn : Nat) (w : Int) (t : Int), (0 ≤ t ∧ t ≤ nA y) → (w = u3 t (fun j => kn σ y j * σ 17 (tp (σ 10) p j))) → (nA y - t).toNat < nn → G X E 5 q sh σ 0 0 Q 5 [(0, .ref (q 16)), (1, vI p), (2, vI y), (3, vI w), (4, vI t)] [] := by
    intro n5
    induction n5 with
    | zero => intro w t ht hw hm5; exact absurd hm5 (Nat.not_lt_zero _)
    | succ n5 ih5 =>
      intro w t ht hw hm5
      refine g_iload F 4 rfl d_X1_callCount_5 ?_
      refine g_iload_n F 2 rfl rfl d_X1_callCount_7 ?_
      refine g_Ni F (own := RX1) (c_X8_argumentsOf l E q sh σ y ⟨by omega, by omega⟩) k_X1_78 [vI t] d_X1_callCount_8 ⟨rfl, rfl, by decide, by decide⟩ ⟨Nat.zero_le _, Nat.zero_le _⟩ rfl (Nat.le_of_ble_eq_true rfl) ?_
      rintro _ _ ⟨rfl, rfl⟩
      refine g_icmp_ge F d_X1_callCount_11 ⟨by omega, by omega⟩ ⟨by omega, by omega⟩ (fun h11 => ?_) (fun h11 => ?_)
      · have hwi := u3_in (n := t) (x := fun j => kn σ y j * σ 17 (tp (σ 10) p j)) (m := 4) (by decide) (fun j _ _ _ => mul_in2 (hK.U _ j) (hC _))
        rw [← hw] at hwi
        refine g_iconst F d_X1_callCount_38 ?_
        refine g_iload_n F 3 rfl rfl d_X1_callCount_39 ?_
        refine g_mmin F (own := RX1) (mg 397 (by decide +kernel) rfl) (by decide) (Nat.le_of_ble_eq_true rfl) ⟨Nat.zero_le _, Nat.zero_le _⟩ d_X1_callCount_40 ⟨by decide, by decide⟩ ⟨by omega, by omega⟩ ?_
        exact hQ d_X1_callCount_43 (⟨by rw [held_min, hw, show t = nA y by omega], rfl⟩)
      · refine g_iload_n F 3 rfl rfl d_X1_callCount_14 ?_
        refine g_aload_n F 0 rfl rfl d_X1_callCount_15 ?_
        refine g_iload_n F 2 rfl rfl d_X1_callCount_16 ?_
        refine g_iload F 4 rfl d_X1_callCount_17 ?_
        refine g_Vi F (own := RX1) (c_X1_of l E q sh σ hs y t hy (by omega)) k_X1_81 (hsC_16 hs) rfl rfl [vI w] d_X1_callCount_19 ⟨rfl, rfl, by decide, by decide⟩ ⟨Nat.zero_le _, Nat.zero_le _⟩ rfl (Nat.le_of_ble_eq_true rfl) ?_
        rintro _ _ ⟨rfl, rfl⟩
        refine g_aload_n F 0 rfl rfl d_X1_callCount_22 ?_
        refine g_iload_n F 1 rfl rfl d_X1_callCount_23 ?_
        refine g_iload F 4 rfl d_X1_callCount_24 ?_
        refine g_Vi F (own := RX1) (c_X1_textCount l E q sh σ hs p t hp (by omega) (fun j h0 h1 => hh j h0 (by omega))) k_X1_64 (hsC_16 hs) rfl rfl [vI (σ 18 (y * 3 + t)), vI w] d_X1_callCount_26 ⟨rfl, rfl, by decide, by decide⟩ ⟨Nat.zero_le _, Nat.zero_le _⟩ rfl (Nat.le_of_ble_eq_true rfl) ?_
        rintro _ _ ⟨rfl, rfl⟩
        refine g_imul F d_X1_callCount_29 ?_
        refine g_iadd F d_X1_callCount_30 ?_
        refine g_istore_n F (lv' := [(3, vI (w + ((σ 18 (y * 3 + t)) * (σ 17 (tp (σ 10) p t))))), (0, .ref (q 16)), (1, vI p), (2, vI y), (4, vI t)]) rfl (by decide) rfl d_X1_callCount_31 ?_
        refine g_iinc F (lv' := [(4, vI (t + 1)), (3, vI (w + ((σ 18 (y * 3 + t)) * (σ 17 (tp (σ 10) p t))))), (0, .ref (q 16)), (1, vI p), (2, vI y)]) 4 rfl rfl (by decide) rfl d_X1_callCount_32 ?_
        refine g_goto F d_X1_callCount_35 ?_
        refine G_sub (ks := [2, 3, 4, 1, 0]) rfl ?_
        exact ih5 (w + ((σ 18 (y * 3 + t)) * (σ 17 (tp (σ 10) p t)))) (t + 1) (by omega) (by rw [hw]; exact u3_step (by omega) (fun j => kn σ y j * σ 17 (tp (σ 10) p j))) (by omega)
  refine G_sub (ks := [2, 3, 4, 1, 0]) rfl ?_
  exact loop5 _ 0 0 (by omega) (u3_0 _).symm (Nat.lt_succ_self _)
set_option maxHeartbeats 1000000 in
theorem c_X1_countOf (l : Launch) (E : Ev) (q : Nat → Nat) (sh : List Shp) (σ : Sg) (hs : HsC sh) (p a f : Int) (hf : 0 ≤ f ∧ f < 4) (hp : f * 30 ≤ p ∧ p < f * 30 + σ 6 f) (ha : 0 ≤ a ∧ a < 3) (hBO : BOK σ) (hC : CR σ) (hK : KR σ) : CI l E yX1_countOf cX1_countOf 4 .int ({ frames := 4, cells := 0, slots := 0, locals := 87 } : Room) q sh σ [.ref (q 16), vI p, vI a] (is (ul (σ 7) (σ 10) (kn σ) (σ 17) a p) σ) := by
  have hB := (hBO f hf.1 hf.2).1
  have hn1 := hB.1
  have hn2 := hB.2.1
  have hKK := (hBO f hf.1 hf.2).2 p hp.1 hp.2
  have hc := (hB.2.2.2.2 p hp.1 hp.2).2.1
  have hkd := kd_in (σ 7 p)
  have c0 := hC (tp (σ 10) p 0)
  have c1 := hC (tp (σ 10) p 1)
  have c2 := hC (tp (σ 10) p 2)
  refine CI_of (own := RX1) (by decide) rfl (Nat.le_of_ble_eq_true rfl) (fun X Q F hQ => ?_)
  show G X E 4 q sh σ 0 0 Q 0 [(0, .ref (q 16)), (1, vI p), (2, vI a)] []
  refine g_aload_n F 0 rfl rfl d_X1_countOf_0 ?_
  refine g_getR F f_X1_21 d_X1_countOf_1 (hsC_16 hs) rfl ?_
  refine g_iload_n F 1 rfl rfl d_X1_countOf_4 ?_
  refine g_Vi F (own := RX1) (c_X0_kindAt l E q sh σ hs.B p (by omega)) k_X1_58 (hsC_5 hs) rfl rfl [] d_X1_countOf_5 ⟨rfl, rfl, by decide, by decide⟩ ⟨Nat.zero_le _, Nat.zero_le _⟩ rfl (Nat.le_of_ble_eq_true rfl) ?_
  rintro _ _ ⟨rfl, rfl⟩
  refine G_top (b := kd (σ 7 p)) (hKK.1) ?_
  have hcs : kd (σ 7 p) = 3 ∨ kd (σ 7 p) = 4 ∨ kd (σ 7 p) = 5 ∨ kd (σ 7 p) = 6 ∨ (kd (σ 7 p) < 3 ∨ 6 < kd (σ 7 p)) := by omega
  rcases hcs with hk | hk | hk | hk | hk
  · have h3 := kd_3.mp hk
    have h4 := wo_3 hk
    refine g_tabIn F d_X1_countOf_8 ⟨by omega, by omega⟩ 0 (tgt := 40) (by omega) (by decide) rfl rfl ?_
    refine g_aload_n F 0 rfl rfl d_X1_countOf_40 ?_
    refine g_getR F f_X1_21 d_X1_countOf_41 (hsC_16 hs) rfl ?_
    refine g_iload_n F 1 rfl rfl d_X1_countOf_44 ?_
    refine g_Vi F (own := RX1) (c_X0_worthAt l E q sh σ hs.B p (by omega)) k_X1_61 (hsC_5 hs) rfl rfl [] d_X1_countOf_45 ⟨rfl, rfl, by decide, by decide⟩ ⟨Nat.zero_le _, Nat.zero_le _⟩ rfl (Nat.le_of_ble_eq_true rfl) ?_
    rintro _ _ ⟨rfl, rfl⟩
    refine G_top (b := wo (σ 7 p)) (hKK.2.1) ?_
    refine g_iload_n F 2 rfl rfl d_X1_countOf_48 ?_
    refine g_icmp_ne F d_X1_countOf_49 ⟨by omega, by omega⟩ ⟨by omega, by omega⟩ (fun h49 => ?_) (fun h49 => ?_)
    · refine g_iconst F d_X1_countOf_56 ?_
      exact hQ d_X1_countOf_57 (⟨by simp [ul, hk]; omega, rfl⟩)
    · refine g_iconst F d_X1_countOf_52 ?_
      refine g_goto F d_X1_countOf_53 ?_
      exact hQ d_X1_countOf_57 (⟨by simp [ul, hk]; omega, rfl⟩)
  · have ht9 := tx_4 hk
    refine g_tabIn F d_X1_countOf_8 ⟨by omega, by omega⟩ 1 (tgt := 58) (by omega) (by decide) rfl rfl ?_
    refine g_iconst F d_X1_countOf_58 ?_
    refine g_aload_n F 0 rfl rfl d_X1_countOf_59 ?_
    refine g_iload_n F 1 rfl rfl d_X1_countOf_60 ?_
    refine g_iconst F d_X1_countOf_61 ?_
    refine g_Vi F (own := RX1) (c_X1_textCount l E q sh σ hs p 0 (by omega) (by omega) (fun j h0 h1 => by have h9 := hc j h0 (by omega); omega)) k_X1_64 (hsC_16 hs) rfl rfl [vI 2] d_X1_countOf_62 ⟨rfl, rfl, by decide, by decide⟩ ⟨Nat.zero_le _, Nat.zero_le _⟩ rfl (Nat.le_of_ble_eq_true rfl) ?_
    rintro _ _ ⟨rfl, rfl⟩
    refine g_aload_n F 0 rfl rfl d_X1_countOf_65 ?_
    refine g_iload_n F 1 rfl rfl d_X1_countOf_66 ?_
    refine g_iconst F d_X1_countOf_67 ?_
    refine g_Vi F (own := RX1) (c_X1_textCount l E q sh σ hs p 1 (by omega) (by omega) (fun j h0 h1 => by have h9 := hc j h0 (by omega); omega)) k_X1_64 (hsC_16 hs) rfl rfl [vI (σ 17 (tp (σ 10) p 0)), vI 2] d_X1_countOf_68 ⟨rfl, rfl, by decide, by decide⟩ ⟨Nat.zero_le _, Nat.zero_le _⟩ rfl (Nat.le_of_ble_eq_true rfl) ?_
    rintro _ _ ⟨rfl, rfl⟩
    refine g_iadd F d_X1_countOf_71 ?_
    refine g_mmin F (own := RX1) (mg 397 (by decide +kernel) rfl) (by decide) (Nat.le_of_ble_eq_true rfl) ⟨Nat.zero_le _, Nat.zero_le _⟩ d_X1_countOf_72 ⟨by decide, by decide⟩ ⟨by omega, by omega⟩ ?_
    exact hQ d_X1_countOf_75 (⟨by rw [held_min]; simp [ul, hk], rfl⟩)
  · have ht9 := tx_5 hk
    refine g_tabIn F d_X1_countOf_8 ⟨by omega, by omega⟩ 2 (tgt := 76) (by omega) (by decide) rfl rfl ?_
    refine g_aload_n F 0 rfl rfl d_X1_countOf_76 ?_
    refine g_iload_n F 1 rfl rfl d_X1_countOf_77 ?_
    refine g_iconst F d_X1_countOf_78 ?_
    refine g_Vi F (own := RX1) (c_X1_textCount l E q sh σ hs p 1 (by omega) (by omega) (fun j h0 h1 => by have h9 := hc j h0 (by omega); omega)) k_X1_64 (hsC_16 hs) rfl rfl [] d_X1_countOf_79 ⟨rfl, rfl, by decide, by decide⟩ ⟨Nat.zero_le _, Nat.zero_le _⟩ rfl (Nat.le_of_ble_eq_true rfl) ?_
    rintro _ _ ⟨rfl, rfl⟩
    refine g_aload_n F 0 rfl rfl d_X1_countOf_82 ?_
    refine g_iload_n F 1 rfl rfl d_X1_countOf_83 ?_
    refine g_iconst F d_X1_countOf_84 ?_
    refine g_Vi F (own := RX1) (c_X1_textCount l E q sh σ hs p 2 (by omega) (by omega) (fun j h0 h1 => by have h9 := hc j h0 (by omega); omega)) k_X1_64 (hsC_16 hs) rfl rfl [vI (σ 17 (tp (σ 10) p 1))] d_X1_countOf_85 ⟨rfl, rfl, by decide, by decide⟩ ⟨Nat.zero_le _, Nat.zero_le _⟩ rfl (Nat.le_of_ble_eq_true rfl) ?_
    rintro _ _ ⟨rfl, rfl⟩
    refine g_mmax F (own := RX1) (mg 400 (by decide +kernel) rfl) (by decide) (Nat.le_of_ble_eq_true rfl) ⟨Nat.zero_le _, Nat.zero_le _⟩ d_X1_countOf_88 ⟨by omega, by omega⟩ ⟨by omega, by omega⟩ ?_
    refine g_istore_n F (lv' := [(3, vI (if (σ 17 (tp (σ 10) p 1)) < (σ 17 (tp (σ 10) p 2)) then (σ 17 (tp (σ 10) p 2)) else (σ 17 (tp (σ 10) p 1)))), (0, .ref (q 16)), (1, vI p), (2, vI a)]) rfl (by decide) rfl d_X1_countOf_91 ?_
    refine g_iconst F d_X1_countOf_92 ?_
    refine g_aload_n F 1 rfl rfl d_X1_countOf_93 ?_
    refine g_iload_n F 2 rfl rfl d_X1_countOf_94 ?_
    refine g_iconst F d_X1_countOf_95 ?_
    refine g_Vi F (own := RX1) (c_X1_textCount l E q sh σ hs p 0 (by omega) (by omega) (fun j h0 h1 => by have h9 := hc j h0 (by omega); omega)) k_X1_64 (hsC_16 hs) rfl rfl [vI 2] d_X1_countOf_96 ⟨rfl, rfl, by decide, by decide⟩ ⟨Nat.zero_le _, Nat.zero_le _⟩ rfl (Nat.le_of_ble_eq_true rfl) ?_
    rintro _ _ ⟨rfl, rfl⟩
    refine g_iload_n F 0 rfl rfl d_X1_countOf_99 ?_
    refine g_iadd F d_X1_countOf_100 ?_
    refine g_mmin F (own := RX1) (mg 397 (by decide +kernel) rfl) (by decide) (Nat.le_of_ble_eq_true rfl) ⟨Nat.zero_le _, Nat.zero_le _⟩ d_X1_countOf_101 ⟨by decide, by decide⟩ ⟨by omega, by omega⟩ ?_
    exact hQ d_X1_countOf_104 (⟨by rw [held_min]; simp [ul, hk, most], rfl⟩)
  · have ht9 := tx_6 hk
    have hw6 := wo_6 hk
    refine g_tabIn F d_X1_countOf_8 ⟨by omega, by omega⟩ 3 (tgt := 105) (by omega) (by decide) rfl rfl ?_
    refine g_aload_n F 0 rfl rfl d_X1_countOf_105 ?_
    refine g_iload_n F 1 rfl rfl d_X1_countOf_106 ?_
    refine g_aload_n F 0 rfl rfl d_X1_countOf_107 ?_
    refine g_getR F f_X1_21 d_X1_countOf_108 (hsC_16 hs) rfl ?_
    refine g_iload_n F 1 rfl rfl d_X1_countOf_111 ?_
    refine g_Vi F (own := RX1) (c_X0_worthAt l E q sh σ hs.B p (by omega)) k_X1_61 (hsC_5 hs) rfl rfl [vI p, .ref (q 16)] d_X1_countOf_112 ⟨rfl, rfl, by decide, by decide⟩ ⟨Nat.zero_le _, Nat.zero_le _⟩ rfl (Nat.le_of_ble_eq_true rfl) ?_
    rintro _ _ ⟨rfl, rfl⟩
    refine G_top (b := wo (σ 7 p)) (hKK.2.1) ?_
    refine g_Vi F (own := RX1) (c_X1_callCount l E q sh σ hs p (wo (σ 7 p)) (by omega) hw6 (fun j h0 h1 => by have h9 := hc j h0 (by omega); omega) hC hK) k_X1_75 (hsC_16 hs) rfl rfl [] d_X1_countOf_115 ⟨rfl, rfl, by decide, by decide⟩ ⟨Nat.zero_le _, Nat.zero_le _⟩ rfl (Nat.le_of_ble_eq_true rfl) ?_
    rintro _ _ ⟨rfl, rfl⟩
    exact hQ d_X1_countOf_118 (⟨by simp [ul, hk], rfl⟩)
  · refine g_tabOut F d_X1_countOf_8 ⟨by omega, by omega⟩ (tgt := 119) (by omega) rfl ?_
    refine g_iconst F d_X1_countOf_119 ?_
    exact hQ d_X1_countOf_120 (⟨by unfold ul; rw [if_neg (by omega), if_neg (by omega), if_neg (by omega), if_neg (by omega)], rfl⟩)
set_option maxHeartbeats 1000000 in
theorem c_X1_countIn (l : Launch) (E : Ev) (q : Nat → Nat) (sh : List Shp) (σ : Sg) (hs : HsC sh) (x a : Int) (hx : 0 ≤ x ∧ x < 4) (ha : 0 ≤ a ∧ a < 3) (hBO : BOK σ) (hC : CR σ) (hK : KR σ) : CI l E yX1_countIn cX1_countIn 5 .int ({ frames := 5, cells := 0, slots := 0, locals := 110 } : Room) q sh σ [.ref (q 16), vI x, vI a] (fun z τ => Sm [17] σ τ ∧ CR τ ∧ SolU (σ 7) (σ 10) (kn σ) (τ 17) a (x * 30) (σ 6 x) ∧ z = τ 17 (x * 30)) := by
  have hB := (hBO x hx.1 hx.2).1
  have hn1 := hB.1
  have hn2 := hB.2.1
  refine CI_of (own := RX1) (by decide) rfl (Nat.le_of_ble_eq_true rfl) (fun X Q F hQ => ?_)
  show G X E 5 q sh σ 0 0 Q 0 [(0, .ref (q 16)), (1, vI x), (2, vI a)] []
  refine g_aload_n F 0 rfl rfl d_X1_countIn_0 ?_
  refine g_getR F f_X1_21 d_X1_countIn_1 (hsC_16 hs) rfl ?_
  refine g_iload_n F 1 rfl rfl d_X1_countIn_4 ?_
  refine g_Vi F (own := RX1) (c_X0_root l E q sh σ hs.B x hx) k_X1_39 (hsC_5 hs) rfl rfl [] d_X1_countIn_5 ⟨rfl, rfl, by decide, by decide⟩ ⟨Nat.zero_le _, Nat.zero_le _⟩ rfl (Nat.le_of_ble_eq_true rfl) ?_
  rintro _ _ ⟨rfl, rfl⟩
  refine g_istore_n F (lv' := [(3, vI (x * 30)), (0, .ref (q 16)), (1, vI x), (2, vI a)]) rfl (by decide) rfl d_X1_countIn_8 ?_
  refine g_iload_n F 0 rfl rfl d_X1_countIn_9 ?_
  refine g_aload_n F 1 rfl rfl d_X1_countIn_10 ?_
  refine g_getR F f_X1_21 d_X1_countIn_11 (hsC_16 hs) rfl ?_
  refine g_iload_n F 2 rfl rfl d_X1_countIn_14 ?_
  refine g_Vi F (own := RX1) (c_X0_count l E q sh σ hs.B x hx) k_X1_45 (hsC_5 hs) rfl rfl [vI (x * 30)] d_X1_countIn_15 ⟨rfl, rfl, by decide, by decide⟩ ⟨Nat.zero_le _, Nat.zero_le _⟩ rfl (Nat.le_of_ble_eq_true rfl) ?_
  rintro _ _ ⟨rfl, rfl⟩
  refine g_iadd F d_X1_countIn_18 ?_
  refine g_iconst F d_X1_countIn_19 ?_
  refine g_isub F d_X1_countIn_20 ?_
  refine g_istore F (lv' := [(4, vI (((x * 30) + (σ 6 x)) - 1)), (3, vI (x * 30)), (0, .ref (q 16)), (1, vI x), (2, vI a)]) (by decide) rfl d_X1_countIn_21 ?_
  have loop23 : ∀ (nn : Nat) (i : Int) (τ : Sg), (x * 30 - 1 ≤ i ∧ i ≤ x * 30 + σ 6 x - 1) → (Sm [17] σ τ) → (CR τ) → (∀ p, i < p → p < x * 30 + σ 6 x → τ 17 p = ul (σ 7) (σ 10) (kn σ) (τ 17) a p) → (i - x * 30 + 1).toNat < nn → G X E 5 q sh τ 0 0 Q 23 [(0, .ref (q 16)), (1, vI x), (2, vI a), (3, vI (x * 30)), (4, vI i)] [] := by
    intro n23
    induction n23 with
    | zero => intro i τ hi hm hC1 hin hm23; exact absurd hm23 (Nat.not_lt_zero _)
    | succ n23 ih23 =>
      intro i τ hi hm hC1 hin hm23
      have g6 : τ 6 = σ 6 := hm 6 (by decide)
      have g7 : τ 7 = σ 7 := hm 7 (by decide)
      have g8 : τ 8 = σ 8 := hm 8 (by decide)
      have g9 : τ 9 = σ 9 := hm 9 (by decide)
      have g10 : τ 10 = σ 10 := hm 10 (by decide)
      have g11 : τ 11 = σ 11 := hm 11 (by decide)
      have g18 : τ 18 = σ 18 := hm 18 (by decide)
      have gk : kn τ = kn σ := by unfold kn; rw [g18]
      refine g_iload F 4 rfl d_X1_countIn_23 ?_
      refine g_iload_n F 3 rfl rfl d_X1_countIn_25 ?_
      refine g_icmp_lt F d_X1_countIn_26 ⟨by omega, by omega⟩ ⟨by omega, by omega⟩ (fun h26 => ?_) (fun h26 => ?_)
      · refine g_aload_n F 0 rfl rfl d_X1_countIn_48 ?_
        refine g_iload_n F 3 rfl rfl d_X1_countIn_49 ?_
        refine g_Vi F (own := RX1) (c_X1_countAt l E q sh τ hs (x * 30) (by omega)) k_X1_55 (hsC_16 hs) rfl rfl [] d_X1_countIn_50 ⟨rfl, rfl, by decide, by decide⟩ ⟨Nat.zero_le _, Nat.zero_le _⟩ rfl (Nat.le_of_ble_eq_true rfl) ?_
        rintro _ _ ⟨rfl, rfl⟩
        exact hQ d_X1_countIn_53 (⟨hm, hC1, fun p h1 h2 => hin p (by omega) h2, rfl⟩)
      · have hBO2 : BOK τ := by
          intro g h0 h1
          rw [g6, g7, g8, g9, g10, g11]
          exact hBO g h0 h1
        refine g_aload_n F 0 rfl rfl d_X1_countIn_29 ?_
        refine g_iload F 4 rfl d_X1_countIn_30 ?_
        refine g_aload_n F 0 rfl rfl d_X1_countIn_32 ?_
        refine g_iload F 4 rfl d_X1_countIn_33 ?_
        refine g_iload_n F 2 rfl rfl d_X1_countIn_35 ?_
        refine g_Vi F (own := RX1) (c_X1_countOf l E q sh τ hs i a x hx ⟨by omega, by rw [g6]; omega⟩ ha hBO2 hC1 (fun j => by rw [g18]; exact hK j)) k_X1_48 (hsC_16 hs) rfl rfl [vI i, .ref (q 16)] d_X1_countIn_36 ⟨rfl, rfl, by decide, by decide⟩ ⟨Nat.zero_le _, Nat.zero_le _⟩ rfl (Nat.le_of_ble_eq_true rfl) ?_
        rintro _ _ ⟨rfl, rfl⟩
        refine G_top (b := ul (σ 7) (σ 10) (kn σ) (τ 17) a i) (by rw [g7, g10, gk]) ?_
        refine g_Vv F (own := RX1) (c_X1_setCount l E q sh τ hs i (ul (σ 7) (σ 10) (kn σ) (τ 17) a i) (by omega)) k_X1_51 (hsC_16 hs) rfl rfl [] d_X1_countIn_39 ⟨rfl, rfl, by decide, by decide⟩ ⟨Nat.zero_le _, Nat.zero_le _⟩ rfl (Nat.le_of_ble_eq_true rfl) ?_
        rintro _ rfl
        refine g_iinc F (lv' := [(4, vI (i + (-1))), (0, .ref (q 16)), (1, vI x), (2, vI a), (3, vI (x * 30))]) 4 rfl rfl (by decide) rfl d_X1_countIn_42 ?_
        refine g_goto F d_X1_countIn_45 ?_
        have hv := ul_in (S := σ 7) (Z := σ 10) (a := a) (p := i) hK.U hC1
        have q1 : CR (up τ 17 i (ul (σ 7) (σ 10) (kn σ) (τ 17) a i)) := by
          intro p
          rw [up_at]
          split
          · exact hv
          · exact hC1 p
        have q2 : ∀ p, i + (-1) < p → p < x * 30 + σ 6 x → (up τ 17 i (ul (σ 7) (σ 10) (kn σ) (τ 17) a i)) 17 p = ul (σ 7) (σ 10) (kn σ) ((up τ 17 i (ul (σ 7) (σ 10) (kn σ) (τ 17) a i)) 17) a p := by
          intro p h4 h5
          have key : ul (σ 7) (σ 10) (kn σ) (τ 17) a p = ul (σ 7) (σ 10) (kn σ) ((up τ 17 i (ul (σ 7) (σ 10) (kn σ) (τ 17) a i)) 17) a p := by
            apply ul_congr
            intro j hj0 hj1
            have h7 := (hB.2.2.2.2 p (by omega) h5).2.1 j hj0 hj1
            rw [up_other _ _ (show tp (σ 10) p j ≠ i by omega)]
          rw [← key]
          by_cases hp : p = i
          · subst hp
            rw [up_same]
          · rw [up_other _ _ hp]
            exact hin p (by omega) h5
        refine G_sub (ks := [1, 2, 3, 4, 0]) rfl ?_
        exact ih23 (i + (-1)) (up τ 17 i (ul (σ 7) (σ 10) (kn σ) (τ 17) a i)) (by omega) (hm.up (by decide) _ _) q1 q2 (by omega)
  refine G_sub (ks := [2, 3, 4, 1, 0]) rfl ?_
  exact loop23 _ (((x * 30) + (σ 6 x)) - 1) σ (by omega) (Sm.refl _ _) hC (fun p h1 h2 => by exfalso; omega) (Nat.lt_succ_self _)
end
section
def NR (σ : Sg) : Prop := in2 (σ 19)
theorem UOK_of {σ τ : Sg} (hI : UI σ τ) (hK : KR τ) (h : ∀ j, 0 ≤ j → j < 12 → nextOk σ τ j (τ 18 j)) : UOK σ τ := by
  refine ⟨hK, ⟨hK.U, fun f h0 h1 a h2 h3 => ?_⟩, hI.1⟩
  have ha := nA_in f
  obtain ⟨C, c1, c2, c3⟩ := h (f * 3 + a) (by omega) (by omega)
  rw [show (f * 3 + a) % 3 = a by omega, show (f * 3 + a) / 3 = f by omega] at c2
  rw [show (f * 3 + a) / 3 = f by omega] at c3
  exact ⟨C, c1, c2, c3⟩
theorem nextOk.move {σ τ τ' : Sg} {j v : Int} (h : nextOk σ τ j v) (e : ∀ i, 0 ≤ i → i < 12 → τ' 18 i = τ 18 i) : nextOk σ τ' j v := by
  obtain ⟨C, c1, c2, c3⟩ := h
  refine ⟨C, c1, fun p h1 h2 => ?_, c3⟩
  rw [c2 p h1 h2]
  apply ul_tables
  intro g a h0 h3 h4 h5
  have ha := nA_in g
  exact (e (g * 3 + a) (by omega) (by omega)).symm
set_option maxHeartbeats 1000000 in
theorem c_X1_takeNext (l : Launch) (E : Ev) (q : Nat → Nat) (sh : List Shp) (σ : Sg) (hs : HsC sh) (hN : NR σ) (hK : KR σ) : CI l E yX1_takeNext cX1_takeNext 3 .boolean ({ frames := 0, cells := 0, slots := 0, locals := 0 } : Room) q sh σ [.ref (q 16)] (fun z τ => Sm [18] σ τ ∧ (∀ j, 0 ≤ j → j < 12 → τ 18 j = σ 19 j) ∧ KR τ ∧ ((z = 0 ∧ ∀ j, 0 ≤ j → j < 12 → σ 19 j = σ 18 j) ∨ (z = 1 ∧ chgU σ))) := by
  refine CB_of (own := RX1) (by decide) rfl (Nat.le_of_ble_eq_true rfl) (fun X Q F hQ => ?_)
  show G X E 3 q sh σ 0 0 Q 0 [(0, .ref (q 16))] []
  refine g_iconst F d_X1_takeNext_0 ?_
  refine g_istore_n F (lv' := [(1, vI 0), (0, .ref (q 16))]) rfl (by decide) rfl d_X1_takeNext_1 ?_
  refine g_iconst F d_X1_takeNext_2 ?_
  refine g_istore_n F (lv' := [(2, vI 0), (1, vI 0), (0, .ref (q 16))]) rfl (by decide) rfl d_X1_takeNext_3 ?_
  have loop4 : ∀ (nn : Nat) (c : Int) (f : Int) (τ : Sg), (0 ≤ f ∧ f ≤ 12) → (Sm [18] σ τ) → (∀ g, 0 ≤ g → g < f → τ 18 g = σ 19 g) → (∀ g, f ≤ g → τ 18 g = σ 18 g) → (KR τ) → ((c = 0 ∧ ∀ g, 0 ≤ g → g < f → σ 19 g = σ 18 g) ∨ (c = 1 ∧ chgU σ)) → (12 - f).toNat < nn → G X E 3 q sh τ 0 0 Q 4 [(0, .ref (q 16)), (1, vI c), (2, vI f)] [] := by
    intro n4
    induction n4 with
    | zero => intro c f τ hf hm h1 h2 hT1 hc hm4; exact absurd hm4 (Nat.not_lt_zero _)
    | succ n4 ih4 =>
      intro c f τ hf hm h1 h2 hT1 hc hm4
      have e19 : τ 19 = σ 19 := hm 19 (by decide)
      have hc01 : c = 0 ∨ c = 1 := hc.elim (fun h => Or.inl h.1) (fun h => Or.inr h.1)
      refine g_iload_n F 2 rfl rfl d_X1_takeNext_4 ?_
      refine g_bipush F (by decide) d_X1_takeNext_5 ?_
      refine g_icmp_ge F d_X1_takeNext_7 ⟨by omega, by omega⟩ ⟨by decide, by decide⟩ (fun h7 => ?_) (fun h7 => ?_)
      · refine g_iload_n F 1 rfl rfl d_X1_takeNext_53 ?_
        exact hQ d_X1_takeNext_54 hc01 (⟨hm, fun g a b => h1 g a (by omega), hT1, hc.elim (fun h => Or.inl ⟨h.1, fun g a b => h.2 g a (by omega)⟩) Or.inr⟩)
      · refine g_iload_n F 1 rfl rfl d_X1_takeNext_10 ?_
        refine g_if_ne F d_X1_takeNext_11 ⟨by omega, by omega⟩ (fun h11 => ?_) (fun h11 => ?_)
        · refine g_iconst F d_X1_takeNext_29 ?_
          refine g_goto F d_X1_takeNext_30 ?_
          refine g_istore_n F (lv' := [(1, vI 1), (0, .ref (q 16)), (2, vI f)]) rfl (by decide) rfl d_X1_takeNext_34 ?_
          refine g_aload_n F 1 rfl rfl d_X1_takeNext_35 ?_
          refine g_getR F f_X1_15 d_X1_takeNext_36 (hsC_16 hs) rfl ?_
          refine g_iload_n F 2 rfl rfl d_X1_takeNext_39 ?_
          refine g_aload_n F 1 rfl rfl d_X1_takeNext_40 ?_
          refine g_getR F f_X1_18 d_X1_takeNext_41 (hsC_16 hs) rfl ?_
          refine g_iload_n F 2 rfl rfl d_X1_takeNext_44 ?_
          refine g_iaload F d_X1_takeNext_45 (hsC_19 hs) (by omega) (by omega) (by decide) ?_
          refine G_top (b := σ 19 f) (by rw [e19]) ?_
          refine g_iastore F d_X1_takeNext_46 (hsC_18 hs) (by omega) (by omega) (by decide) ?_
          refine g_iinc F (lv' := [(2, vI (f + 1)), (1, vI 1), (0, .ref (q 16))]) 2 rfl rfl (by decide) rfl d_X1_takeNext_47 ?_
          refine g_goto F d_X1_takeNext_50 ?_
          have hc2 : ((1 : Int) = 0 ∧ ∀ g, 0 ≤ g → g < f + 1 → σ 19 g = σ 18 g) ∨ ((1 : Int) = 1 ∧ chgU σ) := by
            rcases hc with ⟨q1, q2⟩ | ⟨q1, q2⟩
            · first
                | (left; refine ⟨rfl, fun g a b => ?_⟩; by_cases hg : g = f; (rw [hg]; exact h26); exact q2 g a (by omega))
                | (right; exact ⟨rfl, f, hf.1, by omega, h26⟩)
                | (exfalso; omega)
            · first
                | (right; exact ⟨rfl, q2⟩)
                | (exfalso; omega)
          refine G_sub (ks := [2, 1, 0]) rfl ?_
          exact ih4 1 (f + 1) (up τ 18 f (σ 19 f)) (by omega) (hm.up (by decide) _ _) (fun g a b => by rw [up_at]; split; (rename_i e; rw [e]); exact h1 g a (by omega)) (fun g a => by rw [up_other _ _ (by omega)]; exact h2 g (by omega)) (fun g => by rw [up_at]; split; exact hN _; exact hT1 g) hc2 (by omega)
        · refine g_aload_n F 0 rfl rfl d_X1_takeNext_14 ?_
          refine g_getR F f_X1_18 d_X1_takeNext_15 (hsC_16 hs) rfl ?_
          refine g_iload_n F 2 rfl rfl d_X1_takeNext_18 ?_
          refine g_iaload F d_X1_takeNext_19 (hsC_19 hs) (by omega) (by omega) (by decide) ?_
          refine G_top (b := σ 19 f) (by rw [e19]) ?_
          refine g_aload_n F 0 rfl rfl d_X1_takeNext_20 ?_
          refine g_getR F f_X1_15 d_X1_takeNext_21 (hsC_16 hs) rfl ?_
          refine g_iload_n F 2 rfl rfl d_X1_takeNext_24 ?_
          refine g_iaload F d_X1_takeNext_25 (hsC_18 hs) (by omega) (by omega) (by decide) ?_
          refine G_top (b := σ 18 f) (h2 f (Int.le_refl _)) ?_
          refine g_icmp_eq F d_X1_takeNext_26 ⟨by have := hN f; omega, by have := hN f; omega⟩ ⟨by have := hK f; omega, by have := hK f; omega⟩ (fun h26 => ?_) (fun h26 => ?_)
          · refine g_iconst F d_X1_takeNext_33 ?_
            refine g_istore_n F (lv' := [(1, vI 0), (0, .ref (q 16)), (2, vI f)]) rfl (by decide) rfl d_X1_takeNext_34 ?_
            refine g_aload_n F 1 rfl rfl d_X1_takeNext_35 ?_
            refine g_getR F f_X1_15 d_X1_takeNext_36 (hsC_16 hs) rfl ?_
            refine g_iload_n F 2 rfl rfl d_X1_takeNext_39 ?_
            refine g_aload_n F 1 rfl rfl d_X1_takeNext_40 ?_
            refine g_getR F f_X1_18 d_X1_takeNext_41 (hsC_16 hs) rfl ?_
            refine g_iload_n F 2 rfl rfl d_X1_takeNext_44 ?_
            refine g_iaload F d_X1_takeNext_45 (hsC_19 hs) (by omega) (by omega) (by decide) ?_
            refine G_top (b := σ 19 f) (by rw [e19]) ?_
            refine g_iastore F d_X1_takeNext_46 (hsC_18 hs) (by omega) (by omega) (by decide) ?_
            refine g_iinc F (lv' := [(2, vI (f + 1)), (1, vI 0), (0, .ref (q 16))]) 2 rfl rfl (by decide) rfl d_X1_takeNext_47 ?_
            refine g_goto F d_X1_takeNext_50 ?_
            have hc2 : ((0 : Int) = 0 ∧ ∀ g, 0 ≤ g → g < f + 1 → σ 19 g = σ 18 g) ∨ ((0 : Int) = 1 ∧ chgU σ) := by
              rcases hc with ⟨q1, q2⟩ | ⟨q1, q2⟩
              · first
                  | (left; refine ⟨rfl, fun g a b => ?_⟩; by_cases hg : g = f; (rw [hg]; exact h26); exact q2 g a (by omega))
                  | (right; exact ⟨rfl, f, hf.1, by omega, h26⟩)
                  | (exfalso; omega)
              · first
                  | (right; exact ⟨rfl, q2⟩)
                  | (exfalso; omega)
            refine G_sub (ks := [2, 1, 0]) rfl ?_
            exact ih4 0 (f + 1) (up τ 18 f (σ 19 f)) (by omega) (hm.up (by decide) _ _) (fun g a b => by rw [up_at]; split; (rename_i e; rw [e]); exact h1 g a (by omega)) (fun g a => by rw [up_other _ _ (by omega)]; exact h2 g (by omega)) (fun g => by rw [up_at]; split; exact hN _; exact hT1 g) hc2 (by omega)
          · refine g_iconst F d_X1_takeNext_29 ?_
            refine g_goto F d_X1_takeNext_30 ?_
            refine g_istore_n F (lv' := [(1, vI 1), (0, .ref (q 16)), (2, vI f)]) rfl (by decide) rfl d_X1_takeNext_34 ?_
            refine g_aload_n F 1 rfl rfl d_X1_takeNext_35 ?_
            refine g_getR F f_X1_15 d_X1_takeNext_36 (hsC_16 hs) rfl ?_
            refine g_iload_n F 2 rfl rfl d_X1_takeNext_39 ?_
            refine g_aload_n F 1 rfl rfl d_X1_takeNext_40 ?_
            refine g_getR F f_X1_18 d_X1_takeNext_41 (hsC_16 hs) rfl ?_
            refine g_iload_n F 2 rfl rfl d_X1_takeNext_44 ?_
            refine g_iaload F d_X1_takeNext_45 (hsC_19 hs) (by omega) (by omega) (by decide) ?_
            refine G_top (b := σ 19 f) (by rw [e19]) ?_
            refine g_iastore F d_X1_takeNext_46 (hsC_18 hs) (by omega) (by omega) (by decide) ?_
            refine g_iinc F (lv' := [(2, vI (f + 1)), (1, vI 1), (0, .ref (q 16))]) 2 rfl rfl (by decide) rfl d_X1_takeNext_47 ?_
            refine g_goto F d_X1_takeNext_50 ?_
            have hc2 : ((1 : Int) = 0 ∧ ∀ g, 0 ≤ g → g < f + 1 → σ 19 g = σ 18 g) ∨ ((1 : Int) = 1 ∧ chgU σ) := by
              rcases hc with ⟨q1, q2⟩ | ⟨q1, q2⟩
              · first
                  | (left; refine ⟨rfl, fun g a b => ?_⟩; by_cases hg : g = f; (rw [hg]; exact h26); exact q2 g a (by omega))
                  | (right; exact ⟨rfl, f, hf.1, by omega, h26⟩)
                  | (exfalso; omega)
              · first
                  | (right; exact ⟨rfl, q2⟩)
                  | (exfalso; omega)
            refine G_sub (ks := [2, 1, 0]) rfl ?_
            exact ih4 1 (f + 1) (up τ 18 f (σ 19 f)) (by omega) (hm.up (by decide) _ _) (fun g a b => by rw [up_at]; split; (rename_i e; rw [e]); exact h1 g a (by omega)) (fun g a => by rw [up_other _ _ (by omega)]; exact h2 g (by omega)) (fun g => by rw [up_at]; split; exact hN _; exact hT1 g) hc2 (by omega)
  refine G_sub (ks := [2, 1, 0]) rfl ?_
  exact loop4 _ 0 0 σ (by omega) (Sm.refl _ _) (fun g a b => by exfalso; omega) (fun _ _ => rfl) hK (Or.inl ⟨rfl, fun g a b => by exfalso; omega⟩) (Nat.lt_succ_self _)
set_option maxHeartbeats 1000000 in
theorem c_X1_renew (l : Launch) (E : Ev) (q : Nat → Nat) (sh : List Shp) (σ : Sg) (hs : HsC sh) (hBO : BOK σ) (hC : CR σ) (hK : KR σ) (hN : NR σ) : CV l E yX1_renew cX1_renew 4 ({ frames := 6, cells := 0, slots := 0, locals := 134 } : Room) q sh σ [.ref (q 16)] (fun τ => Sm [17, 18, 19] σ τ ∧ CR τ ∧ NR τ ∧ UOK σ τ) := by
  refine CV_of (own := RX1) (by decide) rfl (Nat.le_of_ble_eq_true rfl) (fun X Q F hQ => ?_)
  show G X E 4 q sh σ 0 0 Q 0 [(0, .ref (q 16))] []
  refine g_aload_n F 0 rfl rfl d_X1_renew_0 ?_
  refine g_getR F f_X1_15 d_X1_renew_1 (hsC_16 hs) rfl ?_
  refine g_iconst F d_X1_renew_4 ?_
  refine g_Sv F (own := RX1) (c_J7_fill_53178 l E q sh σ 18 12 0 (hsC_18 hs) (by decide)) k_X1_25 [] d_X1_renew_5 ⟨rfl, rfl, by decide, by decide⟩ ⟨Nat.zero_le _, Nat.zero_le _⟩ rfl (Nat.le_of_ble_eq_true rfl) ?_
  intro τ1 hp
  refine g_iconst F d_X1_renew_8 ?_
  refine g_istore_n F (lv' := [(1, vI 1), (0, .ref (q 16))]) rfl (by decide) rfl d_X1_renew_9 ?_
  refine g_iconst F d_X1_renew_10 ?_
  refine g_istore_n F (lv' := [(2, vI 0), (1, vI 1), (0, .ref (q 16))]) rfl (by decide) rfl d_X1_renew_11 ?_
  have loop12 : ∀ (nn : Nat) (g : Int) (r : Int) (τ : Sg), (0 ≤ r ∧ r ≤ 25) → (g = 0 ∨ g = 1) → (Sm [17, 18, 19] σ τ) → (CR τ) → (KR τ) → (NR τ) → (UI σ τ) → (g = 1 → r ≤ sumK τ) → (g = 0 → ∀ j, 0 ≤ j → j < 12 → nextOk σ τ j (τ 18 j)) → (25 - r).toNat < nn → G X E 4 q sh τ 0 0 Q 12 [(0, .ref (q 16)), (1, vI g), (2, vI r)] [] := by
    intro n12
    induction n12 with
    | zero => intro g r τ hr hg hm hC1 hK1 hN1 hI h1 h0 hm12; exact absurd hm12 (Nat.not_lt_zero _)
    | succ n12 ih12 =>
      intro g r τ hr hg hm hC1 hK1 hN1 hI h1 h0 hm12
      have e6 : τ 6 = σ 6 := hm 6 (by decide)
      have e7 : τ 7 = σ 7 := hm 7 (by decide)
      have e8 : τ 8 = σ 8 := hm 8 (by decide)
      have e9 : τ 9 = σ 9 := hm 9 (by decide)
      have e10 : τ 10 = σ 10 := hm 10 (by decide)
      have e11 : τ 11 = σ 11 := hm 11 (by decide)
      refine g_iload_n F 1 rfl rfl d_X1_renew_12 ?_
      refine g_if_eq F d_X1_renew_13 ⟨by omega, by omega⟩ (fun h13 => ?_) (fun h13 => ?_)
      · have hg0 : g = 0 := by
          rcases hg with q | q
          · exact q
          · have := h1 q
            have := sumK_in hK1
            exfalso; omega
        have hfin := h0 hg0
        exact hQ d_X1_renew_63 (⟨hm, hC1, hN1, UOK_of hI hK1 hfin⟩)
      · refine g_iload_n F 2 rfl rfl d_X1_renew_16 ?_
        refine g_bipush F (by decide) d_X1_renew_17 ?_
        refine g_icmp_ge F d_X1_renew_19 ⟨by omega, by omega⟩ ⟨by decide, by decide⟩ (fun h19 => ?_) (fun h19 => ?_)
        · have hg0 : g = 0 := by
            rcases hg with q | q
            · exact q
            · have := h1 q
              have := sumK_in hK1
              exfalso; omega
          have hfin := h0 hg0
          exact hQ d_X1_renew_63 (⟨hm, hC1, hN1, UOK_of hI hK1 hfin⟩)
        · refine g_iconst F d_X1_renew_22 ?_
          refine g_istore_n F (lv' := [(3, vI 0), (0, .ref (q 16)), (1, vI g), (2, vI r)]) rfl (by decide) rfl d_X1_renew_23 ?_
          have loop24 : ∀ (nn : Nat) (j : Int) (τ2 : Sg), (0 ≤ j ∧ j ≤ 12) → (Sm [17, 19] τ τ2) → (CR τ2) → (NR τ2) → (∀ k, 0 ≤ k → k < j → nextOk σ τ k (τ2 19 k)) → (12 - j).toNat < nn → G X E 4 q sh τ2 0 0 Q 24 [(0, .ref (q 16)), (1, vI g), (2, vI r), (3, vI j)] [] := by
            intro n24
            induction n24 with
            | zero => intro j τ2 hj hm2 hC2 hN2 hn hm24; exact absurd hm24 (Nat.not_lt_zero _)
            | succ n24 ih24 =>
              intro j τ2 hj hm2 hC2 hN2 hn hm24
              have f6 : τ2 6 = σ 6 := (hm2 6 (by decide)).trans e6
              have f7 : τ2 7 = σ 7 := (hm2 7 (by decide)).trans e7
              have f8 : τ2 8 = σ 8 := (hm2 8 (by decide)).trans e8
              have f9 : τ2 9 = σ 9 := (hm2 9 (by decide)).trans e9
              have f10 : τ2 10 = σ 10 := (hm2 10 (by decide)).trans e10
              have f11 : τ2 11 = σ 11 := (hm2 11 (by decide)).trans e11
              have f18 : τ2 18 = τ 18 := hm2 18 (by decide)
              have fk : kn τ2 = kn τ := by unfold kn; rw [f18]
              refine g_iload_n F 3 rfl rfl d_X1_renew_24 ?_
              refine g_bipush F (by decide) d_X1_renew_25 ?_
              refine g_icmp_ge F d_X1_renew_27 ⟨by omega, by omega⟩ ⟨by decide, by decide⟩ (fun h27 => ?_) (fun h27 => ?_)
              · refine g_aload_n F 0 rfl rfl d_X1_renew_52 ?_
                refine g_Vi F (own := RX1) (c_X1_takeNext l E q sh τ2 hs  hN2 (fun k => by rw [f18]; exact hK1 k)) k_X1_35 (hsC_16 hs) rfl rfl [] d_X1_renew_53 ⟨rfl, rfl, by decide, by decide⟩ ⟨Nat.zero_le _, Nat.zero_le _⟩ rfl (Nat.le_of_ble_eq_true rfl) ?_
                intro z τ4 hz
                have hC3 : CR τ4 := fun k => by rw [hz.1 17 (by decide)]; exact hC2 k
                have hN3 : NR τ4 := fun k => by rw [hz.1 19 (by decide)]; exact hN2 k
                have hnx : ∀ k, 0 ≤ k → k < 12 → nextOk σ τ k (τ4 18 k) := fun k a b => by rw [hz.2.1 k a b]; exact hn k a (by omega)
                have hst := UI_step hBO hK1 hz.2.2.1 hI hnx
                have hs1 : z = 1 → r + 1 ≤ sumK τ4 := by
                  intro h
                  have h5 := h1 (by omega)
                  rcases hz.2.2.2 with q | q
                  · exfalso; omega
                  · obtain ⟨k, a, b, c⟩ := q.2
                    have := sumK_step hst.2 ⟨k, a, b, by rw [hz.2.1 k a b, ← f18]; exact c⟩
                    omega
                have hs0 : z = 0 → ∀ k, 0 ≤ k → k < 12 → nextOk σ τ4 k (τ4 18 k) := by
                  intro h
                  rcases hz.2.2.2 with q | q
                  · intro k a b
                    exact (hnx k a b).move (fun i c d => by rw [hz.2.1 i c d, q.2 i c d, f18])
                  · exfalso; omega
                refine g_istore_n F (lv' := [(1, vI z), (0, .ref (q 16)), (2, vI r), (3, vI j)]) rfl (by decide) rfl d_X1_renew_56 ?_
                refine g_iinc F (lv' := [(2, vI (r + 1)), (1, vI z), (0, .ref (q 16)), (3, vI j)]) 2 rfl rfl (by decide) rfl d_X1_renew_57 ?_
                refine g_goto F d_X1_renew_60 ?_
                refine G_sub (ks := [2, 1, 0]) rfl ?_
                exact ih12 z (r + 1) τ4 (by omega) (hz.2.2.2.elim (fun h => Or.inl h.1) (fun h => Or.inr h.1)) ((hm.trans (hm2.wide (by decide))).trans (hz.1.wide (by decide))) hC3 hz.2.2.1 hN3 hst.1 hs1 hs0 (by omega)
              · have hBO2 : BOK τ2 := by
                  intro g h0 h1
                  rw [f6, f7, f8, f9, f10, f11]
                  exact hBO g h0 h1
                refine g_aload_n F 0 rfl rfl d_X1_renew_30 ?_
                refine g_getR F f_X1_18 d_X1_renew_31 (hsC_16 hs) rfl ?_
                refine g_iload_n F 3 rfl rfl d_X1_renew_34 ?_
                refine g_aload_n F 0 rfl rfl d_X1_renew_35 ?_
                refine g_iload_n F 3 rfl rfl d_X1_renew_36 ?_
                refine g_iconst F d_X1_renew_37 ?_
                refine g_idiv F ⟨by omega, by omega, by omega, by omega⟩ d_X1_renew_38 ?_
                refine g_iload_n F 3 rfl rfl d_X1_renew_39 ?_
                refine g_iconst F d_X1_renew_40 ?_
                refine g_irem F ⟨by omega, by omega, by omega, by omega⟩ d_X1_renew_41 ?_
                refine g_Vi F (own := RX1) (c_X1_countIn l E q sh τ2 hs (j / 3) (j % 3) (by omega) (by omega) hBO2 hC2 (fun k => by rw [f18]; exact hK1 k)) k_X1_31 (hsC_16 hs) rfl rfl [vI j, .ref (q 19)] d_X1_renew_42 ⟨rfl, rfl, by decide, by decide⟩ ⟨Nat.zero_le _, Nat.zero_le _⟩ rfl (Nat.le_of_ble_eq_true rfl) ?_
                intro z τ3 hq
                refine g_iastore F d_X1_renew_45 (hsC_19 hs) (by omega) (by omega) (by decide) ?_
                refine g_iinc F (lv' := [(3, vI (j + 1)), (0, .ref (q 16)), (1, vI g), (2, vI r)]) 3 rfl rfl (by decide) rfl d_X1_renew_46 ?_
                refine g_goto F d_X1_renew_49 ?_
                have m19 : τ3 19 = τ2 19 := hq.1 19 (by decide)
                have hz9 := hq.2.1 (j / 3 * 30)
                have q1 : CR (up τ3 19 j z) := by
                  intro p
                  rw [up_ne _ (by decide)]
                  exact hq.2.1 p
                have q2 : NR (up τ3 19 j z) := by
                  intro p
                  rw [up_at]
                  split
                  · rw [hq.2.2.2]; exact hz9
                  · rw [m19]; exact hN2 p
                have q3 : ∀ k, 0 ≤ k → k < j + 1 → nextOk σ τ k ((up τ3 19 j z) 19 k) := by
                  intro k a b
                  rw [up_at]
                  split
                  · rename_i e
                    rw [e]
                    refine ⟨τ3 17, hq.2.1, ?_, hq.2.2.2⟩
                    have h9 := hq.2.2.1
                    rw [f6, f7, f10, fk] at h9
                    exact h9
                  · rw [m19]; exact hn k a (by omega)
                refine G_sub (ks := [1, 2, 3, 0]) rfl ?_
                exact ih24 (j + 1) (up τ3 19 j z) (by omega) ((hm2.trans (hq.1.wide (by decide))).up (by decide) _ _) q1 q2 q3 (by omega)
          refine G_sub (ks := [1, 2, 3, 0]) rfl ?_
          exact loop24 _ 0 τ (by omega) (Sm.refl _ _) hC1 hN1 (fun k a b => by exfalso; omega) (Nat.lt_succ_self _)
  have hz : ∀ j, 0 ≤ j → j < 12 → τ1 18 j = 0 := fun j a b => hp.1 j a (by omega)
  have hK9 : KR τ1 := by
    intro j
    by_cases hj : 0 ≤ j ∧ j < 12
    · rw [hz j hj.1 hj.2]; decide
    · rw [hp.2.1 j (by omega)]; exact hK j
  have hC9 : CR τ1 := by
    intro j
    rw [hp.2.2 17 (by decide)]
    exact hC j
  have hN9 : NR τ1 := by
    intro j
    rw [hp.2.2 19 (by decide)]
    exact hN j
  have hmu := sumK_in hK9
  refine G_sub (ks := [2, 1, 0]) rfl ?_
  exact loop12 _ 1 0 τ1 (by omega) (Or.inr rfl) (hp.2.2.wide (by decide)) hC9 hK9 hN9 (UI_0 hz) (fun _ => hmu.1) (fun h => by cases h) (Nat.lt_succ_self _)
end
section
/-! the Machine's small steps, as changes of the table of numbers -/
def mGo (σ : Sg) (p c : Int) : Sg := up (up (up σ 21 16 0) 21 14 p) 21 15 c
def mGive (σ : Sg) (v : Int) : Sg := up (up σ 21 16 1) 21 17 v
def mWait (σ : Sg) (p c h : Int) : Sg := up (up (up (up σ 25 (σ 21 9) p) 26 (σ 21 9) c) 27 (σ 21 9) h) 21 9 (σ 21 9 + 1)
def mHang (σ : Sg) (s p c : Int) : Sg := up (up (up σ 22 s (-1)) 23 s p) 24 s c
def mSlot (σ : Sg) (s : Int) : Sg := mGo σ (σ 23 s) (σ 24 s)
/-- an ACT -/
def ac (x a b : Int) : Int := if x = 43 then bAnd (a + b) 7 else if x = 45 then bAnd (a - b) 7 else if x = 42 then bAnd (a * b) 7 else if b < a then b else a
theorem bAnd7 (z : Int) : 0 ≤ bAnd z 7 ∧ bAnd z 7 < 8 := by
  have h := pk_andIn (iI z) (m := 7) 3 (by decide) (by decide)
  rw [vp_in_iff] at h
  exact h
theorem ac_in {x a b : Int} (ha : 0 ≤ a ∧ a < 8) (hb : 0 ≤ b ∧ b < 8) : 0 ≤ ac x a b ∧ ac x a b < 8 := by
  unfold ac
  split
  · exact bAnd7 _
  · split
    · exact bAnd7 _
    · split
      · exact bAnd7 _
      · split <;> assumption
/-- the next ARGUMENT, from k on, that is worked ahead; n: none -/
def nxA (ah n : Int) : Nat → Int → Int
  | 0, k => k
  | m + 1, k => if bt ah k = true then k else nxA ah n m (k + 1)
def nx (ah n k : Int) : Int := nxA ah n (n - k).toNat k
theorem nx_end {ah n k : Int} (h : n ≤ k) : nx ah n k = k := by
  unfold nx
  rw [show (n - k).toNat = 0 by omega]
  rfl
theorem nx_yes {ah n k : Int} (h : k < n) (hb : bt ah k = true) : nx ah n k = k := by
  unfold nx
  rw [show (n - k).toNat = (n - k - 1).toNat + 1 by omega, nxA, if_pos hb]
theorem nx_no {ah n k : Int} (h : k < n) (hb : ¬ bt ah k = true) : nx ah n k = nx ah n (k + 1) := by
  unfold nx
  rw [show (n - k).toNat = (n - (k + 1)).toNat + 1 by omega, nxA, if_neg hb]
def AH (σ : Sg) : Prop := ∀ f, 0 ≤ σ 28 f ∧ σ 28 f < 256
/-- a call goes on: its next text ahead, or its BODY -/
def mCalling (σ : Sg) (p c k : Int) : Sg := if nx (σ 28 (σ 9 p)) (nA (σ 9 p)) k < nA (σ 9 p) then mSlot (mWait σ p c (nx (σ 28 (σ 9 p)) (nA (σ 9 p)) k)) (c * 3 + nx (σ 28 (σ 9 p)) (nA (σ 9 p)) k) else mGo σ (σ 9 p * 30) c
def mActing (σ : Sg) (p c h : Int) : Sg := if h = -1 then mGo (mWait σ p c (σ 21 17)) (tp (σ 10) p 1) c else mGive σ (ac (σ 9 p) h (σ 21 17))
def mArg (σ : Sg) (s : Int) : Sg := if σ 22 s = 8 then up σ 21 12 8 else if σ 22 s = -1 then (if σ 21 10 = 0 then mSlot σ s else mSlot (mWait σ (σ 21 14) (σ 21 15) (-1)) s) else mGive σ (σ 22 s)
/-- the slots of a new call -/
def hangs (σ : Sg) (c p r : Int) : Nat → Sg
  | 0 => σ
  | k + 1 => mHang (hangs σ c p r k) (c * 3 + k) (tp (σ 10) p k) r
def mCall (σ : Sg) (g : Int) : Sg := mCalling (hangs (up σ 21 5 (σ 21 5 + 1)) (σ 21 5) (σ 21 14) (σ 21 15) (nA g).toNat) (σ 21 14) (σ 21 5) 0
theorem hangs_Sm (σ : Sg) (c p r : Int) : ∀ k : Nat, Sm [22, 23, 24] σ (hangs σ c p r k)
  | 0 => Sm.refl _ _
  | k + 1 => by
    have ih := hangs_Sm σ c p r k
    unfold hangs mHang
    exact ((ih.up (by decide) _ _).up (by decide) _ _).up (by decide) _ _
theorem mWait_10 (σ : Sg) (p c h : Int) : mWait σ p c h 10 = σ 10 := by
  unfold mWait
  rw [up_ne _ (by decide), up_ne _ (by decide), up_ne _ (by decide), up_ne _ (by decide)]
set_option maxHeartbeats 1000000 in
theorem c_X2_end (l : Launch) (E : Ev) (q : Nat → Nat) (sh : List Shp) (σ : Sg) (hs : HsC sh) : CI l E yX2_end cX2_end 1 .int ({ frames := 0, cells := 0, slots := 0, locals := 0 } : Room) q sh σ [.ref (q 21)] (is (σ 21 12) σ) := by
  refine CI_of (own := RX2) (by decide) rfl (Nat.le_of_ble_eq_true rfl) (fun X Q F hQ => ?_)
  show G X E 1 q sh σ 0 0 Q 0 [(0, .ref (q 21))] []
  refine g_aload_n F 0 rfl rfl d_X2_end_0 ?_
  refine g_getI F 12 f_X2_41 d_X2_end_1 (hsC_21 hs) rfl rfl ?_
  exact hQ d_X2_end_4 (⟨by first | rfl | omega | (simp only [*]; done) | (simp [*]; done) | (split <;> omega), rfl⟩)
set_option maxHeartbeats 1000000 in
theorem c_X2_taken (l : Launch) (E : Ev) (q : Nat → Nat) (sh : List Shp) (σ : Sg) (hs : HsC sh) : CI l E yX2_taken cX2_taken 1 .int ({ frames := 0, cells := 0, slots := 0, locals := 0 } : Room) q sh σ [.ref (q 21)] (is (σ 21 13) σ) := by
  refine CI_of (own := RX2) (by decide) rfl (Nat.le_of_ble_eq_true rfl) (fun X Q F hQ => ?_)
  show G X E 1 q sh σ 0 0 Q 0 [(0, .ref (q 21))] []
  refine g_aload_n F 0 rfl rfl d_X2_taken_0 ?_
  refine g_getI F 13 f_X2_45 d_X2_taken_1 (hsC_21 hs) rfl rfl ?_
  exact hQ d_X2_taken_4 (⟨by first | rfl | omega | (simp only [*]; done) | (simp [*]; done) | (split <;> omega), rfl⟩)
set_option maxHeartbeats 1000000 in
theorem c_X2_slotOf (l : Launch) (E : Ev) (q : Nat → Nat) (sh : List Shp) (σ : Sg) (x y : Int) : CI l E yX2_slotOf cX2_slotOf 2 .int ({ frames := 0, cells := 0, slots := 0, locals := 0 } : Room) q sh σ [vI x, vI y] (is (x * 3 + y) σ) := by
  refine CI_of (own := RX2) (by decide) rfl (Nat.le_of_ble_eq_true rfl) (fun X Q F hQ => ?_)
  show G X E 2 q sh σ 0 0 Q 0 [(0, vI x), (1, vI y)] []
  refine g_iload_n F 0 rfl rfl d_X2_slotOf_0 ?_
  refine g_iconst F d_X2_slotOf_1 ?_
  refine g_imul F d_X2_slotOf_2 ?_
  refine g_iload_n F 1 rfl rfl d_X2_slotOf_3 ?_
  refine g_iadd F d_X2_slotOf_4 ?_
  exact hQ d_X2_slotOf_5 (⟨by first | rfl | omega | (simp only [*]; done) | (simp [*]; done) | (split <;> omega), rfl⟩)
set_option maxHeartbeats 1000000 in
theorem c_X2_isSlot (l : Launch) (E : Ev) (q : Nat → Nat) (sh : List Shp) (σ : Sg) (x : Int) (rx : rg x) : CI l E yX2_isSlot cX2_isSlot 1 .boolean ({ frames := 0, cells := 0, slots := 0, locals := 0 } : Room) q sh σ [vI x] (is (if 0 ≤ x ∧ x < 903 then 1 else 0) σ) := by
  have rx1 := rx.1
  have rx2 := rx.2
  refine CB_of (own := RX2) (by decide) rfl (Nat.le_of_ble_eq_true rfl) (fun X Q F hQ => ?_)
  show G X E 1 q sh σ 0 0 Q 0 [(0, vI x)] []
  refine g_iload_n F 0 rfl rfl d_X2_isSlot_0 ?_
  refine g_if_lt F d_X2_isSlot_1 ⟨by omega, by omega⟩ (fun h1 => ?_) (fun h1 => ?_)
  · refine g_iconst F d_X2_isSlot_15 ?_
    exact hQ d_X2_isSlot_16 (Or.inl rfl) (⟨by split <;> omega, rfl⟩)
  · refine g_iload_n F 0 rfl rfl d_X2_isSlot_4 ?_
    refine g_sipush F (by decide) d_X2_isSlot_5 ?_
    refine g_icmp_ge F d_X2_isSlot_8 ⟨by omega, by omega⟩ ⟨by decide, by decide⟩ (fun h8 => ?_) (fun h8 => ?_)
    · refine g_iconst F d_X2_isSlot_15 ?_
      exact hQ d_X2_isSlot_16 (Or.inl rfl) (⟨by split <;> omega, rfl⟩)
    · refine g_iconst F d_X2_isSlot_11 ?_
      refine g_goto F d_X2_isSlot_12 ?_
      exact hQ d_X2_isSlot_16 (Or.inr rfl) (⟨by split <;> omega, rfl⟩)
set_option maxHeartbeats 1000000 in
theorem c_X2_heldIn (l : Launch) (E : Ev) (q : Nat → Nat) (sh : List Shp) (σ : Sg) (hs : HsC sh) (s : Int) (hs0 : 0 ≤ s ∧ s < 903) : CI l E yX2_heldIn cX2_heldIn 2 .int ({ frames := 1, cells := 0, slots := 0, locals := 20 } : Room) q sh σ [.ref (q 21), vI s] (is (σ 22 s) σ) := by
  refine CI_of (own := RX2) (by decide) rfl (Nat.le_of_ble_eq_true rfl) (fun X Q F hQ => ?_)
  show G X E 2 q sh σ 0 0 Q 0 [(0, .ref (q 21)), (1, vI s)] []
  refine g_iload_n F 1 rfl rfl d_X2_heldIn_0 ?_
  refine g_Si F (own := RX2) (c_X2_isSlot l E q sh σ s ⟨by omega, by omega⟩) k_X2_165 [] d_X2_heldIn_1 ⟨rfl, rfl, by decide, by decide⟩ ⟨Nat.zero_le _, Nat.zero_le _⟩ rfl (Nat.le_of_ble_eq_true rfl) ?_
  rintro _ _ ⟨rfl, rfl⟩
  refine g_b_eq F d_X2_heldIn_4 (fun h4 => by exfalso; omega) (fun h4 => ?_)
  refine g_aload_n F 0 rfl rfl d_X2_heldIn_7 ?_
  refine g_getR F f_X2_11 d_X2_heldIn_8 (hsC_21 hs) rfl ?_
  refine g_iload_n F 1 rfl rfl d_X2_heldIn_11 ?_
  refine g_iaload F d_X2_heldIn_12 (hsC_22 hs) (by omega) (by omega) (by decide) ?_
  refine g_goto F d_X2_heldIn_13 ?_
  exact hQ d_X2_heldIn_18 (⟨by first | rfl | omega | (simp only [*]; done) | (simp [*]; done) | (split <;> omega), rfl⟩)
set_option maxHeartbeats 1000000 in
theorem c_X2_setSlot (l : Launch) (E : Ev) (q : Nat → Nat) (sh : List Shp) (σ : Sg) (hs : HsC sh) (s v : Int) (hs0 : 0 ≤ s ∧ s < 903) : CV l E yX2_setSlot cX2_setSlot 3 ({ frames := 1, cells := 0, slots := 0, locals := 20 } : Room) q sh σ [.ref (q 21), vI s, vI v] (isS (up σ 22 s v)) := by
  refine CV_of (own := RX2) (by decide) rfl (Nat.le_of_ble_eq_true rfl) (fun X Q F hQ => ?_)
  show G X E 3 q sh σ 0 0 Q 0 [(0, .ref (q 21)), (1, vI s), (2, vI v)] []
  refine g_iload_n F 1 rfl rfl d_X2_setSlot_0 ?_
  refine g_Si F (own := RX2) (c_X2_isSlot l E q sh σ s ⟨by omega, by omega⟩) k_X2_165 [] d_X2_setSlot_1 ⟨rfl, rfl, by decide, by decide⟩ ⟨Nat.zero_le _, Nat.zero_le _⟩ rfl (Nat.le_of_ble_eq_true rfl) ?_
  rintro _ _ ⟨rfl, rfl⟩
  refine g_b_eq F d_X2_setSlot_4 (fun h4 => by exfalso; omega) (fun h4 => ?_)
  refine g_aload_n F 0 rfl rfl d_X2_setSlot_7 ?_
  refine g_getR F f_X2_11 d_X2_setSlot_8 (hsC_21 hs) rfl ?_
  refine g_iload_n F 1 rfl rfl d_X2_setSlot_11 ?_
  refine g_iload_n F 2 rfl rfl d_X2_setSlot_12 ?_
  refine g_iastore F d_X2_setSlot_13 (hsC_22 hs) (by omega) (by omega) (by decide) ?_
  exact hQ d_X2_setSlot_14 (rfl)
set_option maxHeartbeats 1000000 in
theorem c_X2_hang (l : Launch) (E : Ev) (q : Nat → Nat) (sh : List Shp) (σ : Sg) (hs : HsC sh) (s p c : Int) (hs0 : 0 ≤ s ∧ s < 903) : CV l E yX2_hang cX2_hang 4 ({ frames := 1, cells := 0, slots := 0, locals := 20 } : Room) q sh σ [.ref (q 21), vI s, vI p, vI c] (isS (mHang σ s p c)) := by
  refine CV_of (own := RX2) (by decide) rfl (Nat.le_of_ble_eq_true rfl) (fun X Q F hQ => ?_)
  show G X E 4 q sh σ 0 0 Q 0 [(0, .ref (q 21)), (1, vI s), (2, vI p), (3, vI c)] []
  refine g_iload_n F 1 rfl rfl d_X2_hang_0 ?_
  refine g_Si F (own := RX2) (c_X2_isSlot l E q sh σ s ⟨by omega, by omega⟩) k_X2_165 [] d_X2_hang_1 ⟨rfl, rfl, by decide, by decide⟩ ⟨Nat.zero_le _, Nat.zero_le _⟩ rfl (Nat.le_of_ble_eq_true rfl) ?_
  rintro _ _ ⟨rfl, rfl⟩
  refine g_b_eq F d_X2_hang_4 (fun h4 => by exfalso; omega) (fun h4 => ?_)
  refine g_aload_n F 0 rfl rfl d_X2_hang_7 ?_
  refine g_getR F f_X2_11 d_X2_hang_8 (hsC_21 hs) rfl ?_
  refine g_iload_n F 1 rfl rfl d_X2_hang_11 ?_
  refine g_iconst F d_X2_hang_12 ?_
  refine g_iastore F d_X2_hang_13 (hsC_22 hs) (by omega) (by omega) (by decide) ?_
  refine g_aload_n F 0 rfl rfl d_X2_hang_14 ?_
  refine g_getR F f_X2_15 d_X2_hang_15 (hsC_21 hs) rfl ?_
  refine g_iload_n F 1 rfl rfl d_X2_hang_18 ?_
  refine g_iload_n F 2 rfl rfl d_X2_hang_19 ?_
  refine g_iastore F d_X2_hang_20 (hsC_23 hs) (by omega) (by omega) (by decide) ?_
  refine g_aload_n F 0 rfl rfl d_X2_hang_21 ?_
  refine g_getR F f_X2_18 d_X2_hang_22 (hsC_21 hs) rfl ?_
  refine g_iload_n F 1 rfl rfl d_X2_hang_25 ?_
  refine g_iload_n F 3 rfl rfl d_X2_hang_26 ?_
  refine g_iastore F d_X2_hang_27 (hsC_24 hs) (by omega) (by omega) (by decide) ?_
  exact hQ d_X2_hang_28 (rfl)
set_option maxHeartbeats 1000000 in
theorem c_X2_goTo (l : Launch) (E : Ev) (q : Nat → Nat) (sh : List Shp) (σ : Sg) (hs : HsC sh) (p c : Int) : CV l E yX2_goTo cX2_goTo 3 ({ frames := 0, cells := 0, slots := 0, locals := 0 } : Room) q sh σ [.ref (q 21), vI p, vI c] (isS (mGo σ p c)) := by
  refine CV_of (own := RX2) (by decide) rfl (Nat.le_of_ble_eq_true rfl) (fun X Q F hQ => ?_)
  show G X E 3 q sh σ 0 0 Q 0 [(0, .ref (q 21)), (1, vI p), (2, vI c)] []
  refine g_aload_n F 0 rfl rfl d_X2_goTo_0 ?_
  refine g_iconst F d_X2_goTo_1 ?_
  refine g_putI F 16 f_X2_73 d_X2_goTo_2 (hsC_21 hs) rfl rfl rfl rfl rfl ?_
  refine g_aload_n F 0 rfl rfl d_X2_goTo_5 ?_
  refine g_iload_n F 1 rfl rfl d_X2_goTo_6 ?_
  refine g_putI F 14 f_X2_108 d_X2_goTo_7 (hsC_21 hs) rfl rfl rfl rfl rfl ?_
  refine g_aload_n F 0 rfl rfl d_X2_goTo_10 ?_
  refine g_iload_n F 2 rfl rfl d_X2_goTo_11 ?_
  refine g_putI F 15 f_X2_121 d_X2_goTo_12 (hsC_21 hs) rfl rfl rfl rfl rfl ?_
  exact hQ d_X2_goTo_15 (rfl)
set_option maxHeartbeats 1000000 in
theorem c_X2_goToSlot (l : Launch) (E : Ev) (q : Nat → Nat) (sh : List Shp) (σ : Sg) (hs : HsC sh) (s : Int) (hs0 : 0 ≤ s ∧ s < 903) : CV l E yX2_goToSlot cX2_goToSlot 2 ({ frames := 1, cells := 0, slots := 0, locals := 22 } : Room) q sh σ [.ref (q 21), vI s] (isS (mSlot σ s)) := by
  refine CV_of (own := RX2) (by decide) rfl (Nat.le_of_ble_eq_true rfl) (fun X Q F hQ => ?_)
  show G X E 2 q sh σ 0 0 Q 0 [(0, .ref (q 21)), (1, vI s)] []
  refine g_iload_n F 1 rfl rfl d_X2_goToSlot_0 ?_
  refine g_Si F (own := RX2) (c_X2_isSlot l E q sh σ s ⟨by omega, by omega⟩) k_X2_165 [] d_X2_goToSlot_1 ⟨rfl, rfl, by decide, by decide⟩ ⟨Nat.zero_le _, Nat.zero_le _⟩ rfl (Nat.le_of_ble_eq_true rfl) ?_
  rintro _ _ ⟨rfl, rfl⟩
  refine g_b_eq F d_X2_goToSlot_4 (fun h4 => by exfalso; omega) (fun h4 => ?_)
  refine g_aload_n F 0 rfl rfl d_X2_goToSlot_7 ?_
  refine g_aload_n F 0 rfl rfl d_X2_goToSlot_8 ?_
  refine g_getR F f_X2_15 d_X2_goToSlot_9 (hsC_21 hs) rfl ?_
  refine g_iload_n F 1 rfl rfl d_X2_goToSlot_12 ?_
  refine g_iaload F d_X2_goToSlot_13 (hsC_23 hs) (by omega) (by omega) (by decide) ?_
  refine g_aload_n F 0 rfl rfl d_X2_goToSlot_14 ?_
  refine g_getR F f_X2_18 d_X2_goToSlot_15 (hsC_21 hs) rfl ?_
  refine g_iload_n F 1 rfl rfl d_X2_goToSlot_18 ?_
  refine g_iaload F d_X2_goToSlot_19 (hsC_24 hs) (by omega) (by omega) (by decide) ?_
  refine g_Vv F (own := RX2) (c_X2_goTo l E q sh σ hs (σ 23 s) (σ 24 s) ) k_X2_70 (hsC_21 hs) rfl rfl [] d_X2_goToSlot_20 ⟨rfl, rfl, by decide, by decide⟩ ⟨Nat.zero_le _, Nat.zero_le _⟩ rfl (Nat.le_of_ble_eq_true rfl) ?_
  rintro _ rfl
  exact hQ d_X2_goToSlot_23 (rfl)
set_option maxHeartbeats 1000000 in
theorem c_X2_give (l : Launch) (E : Ev) (q : Nat → Nat) (sh : List Shp) (σ : Sg) (hs : HsC sh) (v : Int) : CV l E yX2_give cX2_give 2 ({ frames := 0, cells := 0, slots := 0, locals := 0 } : Room) q sh σ [.ref (q 21), vI v] (isS (mGive σ v)) := by
  refine CV_of (own := RX2) (by decide) rfl (Nat.le_of_ble_eq_true rfl) (fun X Q F hQ => ?_)
  show G X E 2 q sh σ 0 0 Q 0 [(0, .ref (q 21)), (1, vI v)] []
  refine g_aload_n F 0 rfl rfl d_X2_give_0 ?_
  refine g_iconst F d_X2_give_1 ?_
  refine g_putI F 16 f_X2_73 d_X2_give_2 (hsC_21 hs) rfl rfl rfl rfl rfl ?_
  refine g_aload_n F 0 rfl rfl d_X2_give_5 ?_
  refine g_iload_n F 1 rfl rfl d_X2_give_6 ?_
  refine g_putI F 17 f_X2_150 d_X2_give_7 (hsC_21 hs) rfl rfl rfl rfl rfl ?_
  exact hQ d_X2_give_10 (rfl)
set_option maxHeartbeats 1000000 in
theorem c_X2_await (l : Launch) (E : Ev) (q : Nat → Nat) (sh : List Shp) (σ : Sg) (hs : HsC sh) (p c h : Int) (hw : 0 ≤ σ 21 9 ∧ σ 21 9 < 300) : CV l E yX2_await cX2_await 4 ({ frames := 0, cells := 0, slots := 0, locals := 0 } : Room) q sh σ [.ref (q 21), vI p, vI c, vI h] (isS (mWait σ p c h)) := by
  refine CV_of (own := RX2) (by decide) rfl (Nat.le_of_ble_eq_true rfl) (fun X Q F hQ => ?_)
  show G X E 4 q sh σ 0 0 Q 0 [(0, .ref (q 21)), (1, vI p), (2, vI c), (3, vI h)] []
  refine g_aload_n F 0 rfl rfl d_X2_await_0 ?_
  refine g_getI F 9 f_X2_51 d_X2_await_1 (hsC_21 hs) rfl rfl ?_
  refine g_if_lt F d_X2_await_4 ⟨by omega, by omega⟩ (fun h4 => by exfalso; omega) (fun h4 => ?_)
  refine g_aload_n F 0 rfl rfl d_X2_await_7 ?_
  refine g_getI F 9 f_X2_51 d_X2_await_8 (hsC_21 hs) rfl rfl ?_
  refine g_sipush F (by decide) d_X2_await_11 ?_
  refine g_icmp_lt F d_X2_await_14 ⟨by omega, by omega⟩ ⟨by decide, by decide⟩ (fun h14 => ?_) (fun h14 => by exfalso; omega)
  refine g_aload_n F 0 rfl rfl d_X2_await_24 ?_
  refine g_getR F f_X2_21 d_X2_await_25 (hsC_21 hs) rfl ?_
  refine g_aload_n F 0 rfl rfl d_X2_await_28 ?_
  refine g_getI F 9 f_X2_51 d_X2_await_29 (hsC_21 hs) rfl rfl ?_
  refine g_iload_n F 1 rfl rfl d_X2_await_32 ?_
  refine g_iastore F d_X2_await_33 (hsC_25 hs) (by omega) (by omega) (by decide) ?_
  refine g_aload_n F 0 rfl rfl d_X2_await_34 ?_
  refine g_getR F f_X2_24 d_X2_await_35 (hsC_21 hs) rfl ?_
  refine g_aload_n F 0 rfl rfl d_X2_await_38 ?_
  refine g_getI F 9 f_X2_51 d_X2_await_39 (hsC_21 hs) rfl rfl ?_
  refine G_top (b := σ 21 9) (by rw [up_ne _ (by decide)]) ?_
  refine g_iload_n F 2 rfl rfl d_X2_await_42 ?_
  refine g_iastore F d_X2_await_43 (hsC_26 hs) (by omega) (by omega) (by decide) ?_
  refine g_aload_n F 0 rfl rfl d_X2_await_44 ?_
  refine g_getR F f_X2_27 d_X2_await_45 (hsC_21 hs) rfl ?_
  refine g_aload_n F 0 rfl rfl d_X2_await_48 ?_
  refine g_getI F 9 f_X2_51 d_X2_await_49 (hsC_21 hs) rfl rfl ?_
  refine G_top (b := σ 21 9) (by rw [up_ne _ (by decide), up_ne _ (by decide)]) ?_
  refine g_iload_n F 3 rfl rfl d_X2_await_52 ?_
  refine g_iastore F d_X2_await_53 (hsC_27 hs) (by omega) (by omega) (by decide) ?_
  refine g_aload_n F 0 rfl rfl d_X2_await_54 ?_
  refine g_dup F rfl d_X2_await_55 ?_
  refine g_getI F 9 f_X2_51 d_X2_await_56 (hsC_21 hs) rfl rfl ?_
  refine G_top (b := σ 21 9) (by rw [up_ne _ (by decide), up_ne _ (by decide), up_ne _ (by decide)]) ?_
  refine g_iconst F d_X2_await_59 ?_
  refine g_iadd F d_X2_await_60 ?_
  refine g_putI F 9 f_X2_51 d_X2_await_61 (hsC_21 hs) rfl rfl rfl rfl rfl ?_
  exact hQ d_X2_await_64 (rfl)
set_option maxHeartbeats 1000000 in
theorem c_X2_acted (l : Launch) (E : Ev) (q : Nat → Nat) (sh : List Shp) (σ : Sg) (x a b : Int) (hx : x = 42 ∨ x = 43 ∨ x = 45 ∨ x = 109) (ha : 0 ≤ a ∧ a < 8) (hb : 0 ≤ b ∧ b < 8) : CI l E yX2_acted cX2_acted 3 .int ({ frames := 1, cells := 0, slots := 0, locals := 21 } : Room) q sh σ [vI x, vI a, vI b] (is (ac x a b) σ) := by
  refine CI_of (own := RX2) (by decide) rfl (Nat.le_of_ble_eq_true rfl) (fun X Q F hQ => ?_)
  show G X E 3 q sh σ 0 0 Q 0 [(0, vI x), (1, vI a), (2, vI b)] []
  refine g_iload_n F 0 rfl rfl d_X2_acted_0 ?_
  rcases hx with hx | hx | hx | hx
  · refine g_tabIn F d_X2_acted_1 ⟨by omega, by omega⟩ 0 (tgt := 46) (by omega) (by decide) rfl rfl ?_
    refine g_iload_n F 1 rfl rfl d_X2_acted_46 ?_
    refine g_iload_n F 2 rfl rfl d_X2_acted_47 ?_
    refine g_imul F d_X2_acted_48 ?_
    refine g_bipush F (by decide) d_X2_acted_49 ?_
    refine g_iand F d_X2_acted_51 ?_
    exact hQ d_X2_acted_52 (⟨by simp [ac, hx], rfl⟩)
  · refine g_tabIn F d_X2_acted_1 ⟨by omega, by omega⟩ 1 (tgt := 32) (by omega) (by decide) rfl rfl ?_
    refine g_iload_n F 1 rfl rfl d_X2_acted_32 ?_
    refine g_iload_n F 2 rfl rfl d_X2_acted_33 ?_
    refine g_iadd F d_X2_acted_34 ?_
    refine g_bipush F (by decide) d_X2_acted_35 ?_
    refine g_iand F d_X2_acted_37 ?_
    exact hQ d_X2_acted_38 (⟨by simp [ac, hx], rfl⟩)
  · refine g_tabIn F d_X2_acted_1 ⟨by omega, by omega⟩ 3 (tgt := 39) (by omega) (by decide) rfl rfl ?_
    refine g_iload_n F 1 rfl rfl d_X2_acted_39 ?_
    refine g_iload_n F 2 rfl rfl d_X2_acted_40 ?_
    refine g_isub F d_X2_acted_41 ?_
    refine g_bipush F (by decide) d_X2_acted_42 ?_
    refine g_iand F d_X2_acted_44 ?_
    exact hQ d_X2_acted_45 (⟨by simp [ac, hx], rfl⟩)
  · refine g_tabOut F d_X2_acted_1 ⟨by omega, by omega⟩ (tgt := 53) (by omega) rfl ?_
    refine g_iload_n F 1 rfl rfl d_X2_acted_53 ?_
    refine g_iload_n F 2 rfl rfl d_X2_acted_54 ?_
    refine g_mmin F (own := RX2) (mg 591 (by decide +kernel) rfl) (by decide) (Nat.le_of_ble_eq_true rfl) ⟨Nat.zero_le _, Nat.zero_le _⟩ d_X2_acted_55 ⟨by omega, by omega⟩ ⟨by omega, by omega⟩ ?_
    exact hQ d_X2_acted_58 (⟨by simp [ac, hx], rfl⟩)
set_option maxHeartbeats 1000000 in
theorem c_X2_isAhead (l : Launch) (E : Ev) (q : Nat → Nat) (sh : List Shp) (σ : Sg) (hs : HsC sh) (x y : Int) (hx : 0 ≤ x ∧ x < 4) (hy : 0 ≤ y ∧ y < 8) (hT : 0 ≤ σ 28 x ∧ σ 28 x < 256) : CI l E yX2_isAhead cX2_isAhead 3 .boolean ({ frames := 1, cells := 0, slots := 0, locals := 20 } : Room) q sh σ [.ref (q 21), vI x, vI y] (is (if bt (σ 28 x) y = true then 1 else 0) σ) := by
  refine CB_of (own := RX2) (by decide) rfl (Nat.le_of_ble_eq_true rfl) (fun X Q F hQ => ?_)
  show G X E 3 q sh σ 0 0 Q 0 [(0, .ref (q 21)), (1, vI x), (2, vI y)] []
  refine g_iload_n F 1 rfl rfl d_X2_isAhead_0 ?_
  refine g_Ni F (own := RX2) (c_X8_isFunction l E q sh σ x ⟨by omega, by omega⟩) k_X2_104 [] d_X2_isAhead_1 ⟨rfl, rfl, by decide, by decide⟩ ⟨Nat.zero_le _, Nat.zero_le _⟩ rfl (Nat.le_of_ble_eq_true rfl) ?_
  rintro _ _ ⟨rfl, rfl⟩
  refine g_b_eq F d_X2_isAhead_4 (fun h4 => by exfalso; omega) (fun h4 => ?_)
  refine g_aload_n F 0 rfl rfl d_X2_isAhead_7 ?_
  refine g_getR F f_X2_30 d_X2_isAhead_8 (hsC_21 hs) rfl ?_
  refine g_iload_n F 1 rfl rfl d_X2_isAhead_11 ?_
  refine g_iaload F d_X2_isAhead_12 (hsC_28 hs) (by omega) (by omega) (by decide) ?_
  refine g_iload_n F 2 rfl rfl d_X2_isAhead_13 ?_
  refine g_ishr F d_X2_isAhead_14 ?_
  refine g_iconst F d_X2_isAhead_15 ?_
  refine g_iand F d_X2_isAhead_16 ?_
  refine G_top (b := b2 (bt (σ 28 x) y)) (bit_eq hT hy) ?_
  refine g_iconst F d_X2_isAhead_17 ?_
  have hb := b2_in (bt (σ 28 x) y)
  refine g_icmp_ne F d_X2_isAhead_18 ⟨by omega, by omega⟩ ⟨by decide, by decide⟩ (fun h18 => ?_) (fun h18 => ?_)
  · refine g_iconst F d_X2_isAhead_25 ?_
    exact hQ d_X2_isAhead_26 (Or.inl rfl) (⟨by first | (rw [if_pos (b2_t.mp h18)]; done) | (rw [if_neg (fun h => h18 (b2_t.mpr h))]; done), rfl⟩)
  · refine g_iconst F d_X2_isAhead_21 ?_
    refine g_goto F d_X2_isAhead_22 ?_
    exact hQ d_X2_isAhead_26 (Or.inr rfl) (⟨by first | (rw [if_pos (b2_t.mp h18)]; done) | (rw [if_neg (fun h => h18 (b2_t.mpr h))]; done), rfl⟩)
set_option maxHeartbeats 1000000 in
theorem c_X2_goOnCalling (l : Launch) (E : Ev) (q : Nat → Nat) (sh : List Shp) (σ : Sg) (hs : HsC sh) (p c k : Int) (hp : 0 ≤ p ∧ p < 120) (hg : 0 ≤ σ 9 p ∧ σ 9 p < 4) (hc : 0 ≤ c ∧ c ≤ 300) (hk : 0 ≤ k ∧ k ≤ nA (σ 9 p)) (hw : 0 ≤ σ 21 9 ∧ σ 21 9 < 300) (hA : AH σ) : CV l E yX2_goOnCalling cX2_goOnCalling 6 ({ frames := 2, cells := 0, slots := 0, locals := 43 } : Room) q sh σ [.ref (q 21), vI p, vI c, vI k] (isS (mCalling σ p c k)) := by
  have hn := nA_in (σ 9 p)
  refine CV_of (own := RX2) (by decide) rfl (Nat.le_of_ble_eq_true rfl) (fun X Q F hQ => ?_)
  show G X E 6 q sh σ 0 0 Q 0 [(0, .ref (q 21)), (1, vI p), (2, vI c), (3, vI k)] []
  refine g_aload_n F 0 rfl rfl d_X2_goOnCalling_0 ?_
  refine g_getR F f_X2_33 d_X2_goOnCalling_1 (hsC_21 hs) rfl ?_
  refine g_iload_n F 1 rfl rfl d_X2_goOnCalling_4 ?_
  refine g_Vi F (own := RX2) (c_X0_worthAt l E q sh σ hs.B p (by omega)) k_X2_114 (hsC_5 hs) rfl rfl [] d_X2_goOnCalling_5 ⟨rfl, rfl, by decide, by decide⟩ ⟨Nat.zero_le _, Nat.zero_le _⟩ rfl (Nat.le_of_ble_eq_true rfl) ?_
  rintro _ _ ⟨rfl, rfl⟩
  refine g_istore F (lv' := [(4, vI (σ 9 p)), (0, .ref (q 21)), (1, vI p), (2, vI c), (3, vI k)]) (by decide) rfl d_X2_goOnCalling_8 ?_
  refine g_iload_n F 4 rfl rfl d_X2_goOnCalling_10 ?_
  refine g_istore F (lv' := [(5, vI k), (4, vI (σ 9 p)), (0, .ref (q 21)), (1, vI p), (2, vI c), (3, vI k)]) (by decide) rfl d_X2_goOnCalling_11 ?_
  have loop13 : ∀ (nn : Nat) (t : Int), (0 ≤ t ∧ t ≤ nA (σ 9 p)) → (nx (σ 28 (σ 9 p)) (nA (σ 9 p)) t = nx (σ 28 (σ 9 p)) (nA (σ 9 p)) k) → (nA (σ 9 p) - t).toNat < nn → G X E 6 q sh σ 0 0 Q 13 [(0, .ref (q 21)), (1, vI p), (2, vI c), (3, vI k), (4, vI (σ 9 p)), (5, vI t)] [] := by
    intro n13
    induction n13 with
    | zero => intro t ht hx hm13; exact absurd hm13 (Nat.not_lt_zero _)
    | succ n13 ih13 =>
      intro t ht hx hm13
      refine g_iload F 5 rfl d_X2_goOnCalling_13 ?_
      refine g_iload F 4 rfl d_X2_goOnCalling_15 ?_
      refine g_Ni F (own := RX2) (c_X8_argumentsOf l E q sh σ (σ 9 p) ⟨by omega, by omega⟩) k_X2_91 [vI t] d_X2_goOnCalling_17 ⟨rfl, rfl, by decide, by decide⟩ ⟨Nat.zero_le _, Nat.zero_le _⟩ rfl (Nat.le_of_ble_eq_true rfl) ?_
      rintro _ _ ⟨rfl, rfl⟩
      refine g_icmp_ge F d_X2_goOnCalling_20 ⟨by omega, by omega⟩ ⟨by omega, by omega⟩ (fun h20 => ?_) (fun h20 => ?_)
      · refine g_aload_n F 0 rfl rfl d_X2_goOnCalling_59 ?_
        refine g_aload_n F 0 rfl rfl d_X2_goOnCalling_60 ?_
        refine g_getR F f_X2_33 d_X2_goOnCalling_61 (hsC_21 hs) rfl ?_
        refine g_iload F 4 rfl d_X2_goOnCalling_64 ?_
        refine g_Vi F (own := RX2) (c_X0_root l E q sh σ hs.B (σ 9 p) (by omega)) k_X2_64 (hsC_5 hs) rfl rfl [.ref (q 21)] d_X2_goOnCalling_66 ⟨rfl, rfl, by decide, by decide⟩ ⟨Nat.zero_le _, Nat.zero_le _⟩ rfl (Nat.le_of_ble_eq_true rfl) ?_
        rintro _ _ ⟨rfl, rfl⟩
        refine g_iload_n F 2 rfl rfl d_X2_goOnCalling_69 ?_
        refine g_Vv F (own := RX2) (c_X2_goTo l E q sh σ hs ((σ 9 p) * 30) c ) k_X2_70 (hsC_21 hs) rfl rfl [] d_X2_goOnCalling_70 ⟨rfl, rfl, by decide, by decide⟩ ⟨Nat.zero_le _, Nat.zero_le _⟩ rfl (Nat.le_of_ble_eq_true rfl) ?_
        rintro _ rfl
        exact hQ d_X2_goOnCalling_73 (by unfold mCalling; rw [← hx, nx_end (by omega), if_neg (by omega)])
      · refine g_aload_n F 0 rfl rfl d_X2_goOnCalling_23 ?_
        refine g_iload F 4 rfl d_X2_goOnCalling_24 ?_
        refine g_iload F 5 rfl d_X2_goOnCalling_26 ?_
        refine g_Vi F (own := RX2) (c_X2_isAhead l E q sh σ hs (σ 9 p) t hg (by omega) (hA _)) k_X2_100 (hsC_21 hs) rfl rfl [] d_X2_goOnCalling_28 ⟨rfl, rfl, by decide, by decide⟩ ⟨Nat.zero_le _, Nat.zero_le _⟩ rfl (Nat.le_of_ble_eq_true rfl) ?_
        rintro _ _ ⟨rfl, rfl⟩
        refine g_b_eq F d_X2_goOnCalling_31 (fun h31 => ?_) (fun h31 => ?_)
        · refine g_iinc F (lv' := [(5, vI (t + 1)), (0, .ref (q 21)), (1, vI p), (2, vI c), (3, vI k), (4, vI (σ 9 p))]) 5 rfl rfl (by decide) rfl d_X2_goOnCalling_53 ?_
          refine g_goto F d_X2_goOnCalling_56 ?_
          refine G_sub (ks := [1, 2, 3, 4, 5, 0]) rfl ?_
          exact ih13 (t + 1) (by omega) (by rw [← hx]; exact (nx_no (by omega) h31).symm) (by omega)
        · refine g_aload_n F 0 rfl rfl d_X2_goOnCalling_34 ?_
          refine g_iload_n F 1 rfl rfl d_X2_goOnCalling_35 ?_
          refine g_iload_n F 2 rfl rfl d_X2_goOnCalling_36 ?_
          refine g_iload F 5 rfl d_X2_goOnCalling_37 ?_
          refine g_Vv F (own := RX2) (c_X2_await l E q sh σ hs p c t hw) k_X2_131 (hsC_21 hs) rfl rfl [] d_X2_goOnCalling_39 ⟨rfl, rfl, by decide, by decide⟩ ⟨Nat.zero_le _, Nat.zero_le _⟩ rfl (Nat.le_of_ble_eq_true rfl) ?_
          rintro _ rfl
          refine g_aload_n F 0 rfl rfl d_X2_goOnCalling_42 ?_
          refine g_iload_n F 2 rfl rfl d_X2_goOnCalling_43 ?_
          refine g_iload F 5 rfl d_X2_goOnCalling_44 ?_
          refine g_Si F (own := RX2) (c_X2_slotOf l E q sh (mWait σ p c t) c t ) k_X2_124 [.ref (q 21)] d_X2_goOnCalling_46 ⟨rfl, rfl, by decide, by decide⟩ ⟨Nat.zero_le _, Nat.zero_le _⟩ rfl (Nat.le_of_ble_eq_true rfl) ?_
          rintro _ _ ⟨rfl, rfl⟩
          refine g_Vv F (own := RX2) (c_X2_goToSlot l E q sh (mWait σ p c t) hs (c * 3 + t) (by omega)) k_X2_138 (hsC_21 hs) rfl rfl [] d_X2_goOnCalling_49 ⟨rfl, rfl, by decide, by decide⟩ ⟨Nat.zero_le _, Nat.zero_le _⟩ rfl (Nat.le_of_ble_eq_true rfl) ?_
          rintro _ rfl
          exact hQ d_X2_goOnCalling_52 (by unfold mCalling; rw [← hx, nx_yes (by omega) h31, if_pos (by omega)])
  refine G_sub (ks := [2, 3, 4, 5, 1, 0]) rfl ?_
  exact loop13 _ k (by omega) rfl (Nat.lt_succ_self _)
set_option maxHeartbeats 1000000 in
theorem c_X2_goOnActing (l : Launch) (E : Ev) (q : Nat → Nat) (sh : List Shp) (σ : Sg) (hs : HsC sh) (p c h : Int) (hp : 0 ≤ p ∧ p < 119) (hh : h = -1 ∨ (0 ≤ h ∧ h < 8)) (hv : 0 ≤ σ 21 17 ∧ σ 21 17 < 8) (hw : 0 ≤ σ 21 9 ∧ σ 21 9 < 300) (hx : σ 9 p = 42 ∨ σ 9 p = 43 ∨ σ 9 p = 45 ∨ σ 9 p = 109) : CV l E yX2_goOnActing cX2_goOnActing 4 ({ frames := 2, cells := 0, slots := 0, locals := 43 } : Room) q sh σ [.ref (q 21), vI p, vI c, vI h] (isS (mActing σ p c h)) := by
  refine CV_of (own := RX2) (by decide) rfl (Nat.le_of_ble_eq_true rfl) (fun X Q F hQ => ?_)
  show G X E 4 q sh σ 0 0 Q 0 [(0, .ref (q 21)), (1, vI p), (2, vI c), (3, vI h)] []
  refine g_iload_n F 3 rfl rfl d_X2_goOnActing_0 ?_
  refine g_iconst F d_X2_goOnActing_1 ?_
  refine g_icmp_ne F d_X2_goOnActing_2 ⟨by omega, by omega⟩ ⟨by decide, by decide⟩ (fun h2 => ?_) (fun h2 => ?_)
  · refine g_aload_n F 0 rfl rfl d_X2_goOnActing_32 ?_
    refine g_aload_n F 0 rfl rfl d_X2_goOnActing_33 ?_
    refine g_getR F f_X2_33 d_X2_goOnActing_34 (hsC_21 hs) rfl ?_
    refine g_iload_n F 1 rfl rfl d_X2_goOnActing_37 ?_
    refine g_Vi F (own := RX2) (c_X0_worthAt l E q sh σ hs.B p (by omega)) k_X2_114 (hsC_5 hs) rfl rfl [.ref (q 21)] d_X2_goOnActing_38 ⟨rfl, rfl, by decide, by decide⟩ ⟨Nat.zero_le _, Nat.zero_le _⟩ rfl (Nat.le_of_ble_eq_true rfl) ?_
    rintro _ _ ⟨rfl, rfl⟩
    refine g_iload_n F 3 rfl rfl d_X2_goOnActing_41 ?_
    refine g_aload_n F 0 rfl rfl d_X2_goOnActing_42 ?_
    refine g_getI F 17 f_X2_150 d_X2_goOnActing_43 (hsC_21 hs) rfl rfl ?_
    refine g_Si F (own := RX2) (c_X2_acted l E q sh σ (σ 9 p) h (σ 21 17) hx (by omega) hv) k_X2_156 [.ref (q 21)] d_X2_goOnActing_46 ⟨rfl, rfl, by decide, by decide⟩ ⟨Nat.zero_le _, Nat.zero_le _⟩ rfl (Nat.le_of_ble_eq_true rfl) ?_
    rintro _ _ ⟨rfl, rfl⟩
    refine g_Vv F (own := RX2) (c_X2_give l E q sh σ hs (ac (σ 9 p) h (σ 21 17)) ) k_X2_117 (hsC_21 hs) rfl rfl [] d_X2_goOnActing_49 ⟨rfl, rfl, by decide, by decide⟩ ⟨Nat.zero_le _, Nat.zero_le _⟩ rfl (Nat.le_of_ble_eq_true rfl) ?_
    rintro _ rfl
    exact hQ d_X2_goOnActing_52 (by unfold mActing; first | (rw [if_pos (by omega)]; done) | (rw [if_neg (by omega)]; done))
  · refine g_aload_n F 0 rfl rfl d_X2_goOnActing_5 ?_
    refine g_iload_n F 1 rfl rfl d_X2_goOnActing_6 ?_
    refine g_iload_n F 2 rfl rfl d_X2_goOnActing_7 ?_
    refine g_aload_n F 0 rfl rfl d_X2_goOnActing_8 ?_
    refine g_getI F 17 f_X2_150 d_X2_goOnActing_9 (hsC_21 hs) rfl rfl ?_
    refine g_Vv F (own := RX2) (c_X2_await l E q sh σ hs p c (σ 21 17) hw) k_X2_131 (hsC_21 hs) rfl rfl [] d_X2_goOnActing_12 ⟨rfl, rfl, by decide, by decide⟩ ⟨Nat.zero_le _, Nat.zero_le _⟩ rfl (Nat.le_of_ble_eq_true rfl) ?_
    rintro _ rfl
    refine g_aload_n F 0 rfl rfl d_X2_goOnActing_15 ?_
    refine g_aload_n F 0 rfl rfl d_X2_goOnActing_16 ?_
    refine g_getR F f_X2_33 d_X2_goOnActing_17 (hsC_21 hs) rfl ?_
    refine g_iload_n F 1 rfl rfl d_X2_goOnActing_20 ?_
    refine g_iconst F d_X2_goOnActing_21 ?_
    refine g_Vi F (own := RX2) (c_X0_textPlace l E q sh (mWait σ p c (σ 21 17)) hs.B p 1 (by omega) (by decide) (fun j h0 h1 => by rw [show j = 0 by omega, tp_0]; omega)) k_X2_141 (hsC_5 hs) rfl rfl [.ref (q 21)] d_X2_goOnActing_22 ⟨rfl, rfl, by decide, by decide⟩ ⟨Nat.zero_le _, Nat.zero_le _⟩ rfl (Nat.le_of_ble_eq_true rfl) ?_
    rintro _ _ ⟨rfl, rfl⟩
    refine G_top (b := tp (σ 10) p 1) (by rw [mWait_10]) ?_
    refine g_iload_n F 2 rfl rfl d_X2_goOnActing_25 ?_
    refine g_Vv F (own := RX2) (c_X2_goTo l E q sh (mWait σ p c (σ 21 17)) hs (tp (σ 10) p 1) c ) k_X2_70 (hsC_21 hs) rfl rfl [] d_X2_goOnActing_26 ⟨rfl, rfl, by decide, by decide⟩ ⟨Nat.zero_le _, Nat.zero_le _⟩ rfl (Nat.le_of_ble_eq_true rfl) ?_
    rintro _ rfl
    refine g_goto F d_X2_goOnActing_29 ?_
    exact hQ d_X2_goOnActing_52 (by unfold mActing; first | (rw [if_pos (by omega)]; done) | (rw [if_neg (by omega)]; done))
set_option maxHeartbeats 1000000 in
theorem c_X2_beginArgument (l : Launch) (E : Ev) (q : Nat → Nat) (sh : List Shp) (σ : Sg) (hs : HsC sh) (s : Int) (hs0 : 0 ≤ s ∧ s < 903) (hh : -1 ≤ σ 22 s ∧ σ 22 s ≤ 8) (hw : 0 ≤ σ 21 9 ∧ σ 21 9 < 300) (hy : 0 ≤ σ 21 10 ∧ σ 21 10 < 4) : CV l E yX2_beginArgument cX2_beginArgument 3 ({ frames := 2, cells := 0, slots := 0, locals := 43 } : Room) q sh σ [.ref (q 21), vI s] (isS (mArg σ s)) := by
  refine CV_of (own := RX2) (by decide) rfl (Nat.le_of_ble_eq_true rfl) (fun X Q F hQ => ?_)
  show G X E 3 q sh σ 0 0 Q 0 [(0, .ref (q 21)), (1, vI s)] []
  refine g_aload_n F 0 rfl rfl d_X2_beginArgument_0 ?_
  refine g_iload_n F 1 rfl rfl d_X2_beginArgument_1 ?_
  refine g_Vi F (own := RX2) (c_X2_heldIn l E q sh σ hs s (by omega)) k_X2_97 (hsC_21 hs) rfl rfl [] d_X2_beginArgument_2 ⟨rfl, rfl, by decide, by decide⟩ ⟨Nat.zero_le _, Nat.zero_le _⟩ rfl (Nat.le_of_ble_eq_true rfl) ?_
  rintro _ _ ⟨rfl, rfl⟩
  refine g_istore_n F (lv' := [(2, vI (σ 22 s)), (0, .ref (q 21)), (1, vI s)]) rfl (by decide) rfl d_X2_beginArgument_5 ?_
  refine g_iload_n F 0 rfl rfl d_X2_beginArgument_6 ?_
  refine g_bipush F (by decide) d_X2_beginArgument_7 ?_
  refine g_icmp_ne F d_X2_beginArgument_9 ⟨by omega, by omega⟩ ⟨by decide, by decide⟩ (fun h9 => ?_) (fun h9 => ?_)
  · refine g_iload_n F 0 rfl rfl d_X2_beginArgument_21 ?_
    refine g_iconst F d_X2_beginArgument_22 ?_
    refine g_icmp_eq F d_X2_beginArgument_23 ⟨by omega, by omega⟩ ⟨by decide, by decide⟩ (fun h23 => ?_) (fun h23 => ?_)
    · refine g_aload_n F 1 rfl rfl d_X2_beginArgument_34 ?_
      refine g_getI F 10 f_X2_48 d_X2_beginArgument_35 (hsC_21 hs) rfl rfl ?_
      refine g_if_eq F d_X2_beginArgument_38 ⟨by omega, by omega⟩ (fun h38 => ?_) (fun h38 => ?_)
      · refine g_aload_n F 1 rfl rfl d_X2_beginArgument_54 ?_
        refine g_iload_n F 2 rfl rfl d_X2_beginArgument_55 ?_
        refine g_Vv F (own := RX2) (c_X2_goToSlot l E q sh σ hs s (by omega)) k_X2_138 (hsC_21 hs) rfl rfl [] d_X2_beginArgument_56 ⟨rfl, rfl, by decide, by decide⟩ ⟨Nat.zero_le _, Nat.zero_le _⟩ rfl (Nat.le_of_ble_eq_true rfl) ?_
        rintro _ rfl
        exact hQ d_X2_beginArgument_59 (by unfold mArg; first | (rw [if_pos (by omega)]; done) | (rw [if_neg (by omega), if_neg (by omega)]; done) | (rw [if_neg (by omega), if_pos (by omega), if_pos (by omega)]; done) | (rw [if_neg (by omega), if_pos (by omega), if_neg (by omega)]; done))
      · refine g_aload_n F 1 rfl rfl d_X2_beginArgument_41 ?_
        refine g_aload_n F 1 rfl rfl d_X2_beginArgument_42 ?_
        refine g_getI F 14 f_X2_108 d_X2_beginArgument_43 (hsC_21 hs) rfl rfl ?_
        refine g_aload_n F 1 rfl rfl d_X2_beginArgument_46 ?_
        refine g_getI F 15 f_X2_121 d_X2_beginArgument_47 (hsC_21 hs) rfl rfl ?_
        refine g_iconst F d_X2_beginArgument_50 ?_
        refine g_Vv F (own := RX2) (c_X2_await l E q sh σ hs (σ 21 14) (σ 21 15) (-1) hw) k_X2_131 (hsC_21 hs) rfl rfl [] d_X2_beginArgument_51 ⟨rfl, rfl, by decide, by decide⟩ ⟨Nat.zero_le _, Nat.zero_le _⟩ rfl (Nat.le_of_ble_eq_true rfl) ?_
        rintro _ rfl
        refine g_aload_n F 1 rfl rfl d_X2_beginArgument_54 ?_
        refine g_iload_n F 2 rfl rfl d_X2_beginArgument_55 ?_
        refine g_Vv F (own := RX2) (c_X2_goToSlot l E q sh (mWait σ (σ 21 14) (σ 21 15) (-1)) hs s (by omega)) k_X2_138 (hsC_21 hs) rfl rfl [] d_X2_beginArgument_56 ⟨rfl, rfl, by decide, by decide⟩ ⟨Nat.zero_le _, Nat.zero_le _⟩ rfl (Nat.le_of_ble_eq_true rfl) ?_
        rintro _ rfl
        exact hQ d_X2_beginArgument_59 (by unfold mArg; first | (rw [if_pos (by omega)]; done) | (rw [if_neg (by omega), if_neg (by omega)]; done) | (rw [if_neg (by omega), if_pos (by omega), if_pos (by omega)]; done) | (rw [if_neg (by omega), if_pos (by omega), if_neg (by omega)]; done))
    · refine g_aload_n F 1 rfl rfl d_X2_beginArgument_26 ?_
      refine g_iload_n F 0 rfl rfl d_X2_beginArgument_27 ?_
      refine g_Vv F (own := RX2) (c_X2_give l E q sh σ hs (σ 22 s) ) k_X2_117 (hsC_21 hs) rfl rfl [] d_X2_beginArgument_28 ⟨rfl, rfl, by decide, by decide⟩ ⟨Nat.zero_le _, Nat.zero_le _⟩ rfl (Nat.le_of_ble_eq_true rfl) ?_
      rintro _ rfl
      refine g_goto F d_X2_beginArgument_31 ?_
      exact hQ d_X2_beginArgument_59 (by unfold mArg; first | (rw [if_pos (by omega)]; done) | (rw [if_neg (by omega), if_neg (by omega)]; done) | (rw [if_neg (by omega), if_pos (by omega), if_pos (by omega)]; done) | (rw [if_neg (by omega), if_pos (by omega), if_neg (by omega)]; done))
  · refine g_aload_n F 1 rfl rfl d_X2_beginArgument_12 ?_
    refine g_bipush F (by decide) d_X2_beginArgument_13 ?_
    refine g_putI F 12 f_X2_41 d_X2_beginArgument_15 (hsC_21 hs) rfl rfl rfl rfl rfl ?_
    refine g_goto F d_X2_beginArgument_18 ?_
    exact hQ d_X2_beginArgument_59 (by unfold mArg; first | (rw [if_pos (by omega)]; done) | (rw [if_neg (by omega), if_neg (by omega)]; done) | (rw [if_neg (by omega), if_pos (by omega), if_pos (by omega)]; done) | (rw [if_neg (by omega), if_pos (by omega), if_neg (by omega)]; done))
set_option maxHeartbeats 1000000 in
theorem c_X2_beginCall (l : Launch) (E : Ev) (q : Nat → Nat) (sh : List Shp) (σ : Sg) (hs : HsC sh) (g : Int) (hg : 0 ≤ g ∧ g < 4) (hsc : 1 ≤ σ 21 5 ∧ σ 21 5 < 301) (hp : 0 ≤ σ 21 14 ∧ σ 21 14 < 120) (hgp : σ 9 (σ 21 14) = g) (hh : ∀ j : Int, 0 ≤ j → j < nA g → 0 ≤ tp (σ 10) (σ 21 14) j ∧ tp (σ 10) (σ 21 14) j < 120) (hw : 0 ≤ σ 21 9 ∧ σ 21 9 < 300) (hA : AH σ) : CV l E yX2_beginCall cX2_beginCall 4 ({ frames := 3, cells := 0, slots := 0, locals := 68 } : Room) q sh σ [.ref (q 21), vI g] (isS (mCall σ g)) := by
  have hn := nA_in g
  obtain ⟨σ1, e1⟩ : ∃ s, s = up σ 21 5 (σ 21 5 + 1) := ⟨_, rfl⟩
  have f10 : σ1 10 = σ 10 := by rw [e1]; exact up_ne _ (by decide) _ _
  have f9 : σ1 9 = σ 9 := by rw [e1]; exact up_ne _ (by decide) _ _
  have f28 : σ1 28 = σ 28 := by rw [e1]; exact up_ne _ (by decide) _ _
  have f21 : ∀ j, j ≠ 5 → σ1 21 j = σ 21 j := fun j hj => by rw [e1]; exact up_other _ _ hj _
  refine CV_of (own := RX2) (by decide) rfl (Nat.le_of_ble_eq_true rfl) (fun X Q F hQ => ?_)
  show G X E 4 q sh σ 0 0 Q 0 [(0, .ref (q 21)), (1, vI g)] []
  refine g_aload_n F 0 rfl rfl d_X2_beginCall_0 ?_
  refine g_getI F 5 f_X2_54 d_X2_beginCall_1 (hsC_21 hs) rfl rfl ?_
  refine g_sipush F (by decide) d_X2_beginCall_4 ?_
  refine g_icmp_lt F d_X2_beginCall_7 ⟨by omega, by omega⟩ ⟨by decide, by decide⟩ (fun h7 => ?_) (fun h7 => by exfalso; omega)
  refine g_aload_n F 0 rfl rfl d_X2_beginCall_17 ?_
  refine g_getI F 5 f_X2_54 d_X2_beginCall_18 (hsC_21 hs) rfl rfl ?_
  refine g_istore_n F (lv' := [(2, vI (σ 21 5)), (0, .ref (q 21)), (1, vI g)]) rfl (by decide) rfl d_X2_beginCall_21 ?_
  refine g_aload_n F 1 rfl rfl d_X2_beginCall_22 ?_
  refine g_dup F rfl d_X2_beginCall_23 ?_
  refine g_getI F 5 f_X2_54 d_X2_beginCall_24 (hsC_21 hs) rfl rfl ?_
  refine g_iconst F d_X2_beginCall_27 ?_
  refine g_iadd F d_X2_beginCall_28 ?_
  refine g_putI F 5 f_X2_54 d_X2_beginCall_29 (hsC_21 hs) rfl rfl rfl rfl rfl ?_
  refine g_iconst F d_X2_beginCall_32 ?_
  refine g_istore_n F (lv' := [(3, vI 0), (2, vI (σ 21 5)), (0, .ref (q 21)), (1, vI g)]) rfl (by decide) rfl d_X2_beginCall_33 ?_
  have loop34 : ∀ (nn : Nat) (t : Int) (τ : Sg), (0 ≤ t ∧ t ≤ nA g) → (τ = hangs σ1 (σ 21 5) (σ 21 14) (σ 21 15) t.toNat) → (nA g - t).toNat < nn → G X E 4 q sh τ 0 0 Q 34 [(0, .ref (q 21)), (1, vI g), (2, vI (σ 21 5)), (3, vI t)] [] := by
    intro n34
    induction n34 with
    | zero => intro t τ ht hτ hm34; exact absurd hm34 (Nat.not_lt_zero _)
    | succ n34 ih34 =>
      intro t τ ht hτ hm34
      have hm : Sm [22, 23, 24] σ1 τ := by rw [hτ]; exact hangs_Sm _ _ _ _ _
      have g10 : τ 10 = σ 10 := (hm 10 (by decide)).trans f10
      have g9 : τ 9 = σ 9 := (hm 9 (by decide)).trans f9
      have g28 : τ 28 = σ 28 := (hm 28 (by decide)).trans f28
      have g14 : τ 21 14 = σ 21 14 := by rw [hm 21 (by decide)]; exact f21 14 (by decide)
      have g15 : τ 21 15 = σ 21 15 := by rw [hm 21 (by decide)]; exact f21 15 (by decide)
      have gw : τ 21 9 = σ 21 9 := by rw [hm 21 (by decide)]; exact f21 9 (by decide)
      refine g_iload_n F 3 rfl rfl d_X2_beginCall_34 ?_
      refine g_iload_n F 1 rfl rfl d_X2_beginCall_35 ?_
      refine g_Ni F (own := RX2) (c_X8_argumentsOf l E q sh τ g ⟨by omega, by omega⟩) k_X2_91 [vI t] d_X2_beginCall_36 ⟨rfl, rfl, by decide, by decide⟩ ⟨Nat.zero_le _, Nat.zero_le _⟩ rfl (Nat.le_of_ble_eq_true rfl) ?_
      rintro _ _ ⟨rfl, rfl⟩
      refine g_icmp_ge F d_X2_beginCall_39 ⟨by omega, by omega⟩ ⟨by omega, by omega⟩ (fun h39 => ?_) (fun h39 => ?_)
      · refine g_aload_n F 0 rfl rfl d_X2_beginCall_73 ?_
        refine g_aload_n F 0 rfl rfl d_X2_beginCall_74 ?_
        refine g_getI F 14 f_X2_108 d_X2_beginCall_75 (hsC_21 hs) rfl rfl ?_
        refine G_top (b := σ 21 14) (g14) ?_
        refine g_iload_n F 2 rfl rfl d_X2_beginCall_78 ?_
        refine g_iconst F d_X2_beginCall_79 ?_
        refine g_Vv F (own := RX2) (c_X2_goOnCalling l E q sh τ hs (σ 21 14) (σ 21 5) 0 hp (by rw [g9]; omega) (by omega) (by rw [g9, hgp]; omega) (by omega) (fun f => by rw [g28]; exact hA f)) k_X2_147 (hsC_21 hs) rfl rfl [] d_X2_beginCall_80 ⟨rfl, rfl, by decide, by decide⟩ ⟨Nat.zero_le _, Nat.zero_le _⟩ rfl (Nat.le_of_ble_eq_true rfl) ?_
        rintro _ rfl
        exact hQ d_X2_beginCall_83 (by unfold mCall; rw [← e1, hτ, show t = nA g by omega])
      · refine g_aload_n F 0 rfl rfl d_X2_beginCall_42 ?_
        refine g_iload_n F 2 rfl rfl d_X2_beginCall_43 ?_
        refine g_iload_n F 3 rfl rfl d_X2_beginCall_44 ?_
        refine g_Si F (own := RX2) (c_X2_slotOf l E q sh τ (σ 21 5) t ) k_X2_124 [.ref (q 21)] d_X2_beginCall_45 ⟨rfl, rfl, by decide, by decide⟩ ⟨Nat.zero_le _, Nat.zero_le _⟩ rfl (Nat.le_of_ble_eq_true rfl) ?_
        rintro _ _ ⟨rfl, rfl⟩
        refine g_aload_n F 0 rfl rfl d_X2_beginCall_48 ?_
        refine g_getR F f_X2_33 d_X2_beginCall_49 (hsC_21 hs) rfl ?_
        refine g_aload_n F 0 rfl rfl d_X2_beginCall_52 ?_
        refine g_getI F 14 f_X2_108 d_X2_beginCall_53 (hsC_21 hs) rfl rfl ?_
        refine G_top (b := σ 21 14) (g14) ?_
        refine g_iload_n F 3 rfl rfl d_X2_beginCall_56 ?_
        refine g_Vi F (own := RX2) (c_X0_textPlace l E q sh τ hs.B (σ 21 14) t hp (by omega) (fun j h0 h1 => by rw [g10]; exact hh j h0 (by omega))) k_X2_141 (hsC_5 hs) rfl rfl [vI ((σ 21 5) * 3 + t), .ref (q 21)] d_X2_beginCall_57 ⟨rfl, rfl, by decide, by decide⟩ ⟨Nat.zero_le _, Nat.zero_le _⟩ rfl (Nat.le_of_ble_eq_true rfl) ?_
        rintro _ _ ⟨rfl, rfl⟩
        refine G_top (b := tp (σ 10) (σ 21 14) t) (by rw [g10]) ?_
        refine g_aload_n F 0 rfl rfl d_X2_beginCall_60 ?_
        refine g_getI F 15 f_X2_121 d_X2_beginCall_61 (hsC_21 hs) rfl rfl ?_
        refine G_top (b := σ 21 15) (g15) ?_
        refine g_Vv F (own := RX2) (c_X2_hang l E q sh τ hs ((σ 21 5) * 3 + t) (tp (σ 10) (σ 21 14) t) (σ 21 15) (by omega)) k_X2_144 (hsC_21 hs) rfl rfl [] d_X2_beginCall_64 ⟨rfl, rfl, by decide, by decide⟩ ⟨Nat.zero_le _, Nat.zero_le _⟩ rfl (Nat.le_of_ble_eq_true rfl) ?_
        rintro _ rfl
        refine g_iinc F (lv' := [(3, vI (t + 1)), (0, .ref (q 21)), (1, vI g), (2, vI (σ 21 5))]) 3 rfl rfl (by decide) rfl d_X2_beginCall_67 ?_
        refine g_goto F d_X2_beginCall_70 ?_
        refine G_sub (ks := [1, 2, 3, 0]) rfl ?_
        exact ih34 (t + 1) (mHang τ ((σ 21 5) * 3 + t) (tp (σ 10) (σ 21 14) t) (σ 21 15)) (by omega) (by rw [show (t + 1).toNat = t.toNat + 1 by omega, hangs, ← hτ, f10, show ((t.toNat : Nat) : Int) = t by omega]) (by omega)
  refine G_sub (ks := [2, 3, 1, 0]) rfl ?_
  exact loop34 _ 0 (up σ 21 5 ((σ 21 5) + 1)) (by omega) e1.symm (Nat.lt_succ_self _)
end
