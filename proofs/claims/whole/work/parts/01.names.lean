-- ===== PART A: goes FIRST, ahead of the names: the tables' words, and 'selects' of the private methods out of them =====
/-- a private method of a class that the tables say can be made, by its rows of tables_1 -/
def lw_okq (q : MethodName × Nat) : Prop := (q.1.cls ≠ "java/lang/invoke/MethodHandle" ∧ q.1.cls ≠ "java/lang/invoke/VarHandle") ∧ Cond.instantiable q.1.cls q.2 ∈ tables_1 ∧ Cond.privateMethod q.1 ∈ tables_1 ∧ Cond.instanceMethod q.1 ∈ tables_1
theorem lw_p0 : lw_okq (⟨"NeedTables$Bodies", "setSign", "(II)V"⟩, 6) := ⟨⟨by decide +kernel, by decide +kernel⟩, List.mem_of_getElem? (i := 49) (by decide +kernel), List.mem_of_getElem? (i := 62) (by decide +kernel), List.mem_of_getElem? (i := 63) (by decide +kernel)⟩
theorem lw_p1 : lw_okq (⟨"NeedTables$Bodies", "measure", "(I)V"⟩, 6) := ⟨⟨by decide +kernel, by decide +kernel⟩, List.mem_of_getElem? (i := 49) (by decide +kernel), List.mem_of_getElem? (i := 76) (by decide +kernel), List.mem_of_getElem? (i := 77) (by decide +kernel)⟩
theorem lw_p2 : lw_okq (⟨"NeedTables$Bodies", "setSpan", "(II)V"⟩, 6) := ⟨⟨by decide +kernel, by decide +kernel⟩, List.mem_of_getElem? (i := 49) (by decide +kernel), List.mem_of_getElem? (i := 102) (by decide +kernel), List.mem_of_getElem? (i := 103) (by decide +kernel)⟩
theorem lw_p3 : lw_okq (⟨"NeedTables$Bodies", "setDepth", "(II)V"⟩, 6) := ⟨⟨by decide +kernel, by decide +kernel⟩, List.mem_of_getElem? (i := 49) (by decide +kernel), List.mem_of_getElem? (i := 106) (by decide +kernel), List.mem_of_getElem? (i := 107) (by decide +kernel)⟩
theorem lw_p4 : lw_okq (⟨"NeedTables$Tables", "fillRows", "()V"⟩, 4) := ⟨⟨by decide +kernel, by decide +kernel⟩, List.mem_of_getElem? (i := 133) (by decide +kernel), List.mem_of_getElem? (i := 253) (by decide +kernel), List.mem_of_getElem? (i := 254) (by decide +kernel)⟩
theorem lw_p5 : lw_okq (⟨"NeedTables$Tables", "rowOf", "(I)I"⟩, 4) := ⟨⟨by decide +kernel, by decide +kernel⟩, List.mem_of_getElem? (i := 133) (by decide +kernel), List.mem_of_getElem? (i := 259) (by decide +kernel), List.mem_of_getElem? (i := 260) (by decide +kernel)⟩
theorem lw_p6 : lw_okq (⟨"NeedTables$Tables", "textRow", "(II)I"⟩, 4) := ⟨⟨by decide +kernel, by decide +kernel⟩, List.mem_of_getElem? (i := 133) (by decide +kernel), List.mem_of_getElem? (i := 276) (by decide +kernel), List.mem_of_getElem? (i := 277) (by decide +kernel)⟩
theorem lw_p7 : lw_okq (⟨"NeedTables$Tables", "callRow", "(II)I"⟩, 4) := ⟨⟨by decide +kernel, by decide +kernel⟩, List.mem_of_getElem? (i := 133) (by decide +kernel), List.mem_of_getElem? (i := 282) (by decide +kernel), List.mem_of_getElem? (i := 283) (by decide +kernel)⟩
theorem lw_p8 : lw_okq (⟨"NeedTables$Tables", "setRow", "(II)V"⟩, 4) := ⟨⟨by decide +kernel, by decide +kernel⟩, List.mem_of_getElem? (i := 133) (by decide +kernel), List.mem_of_getElem? (i := 292) (by decide +kernel), List.mem_of_getElem? (i := 293) (by decide +kernel)⟩
theorem lw_p9 : lw_okq (⟨"NeedTables$Tables", "takeRoots", "()Z"⟩, 4) := ⟨⟨by decide +kernel, by decide +kernel⟩, List.mem_of_getElem? (i := 133) (by decide +kernel), List.mem_of_getElem? (i := 296) (by decide +kernel), List.mem_of_getElem? (i := 297) (by decide +kernel)⟩
theorem lw_p10 : lw_okq (⟨"NeedTables$Tables", "rowAt", "(I)I"⟩, 4) := ⟨⟨by decide +kernel, by decide +kernel⟩, List.mem_of_getElem? (i := 133) (by decide +kernel), List.mem_of_getElem? (i := 300) (by decide +kernel), List.mem_of_getElem? (i := 301) (by decide +kernel)⟩
theorem lw_p11 : lw_okq (⟨"NeedTables$Counts", "countIn", "(II)I"⟩, 4) := ⟨⟨by decide +kernel, by decide +kernel⟩, List.mem_of_getElem? (i := 152) (by decide +kernel), List.mem_of_getElem? (i := 321) (by decide +kernel), List.mem_of_getElem? (i := 322) (by decide +kernel)⟩
theorem lw_p12 : lw_okq (⟨"NeedTables$Counts", "countOf", "(II)I"⟩, 4) := ⟨⟨by decide +kernel, by decide +kernel⟩, List.mem_of_getElem? (i := 152) (by decide +kernel), List.mem_of_getElem? (i := 327) (by decide +kernel), List.mem_of_getElem? (i := 328) (by decide +kernel)⟩
theorem lw_p13 : lw_okq (⟨"NeedTables$Counts", "textCount", "(II)I"⟩, 4) := ⟨⟨by decide +kernel, by decide +kernel⟩, List.mem_of_getElem? (i := 152) (by decide +kernel), List.mem_of_getElem? (i := 333) (by decide +kernel), List.mem_of_getElem? (i := 334) (by decide +kernel)⟩
theorem lw_p14 : lw_okq (⟨"NeedTables$Counts", "callCount", "(II)I"⟩, 4) := ⟨⟨by decide +kernel, by decide +kernel⟩, List.mem_of_getElem? (i := 152) (by decide +kernel), List.mem_of_getElem? (i := 345) (by decide +kernel), List.mem_of_getElem? (i := 346) (by decide +kernel)⟩
theorem lw_p15 : lw_okq (⟨"NeedTables$Counts", "setCount", "(II)V"⟩, 4) := ⟨⟨by decide +kernel, by decide +kernel⟩, List.mem_of_getElem? (i := 152) (by decide +kernel), List.mem_of_getElem? (i := 355) (by decide +kernel), List.mem_of_getElem? (i := 356) (by decide +kernel)⟩
def lw_privs_1 : List (MethodName × Nat) := [(⟨"NeedTables$Bodies", "setSign", "(II)V"⟩, 6), (⟨"NeedTables$Bodies", "measure", "(I)V"⟩, 6), (⟨"NeedTables$Bodies", "setSpan", "(II)V"⟩, 6), (⟨"NeedTables$Bodies", "setDepth", "(II)V"⟩, 6), (⟨"NeedTables$Tables", "fillRows", "()V"⟩, 4), (⟨"NeedTables$Tables", "rowOf", "(I)I"⟩, 4), (⟨"NeedTables$Tables", "textRow", "(II)I"⟩, 4), (⟨"NeedTables$Tables", "callRow", "(II)I"⟩, 4), (⟨"NeedTables$Tables", "setRow", "(II)V"⟩, 4), (⟨"NeedTables$Tables", "takeRoots", "()Z"⟩, 4), (⟨"NeedTables$Tables", "rowAt", "(I)I"⟩, 4), (⟨"NeedTables$Counts", "countIn", "(II)I"⟩, 4), (⟨"NeedTables$Counts", "countOf", "(II)I"⟩, 4), (⟨"NeedTables$Counts", "textCount", "(II)I"⟩, 4), (⟨"NeedTables$Counts", "callCount", "(II)I"⟩, 4), (⟨"NeedTables$Counts", "setCount", "(II)V"⟩, 4)]
theorem lw_r1 : ∀ q ∈ lw_privs_1, lw_okq q := List.forall_mem_cons.mpr ⟨lw_p0, List.forall_mem_cons.mpr ⟨lw_p1, List.forall_mem_cons.mpr ⟨lw_p2, List.forall_mem_cons.mpr ⟨lw_p3, List.forall_mem_cons.mpr ⟨lw_p4, List.forall_mem_cons.mpr ⟨lw_p5, List.forall_mem_cons.mpr ⟨lw_p6, List.forall_mem_cons.mpr ⟨lw_p7, List.forall_mem_cons.mpr ⟨lw_p8, List.forall_mem_cons.mpr ⟨lw_p9, List.forall_mem_cons.mpr ⟨lw_p10, List.forall_mem_cons.mpr ⟨lw_p11, List.forall_mem_cons.mpr ⟨lw_p12, List.forall_mem_cons.mpr ⟨lw_p13, List.forall_mem_cons.mpr ⟨lw_p14, List.forall_mem_cons.mpr ⟨lw_p15, fun _ h => absurd h List.not_mem_nil⟩⟩⟩⟩⟩⟩⟩⟩⟩⟩⟩⟩⟩⟩⟩⟩
theorem lw_p16 : lw_okq (⟨"NeedTables$Counts", "countAt", "(I)I"⟩, 4) := ⟨⟨by decide +kernel, by decide +kernel⟩, List.mem_of_getElem? (i := 152) (by decide +kernel), List.mem_of_getElem? (i := 359) (by decide +kernel), List.mem_of_getElem? (i := 360) (by decide +kernel)⟩
theorem lw_p17 : lw_okq (⟨"NeedTables$Counts", "takeNext", "()Z"⟩, 4) := ⟨⟨by decide +kernel, by decide +kernel⟩, List.mem_of_getElem? (i := 152) (by decide +kernel), List.mem_of_getElem? (i := 363) (by decide +kernel), List.mem_of_getElem? (i := 364) (by decide +kernel)⟩
theorem lw_p18 : lw_okq (⟨"NeedTables$Reader", "canStand", "(II)Z"⟩, 2) := ⟨⟨by decide +kernel, by decide +kernel⟩, List.mem_of_getElem? (i := 36) (by decide +kernel), List.mem_of_getElem? (i := 419) (by decide +kernel), List.mem_of_getElem? (i := 420) (by decide +kernel)⟩
theorem lw_p19 : lw_okq (⟨"NeedTables$Reader", "pass", "(I)V"⟩, 2) := ⟨⟨by decide +kernel, by decide +kernel⟩, List.mem_of_getElem? (i := 36) (by decide +kernel), List.mem_of_getElem? (i := 429) (by decide +kernel), List.mem_of_getElem? (i := 430) (by decide +kernel)⟩
theorem lw_p20 : lw_okq (⟨"NeedTables", "hasNode", "(II)Z"⟩, 6) := ⟨⟨by decide +kernel, by decide +kernel⟩, List.mem_of_getElem? (i := 14) (by decide +kernel), List.mem_of_getElem? (i := 452) (by decide +kernel), List.mem_of_getElem? (i := 453) (by decide +kernel)⟩
theorem lw_p21 : lw_okq (⟨"NeedTables$Machine", "chooseAhead", "()V"⟩, 18) := ⟨⟨by decide +kernel, by decide +kernel⟩, List.mem_of_getElem? (i := 173) (by decide +kernel), List.mem_of_getElem? (i := 484) (by decide +kernel), List.mem_of_getElem? (i := 485) (by decide +kernel)⟩
theorem lw_p22 : lw_okq (⟨"NeedTables$Machine", "takeTold", "(II)V"⟩, 18) := ⟨⟨by decide +kernel, by decide +kernel⟩, List.mem_of_getElem? (i := 173) (by decide +kernel), List.mem_of_getElem? (i := 493) (by decide +kernel), List.mem_of_getElem? (i := 494) (by decide +kernel)⟩
theorem lw_p23 : lw_okq (⟨"NeedTables$Machine", "setSlot", "(II)V"⟩, 18) := ⟨⟨by decide +kernel, by decide +kernel⟩, List.mem_of_getElem? (i := 173) (by decide +kernel), List.mem_of_getElem? (i := 498) (by decide +kernel), List.mem_of_getElem? (i := 499) (by decide +kernel)⟩
theorem lw_p24 : lw_okq (⟨"NeedTables$Machine", "heldIn", "(I)I"⟩, 18) := ⟨⟨by decide +kernel, by decide +kernel⟩, List.mem_of_getElem? (i := 173) (by decide +kernel), List.mem_of_getElem? (i := 505) (by decide +kernel), List.mem_of_getElem? (i := 506) (by decide +kernel)⟩
theorem lw_p25 : lw_okq (⟨"NeedTables$Machine", "isAhead", "(II)Z"⟩, 18) := ⟨⟨by decide +kernel, by decide +kernel⟩, List.mem_of_getElem? (i := 173) (by decide +kernel), List.mem_of_getElem? (i := 509) (by decide +kernel), List.mem_of_getElem? (i := 510) (by decide +kernel)⟩
theorem lw_p26 : lw_okq (⟨"NeedTables$Machine", "goTo", "(II)V"⟩, 18) := ⟨⟨by decide +kernel, by decide +kernel⟩, List.mem_of_getElem? (i := 173) (by decide +kernel), List.mem_of_getElem? (i := 515) (by decide +kernel), List.mem_of_getElem? (i := 516) (by decide +kernel)⟩
theorem lw_p27 : lw_okq (⟨"NeedTables$Machine", "giveBack", "()V"⟩, 18) := ⟨⟨by decide +kernel, by decide +kernel⟩, List.mem_of_getElem? (i := 173) (by decide +kernel), List.mem_of_getElem? (i := 519) (by decide +kernel), List.mem_of_getElem? (i := 520) (by decide +kernel)⟩
theorem lw_p28 : lw_okq (⟨"NeedTables$Machine", "goOnActing", "(III)V"⟩, 18) := ⟨⟨by decide +kernel, by decide +kernel⟩, List.mem_of_getElem? (i := 173) (by decide +kernel), List.mem_of_getElem? (i := 524) (by decide +kernel), List.mem_of_getElem? (i := 525) (by decide +kernel)⟩
theorem lw_p29 : lw_okq (⟨"NeedTables$Machine", "await", "(III)V"⟩, 18) := ⟨⟨by decide +kernel, by decide +kernel⟩, List.mem_of_getElem? (i := 173) (by decide +kernel), List.mem_of_getElem? (i := 528) (by decide +kernel), List.mem_of_getElem? (i := 529) (by decide +kernel)⟩
theorem lw_p30 : lw_okq (⟨"NeedTables$Machine", "give", "(I)V"⟩, 18) := ⟨⟨by decide +kernel, by decide +kernel⟩, List.mem_of_getElem? (i := 173) (by decide +kernel), List.mem_of_getElem? (i := 538) (by decide +kernel), List.mem_of_getElem? (i := 539) (by decide +kernel)⟩
theorem lw_p31 : lw_okq (⟨"NeedTables$Machine", "goOnCalling", "(III)V"⟩, 18) := ⟨⟨by decide +kernel, by decide +kernel⟩, List.mem_of_getElem? (i := 173) (by decide +kernel), List.mem_of_getElem? (i := 545) (by decide +kernel), List.mem_of_getElem? (i := 546) (by decide +kernel)⟩
def lw_privs_2 : List (MethodName × Nat) := [(⟨"NeedTables$Counts", "countAt", "(I)I"⟩, 4), (⟨"NeedTables$Counts", "takeNext", "()Z"⟩, 4), (⟨"NeedTables$Reader", "canStand", "(II)Z"⟩, 2), (⟨"NeedTables$Reader", "pass", "(I)V"⟩, 2), (⟨"NeedTables", "hasNode", "(II)Z"⟩, 6), (⟨"NeedTables$Machine", "chooseAhead", "()V"⟩, 18), (⟨"NeedTables$Machine", "takeTold", "(II)V"⟩, 18), (⟨"NeedTables$Machine", "setSlot", "(II)V"⟩, 18), (⟨"NeedTables$Machine", "heldIn", "(I)I"⟩, 18), (⟨"NeedTables$Machine", "isAhead", "(II)Z"⟩, 18), (⟨"NeedTables$Machine", "goTo", "(II)V"⟩, 18), (⟨"NeedTables$Machine", "giveBack", "()V"⟩, 18), (⟨"NeedTables$Machine", "goOnActing", "(III)V"⟩, 18), (⟨"NeedTables$Machine", "await", "(III)V"⟩, 18), (⟨"NeedTables$Machine", "give", "(I)V"⟩, 18), (⟨"NeedTables$Machine", "goOnCalling", "(III)V"⟩, 18)]
theorem lw_r2 : ∀ q ∈ lw_privs_2, lw_okq q := List.forall_mem_cons.mpr ⟨lw_p16, List.forall_mem_cons.mpr ⟨lw_p17, List.forall_mem_cons.mpr ⟨lw_p18, List.forall_mem_cons.mpr ⟨lw_p19, List.forall_mem_cons.mpr ⟨lw_p20, List.forall_mem_cons.mpr ⟨lw_p21, List.forall_mem_cons.mpr ⟨lw_p22, List.forall_mem_cons.mpr ⟨lw_p23, List.forall_mem_cons.mpr ⟨lw_p24, List.forall_mem_cons.mpr ⟨lw_p25, List.forall_mem_cons.mpr ⟨lw_p26, List.forall_mem_cons.mpr ⟨lw_p27, List.forall_mem_cons.mpr ⟨lw_p28, List.forall_mem_cons.mpr ⟨lw_p29, List.forall_mem_cons.mpr ⟨lw_p30, List.forall_mem_cons.mpr ⟨lw_p31, fun _ h => absurd h List.not_mem_nil⟩⟩⟩⟩⟩⟩⟩⟩⟩⟩⟩⟩⟩⟩⟩⟩
theorem lw_p32 : lw_okq (⟨"NeedTables$Machine", "goToSlot", "(I)V"⟩, 18) := ⟨⟨by decide +kernel, by decide +kernel⟩, List.mem_of_getElem? (i := 173) (by decide +kernel), List.mem_of_getElem? (i := 549) (by decide +kernel), List.mem_of_getElem? (i := 550) (by decide +kernel)⟩
theorem lw_p33 : lw_okq (⟨"NeedTables$Machine", "begin", "()V"⟩, 18) := ⟨⟨by decide +kernel, by decide +kernel⟩, List.mem_of_getElem? (i := 173) (by decide +kernel), List.mem_of_getElem? (i := 553) (by decide +kernel), List.mem_of_getElem? (i := 554) (by decide +kernel)⟩
theorem lw_p34 : lw_okq (⟨"NeedTables$Machine", "beginArgument", "(I)V"⟩, 18) := ⟨⟨by decide +kernel, by decide +kernel⟩, List.mem_of_getElem? (i := 173) (by decide +kernel), List.mem_of_getElem? (i := 557) (by decide +kernel), List.mem_of_getElem? (i := 558) (by decide +kernel)⟩
theorem lw_p35 : lw_okq (⟨"NeedTables$Machine", "beginCall", "(I)V"⟩, 18) := ⟨⟨by decide +kernel, by decide +kernel⟩, List.mem_of_getElem? (i := 173) (by decide +kernel), List.mem_of_getElem? (i := 561) (by decide +kernel), List.mem_of_getElem? (i := 562) (by decide +kernel)⟩
theorem lw_p36 : lw_okq (⟨"NeedTables$Machine", "hang", "(III)V"⟩, 18) := ⟨⟨by decide +kernel, by decide +kernel⟩, List.mem_of_getElem? (i := 173) (by decide +kernel), List.mem_of_getElem? (i := 565) (by decide +kernel), List.mem_of_getElem? (i := 566) (by decide +kernel)⟩
theorem lw_p37 : lw_okq (⟨"NeedTables$Tables", "stops", "(II)Z"⟩, 4) := ⟨⟨by decide +kernel, by decide +kernel⟩, List.mem_of_getElem? (i := 133) (by decide +kernel), List.mem_of_getElem? (i := 605) (by decide +kernel), List.mem_of_getElem? (i := 606) (by decide +kernel)⟩
theorem lw_p38 : lw_okq (⟨"NeedTablesModel", "layTables", "()V"⟩, 25) := ⟨⟨by decide +kernel, by decide +kernel⟩, List.mem_of_getElem? (i := 652) (by decide +kernel), List.mem_of_getElem? (i := 658) (by decide +kernel), List.mem_of_getElem? (i := 659) (by decide +kernel)⟩
theorem lw_p39 : lw_okq (⟨"NeedTablesModel", "findMay", "(II)V"⟩, 25) := ⟨⟨by decide +kernel, by decide +kernel⟩, List.mem_of_getElem? (i := 652) (by decide +kernel), List.mem_of_getElem? (i := 665) (by decide +kernel), List.mem_of_getElem? (i := 666) (by decide +kernel)⟩
theorem lw_p40 : lw_okq (⟨"NeedTablesModel", "textOf", "(III)I"⟩, 25) := ⟨⟨by decide +kernel, by decide +kernel⟩, List.mem_of_getElem? (i := 652) (by decide +kernel), List.mem_of_getElem? (i := 672) (by decide +kernel), List.mem_of_getElem? (i := 673) (by decide +kernel)⟩
theorem lw_p41 : lw_okq (⟨"NeedTablesModel", "findUses", "(II)I"⟩, 25) := ⟨⟨by decide +kernel, by decide +kernel⟩, List.mem_of_getElem? (i := 652) (by decide +kernel), List.mem_of_getElem? (i := 687) (by decide +kernel), List.mem_of_getElem? (i := 688) (by decide +kernel)⟩
theorem lw_p42 : lw_okq (⟨"NeedTablesModel", "isNode", "(II)Z"⟩, 25) := ⟨⟨by decide +kernel, by decide +kernel⟩, List.mem_of_getElem? (i := 652) (by decide +kernel), List.mem_of_getElem? (i := 805) (by decide +kernel), List.mem_of_getElem? (i := 806) (by decide +kernel)⟩
theorem lw_p43 : lw_okq (⟨"NeedTablesModel", "isMust", "(II)Z"⟩, 25) := ⟨⟨by decide +kernel, by decide +kernel⟩, List.mem_of_getElem? (i := 652) (by decide +kernel), List.mem_of_getElem? (i := 820) (by decide +kernel), List.mem_of_getElem? (i := 821) (by decide +kernel)⟩
theorem lw_p44 : lw_okq (⟨"NeedTablesModel", "mayCome", "(II)Z"⟩, 25) := ⟨⟨by decide +kernel, by decide +kernel⟩, List.mem_of_getElem? (i := 652) (by decide +kernel), List.mem_of_getElem? (i := 824) (by decide +kernel), List.mem_of_getElem? (i := 825) (by decide +kernel)⟩
theorem lw_p45 : lw_okq (⟨"NeedTablesModel", "isJoint", "(II)Z"⟩, 25) := ⟨⟨by decide +kernel, by decide +kernel⟩, List.mem_of_getElem? (i := 652) (by decide +kernel), List.mem_of_getElem? (i := 832) (by decide +kernel), List.mem_of_getElem? (i := 833) (by decide +kernel)⟩
theorem lw_p46 : lw_okq (⟨"NeedTablesModel", "runIt", "(III)V"⟩, 25) := ⟨⟨by decide +kernel, by decide +kernel⟩, List.mem_of_getElem? (i := 652) (by decide +kernel), List.mem_of_getElem? (i := 857) (by decide +kernel), List.mem_of_getElem? (i := 858) (by decide +kernel)⟩
theorem lw_p47 : lw_okq (⟨"NeedTablesModel", "go", "(II)V"⟩, 25) := ⟨⟨by decide +kernel, by decide +kernel⟩, List.mem_of_getElem? (i := 652) (by decide +kernel), List.mem_of_getElem? (i := 864) (by decide +kernel), List.mem_of_getElem? (i := 865) (by decide +kernel)⟩
def lw_privs_3 : List (MethodName × Nat) := [(⟨"NeedTables$Machine", "goToSlot", "(I)V"⟩, 18), (⟨"NeedTables$Machine", "begin", "()V"⟩, 18), (⟨"NeedTables$Machine", "beginArgument", "(I)V"⟩, 18), (⟨"NeedTables$Machine", "beginCall", "(I)V"⟩, 18), (⟨"NeedTables$Machine", "hang", "(III)V"⟩, 18), (⟨"NeedTables$Tables", "stops", "(II)Z"⟩, 4), (⟨"NeedTablesModel", "layTables", "()V"⟩, 25), (⟨"NeedTablesModel", "findMay", "(II)V"⟩, 25), (⟨"NeedTablesModel", "textOf", "(III)I"⟩, 25), (⟨"NeedTablesModel", "findUses", "(II)I"⟩, 25), (⟨"NeedTablesModel", "isNode", "(II)Z"⟩, 25), (⟨"NeedTablesModel", "isMust", "(II)Z"⟩, 25), (⟨"NeedTablesModel", "mayCome", "(II)Z"⟩, 25), (⟨"NeedTablesModel", "isJoint", "(II)Z"⟩, 25), (⟨"NeedTablesModel", "runIt", "(III)V"⟩, 25), (⟨"NeedTablesModel", "go", "(II)V"⟩, 25)]
theorem lw_r3 : ∀ q ∈ lw_privs_3, lw_okq q := List.forall_mem_cons.mpr ⟨lw_p32, List.forall_mem_cons.mpr ⟨lw_p33, List.forall_mem_cons.mpr ⟨lw_p34, List.forall_mem_cons.mpr ⟨lw_p35, List.forall_mem_cons.mpr ⟨lw_p36, List.forall_mem_cons.mpr ⟨lw_p37, List.forall_mem_cons.mpr ⟨lw_p38, List.forall_mem_cons.mpr ⟨lw_p39, List.forall_mem_cons.mpr ⟨lw_p40, List.forall_mem_cons.mpr ⟨lw_p41, List.forall_mem_cons.mpr ⟨lw_p42, List.forall_mem_cons.mpr ⟨lw_p43, List.forall_mem_cons.mpr ⟨lw_p44, List.forall_mem_cons.mpr ⟨lw_p45, List.forall_mem_cons.mpr ⟨lw_p46, List.forall_mem_cons.mpr ⟨lw_p47, fun _ h => absurd h List.not_mem_nil⟩⟩⟩⟩⟩⟩⟩⟩⟩⟩⟩⟩⟩⟩⟩⟩
theorem lw_p48 : lw_okq (⟨"NeedTablesModel", "begin", "(I)V"⟩, 25) := ⟨⟨by decide +kernel, by decide +kernel⟩, List.mem_of_getElem? (i := 652) (by decide +kernel), List.mem_of_getElem? (i := 868) (by decide +kernel), List.mem_of_getElem? (i := 869) (by decide +kernel)⟩
theorem lw_p49 : lw_okq (⟨"NeedTablesModel", "beginCall", "(III)V"⟩, 25) := ⟨⟨by decide +kernel, by decide +kernel⟩, List.mem_of_getElem? (i := 652) (by decide +kernel), List.mem_of_getElem? (i := 872) (by decide +kernel), List.mem_of_getElem? (i := 873) (by decide +kernel)⟩
theorem lw_p50 : lw_okq (⟨"NeedTablesModel", "goAhead", "(III)V"⟩, 25) := ⟨⟨by decide +kernel, by decide +kernel⟩, List.mem_of_getElem? (i := 652) (by decide +kernel), List.mem_of_getElem? (i := 876) (by decide +kernel), List.mem_of_getElem? (i := 877) (by decide +kernel)⟩
theorem lw_p51 : lw_okq (⟨"NeedTablesModel", "waitFor", "(IIII)V"⟩, 25) := ⟨⟨by decide +kernel, by decide +kernel⟩, List.mem_of_getElem? (i := 652) (by decide +kernel), List.mem_of_getElem? (i := 880) (by decide +kernel), List.mem_of_getElem? (i := 881) (by decide +kernel)⟩
theorem lw_p52 : lw_okq (⟨"NeedTablesModel", "beginArgument", "(II)V"⟩, 25) := ⟨⟨by decide +kernel, by decide +kernel⟩, List.mem_of_getElem? (i := 652) (by decide +kernel), List.mem_of_getElem? (i := 884) (by decide +kernel), List.mem_of_getElem? (i := 885) (by decide +kernel)⟩
theorem lw_p53 : lw_okq (⟨"NeedTablesModel", "come", "(I)V"⟩, 25) := ⟨⟨by decide +kernel, by decide +kernel⟩, List.mem_of_getElem? (i := 652) (by decide +kernel), List.mem_of_getElem? (i := 888) (by decide +kernel), List.mem_of_getElem? (i := 889) (by decide +kernel)⟩
theorem lw_p54 : lw_okq (⟨"NeedTablesModel", "goOn", "()V"⟩, 25) := ⟨⟨by decide +kernel, by decide +kernel⟩, List.mem_of_getElem? (i := 652) (by decide +kernel), List.mem_of_getElem? (i := 892) (by decide +kernel), List.mem_of_getElem? (i := 893) (by decide +kernel)⟩
def lw_privs_4 : List (MethodName × Nat) := [(⟨"NeedTablesModel", "begin", "(I)V"⟩, 25), (⟨"NeedTablesModel", "beginCall", "(III)V"⟩, 25), (⟨"NeedTablesModel", "goAhead", "(III)V"⟩, 25), (⟨"NeedTablesModel", "waitFor", "(IIII)V"⟩, 25), (⟨"NeedTablesModel", "beginArgument", "(II)V"⟩, 25), (⟨"NeedTablesModel", "come", "(I)V"⟩, 25), (⟨"NeedTablesModel", "goOn", "()V"⟩, 25)]
theorem lw_r4 : ∀ q ∈ lw_privs_4, lw_okq q := List.forall_mem_cons.mpr ⟨lw_p48, List.forall_mem_cons.mpr ⟨lw_p49, List.forall_mem_cons.mpr ⟨lw_p50, List.forall_mem_cons.mpr ⟨lw_p51, List.forall_mem_cons.mpr ⟨lw_p52, List.forall_mem_cons.mpr ⟨lw_p53, List.forall_mem_cons.mpr ⟨lw_p54, fun _ h => absurd h List.not_mem_nil⟩⟩⟩⟩⟩⟩⟩
def lw_privs : List (MethodName × Nat) := lw_privs_1 ++ (lw_privs_2 ++ (lw_privs_3 ++ (lw_privs_4)))
def lw_tbl : List Cond := k2_sels lw_privs ++ tables_1
theorem lw_privs_ok : ∀ q ∈ lw_privs, lw_okq q := by
  show ∀ q ∈ lw_privs_1 ++ (lw_privs_2 ++ (lw_privs_3 ++ (lw_privs_4))), lw_okq q
  exact List.forall_mem_append.mpr ⟨lw_r1, List.forall_mem_append.mpr ⟨lw_r2, List.forall_mem_append.mpr ⟨lw_r3, lw_r4⟩⟩⟩
-- names
def RX0 : String := "NeedTables$Bodies"
def TX0 : u_T := fun k => match k with
  | 0 => ("NeedTables$Bodies", "counts", "[I", true)
  | 1 => ("NeedTables$Bodies", "signs", "[I", true)
  | 2 => ("NeedTables$Bodies", "kinds", "[I", true)
  | 3 => ("NeedTables$Bodies", "worths", "[I", true)
  | 4 => ("NeedTables$Bodies", "spans", "[I", true)
  | _ => ("NeedTables$Bodies", "depths", "[I", true)
def tyX0 : Nat → FieldType := fun k => match k with
  | 0 => .array .int
  | 1 => .array .int
  | 2 => .array .int
  | 3 => .array .int
  | 4 => .array .int
  | _ => .array .int
abbrev wsX00 : List Cond := u_ws RX0 TX0 6
theorem nmX0 : ∀ a, a < 6 → ∀ b, b < 6 → a ≠ b → (TX0 a).2.1 ≠ (TX0 b).2.1 := by decide +kernel
theorem tyX0_ok : ∀ k, k < 6 → parseFieldDescriptor (TX0 k).2.2.1 = some (tyX0 k) := by decide +kernel
abbrev cX0_init : ByteArray := prog_2_method_1_code
def yX0_init : MethodName := ⟨RX0, "<init>", "()V"⟩
abbrev cX0_put : ByteArray := prog_2_method_2_code
def yX0_put : MethodName := ⟨RX0, "put", "(ILNeedTables$Pad;)V"⟩
abbrev cX0_setSign : ByteArray := prog_2_method_3_code
def yX0_setSign : MethodName := ⟨RX0, "setSign", "(II)V"⟩
abbrev cX0_measure : ByteArray := prog_2_method_4_code
def yX0_measure : MethodName := ⟨RX0, "measure", "(I)V"⟩
abbrev cX0_setSpan : ByteArray := prog_2_method_5_code
def yX0_setSpan : MethodName := ⟨RX0, "setSpan", "(II)V"⟩
abbrev cX0_setDepth : ByteArray := prog_2_method_6_code
def yX0_setDepth : MethodName := ⟨RX0, "setDepth", "(II)V"⟩
abbrev cX0_count : ByteArray := prog_2_method_7_code
def yX0_count : MethodName := ⟨RX0, "count", "(I)I"⟩
abbrev cX0_root : ByteArray := prog_2_method_8_code
def yX0_root : MethodName := ⟨RX0, "root", "(I)I"⟩
abbrev cX0_textPlace : ByteArray := prog_2_method_9_code
def yX0_textPlace : MethodName := ⟨RX0, "textPlace", "(II)I"⟩
abbrev cX0_signAt : ByteArray := prog_2_method_10_code
def yX0_signAt : MethodName := ⟨RX0, "signAt", "(I)I"⟩
abbrev cX0_kindAt : ByteArray := prog_2_method_11_code
def yX0_kindAt : MethodName := ⟨RX0, "kindAt", "(I)I"⟩
abbrev cX0_worthAt : ByteArray := prog_2_method_12_code
def yX0_worthAt : MethodName := ⟨RX0, "worthAt", "(I)I"⟩
abbrev cX0_spanAt : ByteArray := prog_2_method_13_code
def yX0_spanAt : MethodName := ⟨RX0, "spanAt", "(I)I"⟩
abbrev cX0_depthAt : ByteArray := prog_2_method_14_code
def yX0_depthAt : MethodName := ⟨RX0, "depthAt", "(I)I"⟩
def RX1 : String := "NeedTables$Counts"
def TX1 : u_T := fun k => match k with
  | 0 => ("NeedTables$Counts", "bodies", "LNeedTables$Bodies;", true)
  | 1 => ("NeedTables$Counts", "counted", "[I", true)
  | 2 => ("NeedTables$Counts", "known", "[I", true)
  | _ => ("NeedTables$Counts", "next", "[I", true)
def tyX1 : Nat → FieldType := fun k => match k with
  | 0 => .object "NeedTables$Bodies"
  | 1 => .array .int
  | 2 => .array .int
  | _ => .array .int
abbrev wsX10 : List Cond := u_ws RX1 TX1 4
theorem nmX1 : ∀ a, a < 4 → ∀ b, b < 4 → a ≠ b → (TX1 a).2.1 ≠ (TX1 b).2.1 := by decide +kernel
theorem tyX1_ok : ∀ k, k < 4 → parseFieldDescriptor (TX1 k).2.2.1 = some (tyX1 k) := by decide +kernel
abbrev cX1_init : ByteArray := prog_3_method_1_code
def yX1_init : MethodName := ⟨RX1, "<init>", "(LNeedTables$Bodies;)V"⟩
abbrev cX1_renew : ByteArray := prog_3_method_2_code
def yX1_renew : MethodName := ⟨RX1, "renew", "()V"⟩
abbrev cX1_takeNext : ByteArray := prog_3_method_3_code
def yX1_takeNext : MethodName := ⟨RX1, "takeNext", "()Z"⟩
abbrev cX1_countIn : ByteArray := prog_3_method_4_code
def yX1_countIn : MethodName := ⟨RX1, "countIn", "(II)I"⟩
abbrev cX1_countOf : ByteArray := prog_3_method_5_code
def yX1_countOf : MethodName := ⟨RX1, "countOf", "(II)I"⟩
abbrev cX1_callCount : ByteArray := prog_3_method_6_code
def yX1_callCount : MethodName := ⟨RX1, "callCount", "(II)I"⟩
abbrev cX1_textCount : ByteArray := prog_3_method_7_code
def yX1_textCount : MethodName := ⟨RX1, "textCount", "(II)I"⟩
abbrev cX1_countAt : ByteArray := prog_3_method_8_code
def yX1_countAt : MethodName := ⟨RX1, "countAt", "(I)I"⟩
abbrev cX1_setCount : ByteArray := prog_3_method_9_code
def yX1_setCount : MethodName := ⟨RX1, "setCount", "(II)V"⟩
abbrev cX1_of : ByteArray := prog_3_method_10_code
def yX1_of : MethodName := ⟨RX1, "of", "(II)I"⟩
def RX2 : String := "NeedTables$Machine"
def TX2 : u_T := fun k => match k with
  | 0 => ("NeedTables$Machine", "bodies", "LNeedTables$Bodies;", true)
  | 1 => ("NeedTables$Machine", "tables", "LNeedTables$Tables;", true)
  | 2 => ("NeedTables$Machine", "slotHeld", "[I", true)
  | 3 => ("NeedTables$Machine", "slotPlace", "[I", true)
  | 4 => ("NeedTables$Machine", "slotScope", "[I", true)
  | 5 => ("NeedTables$Machine", "scopes", "I", false)
  | 6 => ("NeedTables$Machine", "waitPlace", "[I", true)
  | 7 => ("NeedTables$Machine", "waitScope", "[I", true)
  | 8 => ("NeedTables$Machine", "waitHeld", "[I", true)
  | 9 => ("NeedTables$Machine", "waiting", "I", false)
  | 10 => ("NeedTables$Machine", "way", "I", false)
  | 11 => ("NeedTables$Machine", "ahead", "[I", true)
  | 12 => ("NeedTables$Machine", "end", "I", false)
  | 13 => ("NeedTables$Machine", "taken", "I", false)
  | 14 => ("NeedTables$Machine", "place", "I", false)
  | 15 => ("NeedTables$Machine", "scope", "I", false)
  | 16 => ("NeedTables$Machine", "given", "Z", false)
  | _ => ("NeedTables$Machine", "value", "I", false)
def tyX2 : Nat → FieldType := fun k => match k with
  | 0 => .object "NeedTables$Bodies"
  | 1 => .object "NeedTables$Tables"
  | 2 => .array .int
  | 3 => .array .int
  | 4 => .array .int
  | 5 => .int
  | 6 => .array .int
  | 7 => .array .int
  | 8 => .array .int
  | 9 => .int
  | 10 => .int
  | 11 => .array .int
  | 12 => .int
  | 13 => .int
  | 14 => .int
  | 15 => .int
  | 16 => .boolean
  | _ => .int
abbrev wsX20 : List Cond := u_ws RX2 TX2 18
theorem nmX2 : ∀ a, a < 18 → ∀ b, b < 18 → a ≠ b → (TX2 a).2.1 ≠ (TX2 b).2.1 := by decide +kernel
theorem tyX2_ok : ∀ k, k < 18 → parseFieldDescriptor (TX2 k).2.2.1 = some (tyX2 k) := by decide +kernel
abbrev cX2_init : ByteArray := prog_4_method_1_code
def yX2_init : MethodName := ⟨RX2, "<init>", "(LNeedTables$Bodies;LNeedTables$Tables;)V"⟩
abbrev cX2_end : ByteArray := prog_4_method_2_code
def yX2_end : MethodName := ⟨RX2, "end", "()I"⟩
abbrev cX2_taken : ByteArray := prog_4_method_3_code
def yX2_taken : MethodName := ⟨RX2, "taken", "()I"⟩
abbrev cX2_play : ByteArray := prog_4_method_4_code
def yX2_play : MethodName := ⟨RX2, "play", "(III)V"⟩
abbrev cX2_chooseAhead : ByteArray := prog_4_method_5_code
def yX2_chooseAhead : MethodName := ⟨RX2, "chooseAhead", "()V"⟩
abbrev cX2_takeTold : ByteArray := prog_4_method_6_code
def yX2_takeTold : MethodName := ⟨RX2, "takeTold", "(II)V"⟩
abbrev cX2_isAhead : ByteArray := prog_4_method_7_code
def yX2_isAhead : MethodName := ⟨RX2, "isAhead", "(II)Z"⟩
abbrev cX2_begin : ByteArray := prog_4_method_8_code
def yX2_begin : MethodName := ⟨RX2, "begin", "()V"⟩
abbrev cX2_beginArgument : ByteArray := prog_4_method_9_code
def yX2_beginArgument : MethodName := ⟨RX2, "beginArgument", "(I)V"⟩
abbrev cX2_beginCall : ByteArray := prog_4_method_10_code
def yX2_beginCall : MethodName := ⟨RX2, "beginCall", "(I)V"⟩
abbrev cX2_goOnCalling : ByteArray := prog_4_method_11_code
def yX2_goOnCalling : MethodName := ⟨RX2, "goOnCalling", "(III)V"⟩
abbrev cX2_giveBack : ByteArray := prog_4_method_12_code
def yX2_giveBack : MethodName := ⟨RX2, "giveBack", "()V"⟩
abbrev cX2_goOnActing : ByteArray := prog_4_method_13_code
def yX2_goOnActing : MethodName := ⟨RX2, "goOnActing", "(III)V"⟩
abbrev cX2_acted : ByteArray := prog_4_method_14_code
def yX2_acted : MethodName := ⟨RX2, "acted", "(III)I"⟩
abbrev cX2_give : ByteArray := prog_4_method_15_code
def yX2_give : MethodName := ⟨RX2, "give", "(I)V"⟩
abbrev cX2_goTo : ByteArray := prog_4_method_16_code
def yX2_goTo : MethodName := ⟨RX2, "goTo", "(II)V"⟩
abbrev cX2_await : ByteArray := prog_4_method_17_code
def yX2_await : MethodName := ⟨RX2, "await", "(III)V"⟩
abbrev cX2_slotOf : ByteArray := prog_4_method_18_code
def yX2_slotOf : MethodName := ⟨RX2, "slotOf", "(II)I"⟩
abbrev cX2_isSlot : ByteArray := prog_4_method_19_code
def yX2_isSlot : MethodName := ⟨RX2, "isSlot", "(I)Z"⟩
abbrev cX2_heldIn : ByteArray := prog_4_method_20_code
def yX2_heldIn : MethodName := ⟨RX2, "heldIn", "(I)I"⟩
abbrev cX2_setSlot : ByteArray := prog_4_method_21_code
def yX2_setSlot : MethodName := ⟨RX2, "setSlot", "(II)V"⟩
abbrev cX2_hang : ByteArray := prog_4_method_22_code
def yX2_hang : MethodName := ⟨RX2, "hang", "(III)V"⟩
abbrev cX2_goToSlot : ByteArray := prog_4_method_23_code
def yX2_goToSlot : MethodName := ⟨RX2, "goToSlot", "(I)V"⟩
def RX3 : String := "NeedTables$Outcomes"
def TX3 : u_T := fun k => match k with
  | 0 => ("NeedTables$Outcomes", "machine", "LNeedTables$Machine;", true)
  | _ => ("NeedTables$Outcomes", "kept", "[I", true)
def tyX3 : Nat → FieldType := fun k => match k with
  | 0 => .object "NeedTables$Machine"
  | _ => .array .int
abbrev wsX30 : List Cond := u_ws RX3 TX3 2
theorem nmX3 : ∀ a, a < 2 → ∀ b, b < 2 → a ≠ b → (TX3 a).2.1 ≠ (TX3 b).2.1 := by decide +kernel
theorem tyX3_ok : ∀ k, k < 2 → parseFieldDescriptor (TX3 k).2.2.1 = some (tyX3 k) := by decide +kernel
abbrev cX3_init : ByteArray := prog_5_method_1_code
def yX3_init : MethodName := ⟨RX3, "<init>", "(LNeedTables$Machine;)V"⟩
abbrev cX3_forget : ByteArray := prog_5_method_2_code
def yX3_forget : MethodName := ⟨RX3, "forget", "()V"⟩
abbrev cX3_endIn : ByteArray := prog_5_method_3_code
def yX3_endIn : MethodName := ⟨RX3, "endIn", "(I)I"⟩
abbrev cX3_stepsIn : ByteArray := prog_5_method_4_code
def yX3_stepsIn : MethodName := ⟨RX3, "stepsIn", "(I)I"⟩
abbrev cX3_of : ByteArray := prog_5_method_5_code
def yX3_of : MethodName := ⟨RX3, "of", "(III)I"⟩
def RX4 : String := "NeedTables$Pad"
def TX4 : u_T := fun k => match k with
  | 0 => ("NeedTables$Pad", "signs", "[I", true)
  | _ => ("NeedTables$Pad", "count", "I", false)
def tyX4 : Nat → FieldType := fun k => match k with
  | 0 => .array .int
  | _ => .int
abbrev wsX40 : List Cond := u_ws RX4 TX4 2
theorem nmX4 : ∀ a, a < 2 → ∀ b, b < 2 → a ≠ b → (TX4 a).2.1 ≠ (TX4 b).2.1 := by decide +kernel
theorem tyX4_ok : ∀ k, k < 2 → parseFieldDescriptor (TX4 k).2.2.1 = some (tyX4 k) := by decide +kernel
abbrev cX4_init : ByteArray := prog_6_method_1_code
def yX4_init : MethodName := ⟨RX4, "<init>", "()V"⟩
abbrev cX4_count : ByteArray := prog_6_method_2_code
def yX4_count : MethodName := ⟨RX4, "count", "()I"⟩
abbrev cX4_add : ByteArray := prog_6_method_3_code
def yX4_add : MethodName := ⟨RX4, "add", "(I)Z"⟩
abbrev cX4_clear : ByteArray := prog_6_method_4_code
def yX4_clear : MethodName := ⟨RX4, "clear", "()V"⟩
abbrev cX4_signAt : ByteArray := prog_6_method_5_code
def yX4_signAt : MethodName := ⟨RX4, "signAt", "(I)I"⟩
def RX5 : String := "NeedTables$Reader"
def TX5 : u_T := fun k => match k with
  | 0 => ("NeedTables$Reader", "missing", "[I", true)
  | _ => ("NeedTables$Reader", "level", "I", false)
def tyX5 : Nat → FieldType := fun k => match k with
  | 0 => .array .int
  | _ => .int
abbrev wsX50 : List Cond := u_ws RX5 TX5 2
theorem nmX5 : ∀ a, a < 2 → ∀ b, b < 2 → a ≠ b → (TX5 a).2.1 ≠ (TX5 b).2.1 := by decide +kernel
theorem tyX5_ok : ∀ k, k < 2 → parseFieldDescriptor (TX5 k).2.2.1 = some (tyX5 k) := by decide +kernel
abbrev cX5_init : ByteArray := prog_7_method_1_code
def yX5_init : MethodName := ⟨RX5, "<init>", "()V"⟩
abbrev cX5_firstFault : ByteArray := prog_7_method_2_code
def yX5_firstFault : MethodName := ⟨RX5, "firstFault", "(LNeedTables$Pad;I)I"⟩
abbrev cX5_canStand : ByteArray := prog_7_method_3_code
def yX5_canStand : MethodName := ⟨RX5, "canStand", "(II)Z"⟩
abbrev cX5_pass : ByteArray := prog_7_method_4_code
def yX5_pass : MethodName := ⟨RX5, "pass", "(I)V"⟩
def RX6 : String := "NeedTables$Signs"
def TX6 : u_T := fun k => match k with
  | _ => ("", "", "", false)
def tyX6 : Nat → FieldType := fun k => match k with
  | _ => .int
abbrev wsX60 : List Cond := u_ws RX6 TX6 0
theorem nmX6 : ∀ a, a < 0 → ∀ b, b < 0 → a ≠ b → (TX6 a).2.1 ≠ (TX6 b).2.1 := by decide +kernel
theorem tyX6_ok : ∀ k, k < 0 → parseFieldDescriptor (TX6 k).2.2.1 = some (tyX6 k) := by decide +kernel
abbrev cX6_kindOf : ByteArray := prog_8_method_2_code
def yX6_kindOf : MethodName := ⟨RX6, "kindOf", "(I)I"⟩
abbrev cX6_worthOf : ByteArray := prog_8_method_3_code
def yX6_worthOf : MethodName := ⟨RX6, "worthOf", "(I)I"⟩
abbrev cX6_textsOf : ByteArray := prog_8_method_4_code
def yX6_textsOf : MethodName := ⟨RX6, "textsOf", "(I)I"⟩
def RX7 : String := "NeedTables$Tables"
def TX7 : u_T := fun k => match k with
  | 0 => ("NeedTables$Tables", "bodies", "LNeedTables$Bodies;", true)
  | 1 => ("NeedTables$Tables", "rows", "[I", true)
  | 2 => ("NeedTables$Tables", "table", "[I", true)
  | _ => ("NeedTables$Tables", "needed", "[I", true)
def tyX7 : Nat → FieldType := fun k => match k with
  | 0 => .object "NeedTables$Bodies"
  | 1 => .array .int
  | 2 => .array .int
  | _ => .array .int
abbrev wsX70 : List Cond := u_ws RX7 TX7 4
theorem nmX7 : ∀ a, a < 4 → ∀ b, b < 4 → a ≠ b → (TX7 a).2.1 ≠ (TX7 b).2.1 := by decide +kernel
theorem tyX7_ok : ∀ k, k < 4 → parseFieldDescriptor (TX7 k).2.2.1 = some (tyX7 k) := by decide +kernel
abbrev cX7_init : ByteArray := prog_9_method_1_code
def yX7_init : MethodName := ⟨RX7, "<init>", "(LNeedTables$Bodies;)V"⟩
abbrev cX7_renew : ByteArray := prog_9_method_2_code
def yX7_renew : MethodName := ⟨RX7, "renew", "()V"⟩
abbrev cX7_fillRows : ByteArray := prog_9_method_3_code
def yX7_fillRows : MethodName := ⟨RX7, "fillRows", "()V"⟩
abbrev cX7_takeRoots : ByteArray := prog_9_method_4_code
def yX7_takeRoots : MethodName := ⟨RX7, "takeRoots", "()Z"⟩
abbrev cX7_rowOf : ByteArray := prog_9_method_5_code
def yX7_rowOf : MethodName := ⟨RX7, "rowOf", "(I)I"⟩
abbrev cX7_callRow : ByteArray := prog_9_method_6_code
def yX7_callRow : MethodName := ⟨RX7, "callRow", "(II)I"⟩
abbrev cX7_textRow : ByteArray := prog_9_method_7_code
def yX7_textRow : MethodName := ⟨RX7, "textRow", "(II)I"⟩
abbrev cX7_rowAt : ByteArray := prog_9_method_8_code
def yX7_rowAt : MethodName := ⟨RX7, "rowAt", "(I)I"⟩
abbrev cX7_setRow : ByteArray := prog_9_method_9_code
def yX7_setRow : MethodName := ⟨RX7, "setRow", "(II)V"⟩
abbrev cX7_setsWith : ByteArray := prog_9_method_10_code
def yX7_setsWith : MethodName := ⟨RX7, "setsWith", "(I)I"⟩
abbrev cX7_has : ByteArray := prog_9_method_11_code
def yX7_has : MethodName := ⟨RX7, "has", "(II)Z"⟩
abbrev cX7_hasAt : ByteArray := prog_9_method_12_code
def yX7_hasAt : MethodName := ⟨RX7, "hasAt", "(II)Z"⟩
abbrev cX7_neededOf : ByteArray := prog_9_method_13_code
def yX7_neededOf : MethodName := ⟨RX7, "neededOf", "(I)I"⟩
abbrev cX7_neededAt : ByteArray := prog_9_method_14_code
def yX7_neededAt : MethodName := ⟨RX7, "neededAt", "(II)I"⟩
abbrev cX7_isJoint : ByteArray := prog_9_method_15_code
def yX7_isJoint : MethodName := ⟨RX7, "isJoint", "(II)Z"⟩
abbrev cX7_stops : ByteArray := prog_9_method_16_code
def yX7_stops : MethodName := ⟨RX7, "stops", "(II)Z"⟩
def RX8 : String := "NeedTables"
def TX8 : u_T := fun k => match k with
  | 0 => ("NeedTables", "pad", "LNeedTables$Pad;", true)
  | 1 => ("NeedTables", "reader", "LNeedTables$Reader;", true)
  | 2 => ("NeedTables", "bodies", "LNeedTables$Bodies;", true)
  | 3 => ("NeedTables", "tables", "LNeedTables$Tables;", true)
  | 4 => ("NeedTables", "counts", "LNeedTables$Counts;", true)
  | _ => ("NeedTables", "outcomes", "LNeedTables$Outcomes;", true)
def tyX8 : Nat → FieldType := fun k => match k with
  | 0 => .object "NeedTables$Pad"
  | 1 => .object "NeedTables$Reader"
  | 2 => .object "NeedTables$Bodies"
  | 3 => .object "NeedTables$Tables"
  | 4 => .object "NeedTables$Counts"
  | _ => .object "NeedTables$Outcomes"
abbrev wsX80 : List Cond := u_ws RX8 TX8 6
theorem nmX8 : ∀ a, a < 6 → ∀ b, b < 6 → a ≠ b → (TX8 a).2.1 ≠ (TX8 b).2.1 := by decide +kernel
theorem tyX8_ok : ∀ k, k < 6 → parseFieldDescriptor (TX8 k).2.2.1 = some (tyX8 k) := by decide +kernel
abbrev cX8_init : ByteArray := prog_1_method_1_code
def yX8_init : MethodName := ⟨RX8, "<init>", "()V"⟩
abbrev cX8_say : ByteArray := prog_1_method_2_code
def yX8_say : MethodName := ⟨RX8, "say", "(I)I"⟩
abbrev cX8_wipe : ByteArray := prog_1_method_3_code
def yX8_wipe : MethodName := ⟨RX8, "wipe", "()I"⟩
abbrev cX8_fault : ByteArray := prog_1_method_4_code
def yX8_fault : MethodName := ⟨RX8, "fault", "(I)I"⟩
abbrev cX8_body : ByteArray := prog_1_method_5_code
def yX8_body : MethodName := ⟨RX8, "body", "(I)I"⟩
abbrev cX8_node : ByteArray := prog_1_method_6_code
def yX8_node : MethodName := ⟨RX8, "node", "(III)I"⟩
abbrev cX8_run : ByteArray := prog_1_method_7_code
def yX8_run : MethodName := ⟨RX8, "run", "(IIII)I"⟩
abbrev cX8_may : ByteArray := prog_1_method_8_code
def yX8_may : MethodName := ⟨RX8, "may", "(II)I"⟩
abbrev cX8_must : ByteArray := prog_1_method_9_code
def yX8_must : MethodName := ⟨RX8, "must", "(I)I"⟩
abbrev cX8_joint : ByteArray := prog_1_method_10_code
def yX8_joint : MethodName := ⟨RX8, "joint", "(II)I"⟩
abbrev cX8_uses : ByteArray := prog_1_method_11_code
def yX8_uses : MethodName := ⟨RX8, "uses", "(II)I"⟩
abbrev cX8_part : ByteArray := prog_1_method_12_code
def yX8_part : MethodName := ⟨RX8, "part", "(III)I"⟩
abbrev cX8_ends : ByteArray := prog_1_method_13_code
def yX8_ends : MethodName := ⟨RX8, "ends", "(II)I"⟩
abbrev cX8_matters : ByteArray := prog_1_method_14_code
def yX8_matters : MethodName := ⟨RX8, "matters", "(II)I"⟩
abbrev cX8_steps : ByteArray := prog_1_method_15_code
def yX8_steps : MethodName := ⟨RX8, "steps", "(II)I"⟩
abbrev cX8_unlike : ByteArray := prog_1_method_16_code
def yX8_unlike : MethodName := ⟨RX8, "unlike", "(IIII)I"⟩
abbrev cX8_told : ByteArray := prog_1_method_17_code
def yX8_told : MethodName := ⟨RX8, "told", "(I)I"⟩
abbrev cX8_isFunction : ByteArray := prog_1_method_18_code
def yX8_isFunction : MethodName := ⟨RX8, "isFunction", "(I)Z"⟩
abbrev cX8_hasArgument : ByteArray := prog_1_method_19_code
def yX8_hasArgument : MethodName := ⟨RX8, "hasArgument", "(II)Z"⟩
abbrev cX8_hasNode : ByteArray := prog_1_method_20_code
def yX8_hasNode : MethodName := ⟨RX8, "hasNode", "(II)Z"⟩
abbrev cX8_isWay : ByteArray := prog_1_method_21_code
def yX8_isWay : MethodName := ⟨RX8, "isWay", "(I)Z"⟩
abbrev cX8_isPlace : ByteArray := prog_1_method_22_code
def yX8_isPlace : MethodName := ⟨RX8, "isPlace", "(I)Z"⟩
abbrev cX8_asAnswer : ByteArray := prog_1_method_23_code
def yX8_asAnswer : MethodName := ⟨RX8, "asAnswer", "(Z)I"⟩
abbrev cX8_argumentsOf : ByteArray := prog_1_method_24_code
def yX8_argumentsOf : MethodName := ⟨RX8, "argumentsOf", "(I)I"⟩
abbrev cX8_allArguments : ByteArray := prog_1_method_25_code
def yX8_allArguments : MethodName := ⟨RX8, "allArguments", "(I)I"⟩
abbrev cX8_shiftOf : ByteArray := prog_1_method_26_code
def yX8_shiftOf : MethodName := ⟨RX8, "shiftOf", "(II)I"⟩
abbrev cX8_numbersTold : ByteArray := prog_1_method_27_code
def yX8_numbersTold : MethodName := ⟨RX8, "numbersTold", "(II)I"⟩
abbrev cX8_sortOfEnd : ByteArray := prog_1_method_28_code
def yX8_sortOfEnd : MethodName := ⟨RX8, "sortOfEnd", "(I)I"⟩
def RX9 : String := "NeedTablesModel"
def TX9 : u_T := fun k => match k with
  | 0 => ("NeedTablesModel", "signs", "[I", true)
  | 1 => ("NeedTablesModel", "sizes", "[I", true)
  | 2 => ("NeedTablesModel", "depths", "[I", true)
  | 3 => ("NeedTablesModel", "signMany", "[I", true)
  | 4 => ("NeedTablesModel", "due", "[I", true)
  | 5 => ("NeedTablesModel", "openAt", "[I", true)
  | 6 => ("NeedTablesModel", "tables", "[I", true)
  | 7 => ("NeedTablesModel", "usings", "[I", true)
  | 8 => ("NeedTablesModel", "comes", "[I", true)
  | 9 => ("NeedTablesModel", "callOf", "[I", true)
  | 10 => ("NeedTablesModel", "value", "[I", true)
  | 11 => ("NeedTablesModel", "textAt", "[I", true)
  | 12 => ("NeedTablesModel", "textIn", "[I", true)
  | 13 => ("NeedTablesModel", "calls", "I", false)
  | 14 => ("NeedTablesModel", "waitKind", "[I", true)
  | 15 => ("NeedTablesModel", "waitNode", "[I", true)
  | 16 => ("NeedTablesModel", "waitCall", "[I", true)
  | 17 => ("NeedTablesModel", "waitMore", "[I", true)
  | 18 => ("NeedTablesModel", "waits", "I", false)
  | 19 => ("NeedTablesModel", "stepMany", "I", false)
  | 20 => ("NeedTablesModel", "endIs", "I", false)
  | 21 => ("NeedTablesModel", "nodeNow", "I", false)
  | 22 => ("NeedTablesModel", "callNow", "I", false)
  | 23 => ("NeedTablesModel", "cameNow", "I", false)
  | _ => ("NeedTablesModel", "endings", "[I", true)
def tyX9 : Nat → FieldType := fun k => match k with
  | 0 => .array .int
  | 1 => .array .int
  | 2 => .array .int
  | 3 => .array .int
  | 4 => .array .int
  | 5 => .array .int
  | 6 => .array .int
  | 7 => .array .int
  | 8 => .array .int
  | 9 => .array .int
  | 10 => .array .int
  | 11 => .array .int
  | 12 => .array .int
  | 13 => .int
  | 14 => .array .int
  | 15 => .array .int
  | 16 => .array .int
  | 17 => .array .int
  | 18 => .int
  | 19 => .int
  | 20 => .int
  | 21 => .int
  | 22 => .int
  | 23 => .int
  | _ => .array .int
abbrev wsX90 : List Cond := u_ws RX9 TX9 25
theorem nmX9 : ∀ a, a < 25 → ∀ b, b < 25 → a ≠ b → (TX9 a).2.1 ≠ (TX9 b).2.1 := by decide +kernel
theorem tyX9_ok : ∀ k, k < 25 → parseFieldDescriptor (TX9 k).2.2.1 = some (tyX9 k) := by decide +kernel
abbrev cX9_init : ByteArray := prog_11_method_1_code
def yX9_init : MethodName := ⟨RX9, "<init>", "()V"⟩
abbrev cX9_in : ByteArray := prog_11_method_3_code
def yX9_in : MethodName := ⟨RX9, "in", "(JJJ)Z"⟩
abbrev cX9_isFunction : ByteArray := prog_11_method_4_code
def yX9_isFunction : MethodName := ⟨RX9, "isFunction", "(I)Z"⟩
abbrev cX9_argumentsOf : ByteArray := prog_11_method_5_code
def yX9_argumentsOf : MethodName := ⟨RX9, "argumentsOf", "(I)I"⟩
abbrev cX9_say : ByteArray := prog_11_method_6_code
def yX9_say : MethodName := ⟨RX9, "say", "(I)I"⟩
abbrev cX9_wipe : ByteArray := prog_11_method_7_code
def yX9_wipe : MethodName := ⟨RX9, "wipe", "()I"⟩
abbrev cX9_calledBy : ByteArray := prog_11_method_8_code
def yX9_calledBy : MethodName := ⟨RX9, "calledBy", "(I)I"⟩
abbrev cX9_isAct : ByteArray := prog_11_method_9_code
def yX9_isAct : MethodName := ⟨RX9, "isAct", "(I)Z"⟩
abbrev cX9_isArgument : ByteArray := prog_11_method_10_code
def yX9_isArgument : MethodName := ⟨RX9, "isArgument", "(I)Z"⟩
abbrev cX9_partsOf : ByteArray := prog_11_method_11_code
def yX9_partsOf : MethodName := ⟨RX9, "partsOf", "(II)I"⟩
abbrev cX9_fault : ByteArray := prog_11_method_12_code
def yX9_fault : MethodName := ⟨RX9, "fault", "(I)I"⟩
abbrev cX9_body : ByteArray := prog_11_method_13_code
def yX9_body : MethodName := ⟨RX9, "body", "(I)I"⟩
abbrev cX9_isNode : ByteArray := prog_11_method_14_code
def yX9_isNode : MethodName := ⟨RX9, "isNode", "(II)Z"⟩
abbrev cX9_node : ByteArray := prog_11_method_15_code
def yX9_node : MethodName := ⟨RX9, "node", "(III)I"⟩
abbrev cX9_textOf : ByteArray := prog_11_method_16_code
def yX9_textOf : MethodName := ⟨RX9, "textOf", "(III)I"⟩
abbrev cX9_findMay : ByteArray := prog_11_method_17_code
def yX9_findMay : MethodName := ⟨RX9, "findMay", "(II)V"⟩
abbrev cX9_most : ByteArray := prog_11_method_18_code
def yX9_most : MethodName := ⟨RX9, "most", "(II)I"⟩
abbrev cX9_held : ByteArray := prog_11_method_19_code
def yX9_held : MethodName := ⟨RX9, "held", "(I)I"⟩
abbrev cX9_findUses : ByteArray := prog_11_method_20_code
def yX9_findUses : MethodName := ⟨RX9, "findUses", "(II)I"⟩
abbrev cX9_layTables : ByteArray := prog_11_method_21_code
def yX9_layTables : MethodName := ⟨RX9, "layTables", "()V"⟩
abbrev cX9_allOf : ByteArray := prog_11_method_22_code
def yX9_allOf : MethodName := ⟨RX9, "allOf", "(I)I"⟩
abbrev cX9_mayCome : ByteArray := prog_11_method_23_code
def yX9_mayCome : MethodName := ⟨RX9, "mayCome", "(II)Z"⟩
abbrev cX9_isMust : ByteArray := prog_11_method_24_code
def yX9_isMust : MethodName := ⟨RX9, "isMust", "(II)Z"⟩
abbrev cX9_may : ByteArray := prog_11_method_25_code
def yX9_may : MethodName := ⟨RX9, "may", "(II)I"⟩
abbrev cX9_must : ByteArray := prog_11_method_26_code
def yX9_must : MethodName := ⟨RX9, "must", "(I)I"⟩
abbrev cX9_isJoint : ByteArray := prog_11_method_27_code
def yX9_isJoint : MethodName := ⟨RX9, "isJoint", "(II)Z"⟩
abbrev cX9_joint : ByteArray := prog_11_method_28_code
def yX9_joint : MethodName := ⟨RX9, "joint", "(II)I"⟩
abbrev cX9_isOf : ByteArray := prog_11_method_29_code
def yX9_isOf : MethodName := ⟨RX9, "isOf", "(II)Z"⟩
abbrev cX9_uses : ByteArray := prog_11_method_30_code
def yX9_uses : MethodName := ⟨RX9, "uses", "(II)I"⟩
abbrev cX9_part : ByteArray := prog_11_method_31_code
def yX9_part : MethodName := ⟨RX9, "part", "(III)I"⟩
abbrev cX9_waitFor : ByteArray := prog_11_method_32_code
def yX9_waitFor : MethodName := ⟨RX9, "waitFor", "(IIII)V"⟩
abbrev cX9_come : ByteArray := prog_11_method_33_code
def yX9_come : MethodName := ⟨RX9, "come", "(I)V"⟩
abbrev cX9_go : ByteArray := prog_11_method_34_code
def yX9_go : MethodName := ⟨RX9, "go", "(II)V"⟩
abbrev cX9_act : ByteArray := prog_11_method_35_code
def yX9_act : MethodName := ⟨RX9, "act", "(III)I"⟩
abbrev cX9_begin : ByteArray := prog_11_method_36_code
def yX9_begin : MethodName := ⟨RX9, "begin", "(I)V"⟩
abbrev cX9_beginArgument : ByteArray := prog_11_method_37_code
def yX9_beginArgument : MethodName := ⟨RX9, "beginArgument", "(II)V"⟩
abbrev cX9_beginCall : ByteArray := prog_11_method_38_code
def yX9_beginCall : MethodName := ⟨RX9, "beginCall", "(III)V"⟩
abbrev cX9_goAhead : ByteArray := prog_11_method_39_code
def yX9_goAhead : MethodName := ⟨RX9, "goAhead", "(III)V"⟩
abbrev cX9_goOn : ByteArray := prog_11_method_40_code
def yX9_goOn : MethodName := ⟨RX9, "goOn", "()V"⟩
abbrev cX9_toldOne : ByteArray := prog_11_method_41_code
def yX9_toldOne : MethodName := ⟨RX9, "toldOne", "(III)I"⟩
abbrev cX9_runIt : ByteArray := prog_11_method_42_code
def yX9_runIt : MethodName := ⟨RX9, "runIt", "(III)V"⟩
abbrev cX9_rowsOf : ByteArray := prog_11_method_43_code
def yX9_rowsOf : MethodName := ⟨RX9, "rowsOf", "(I)I"⟩
abbrev cX9_isWay : ByteArray := prog_11_method_44_code
def yX9_isWay : MethodName := ⟨RX9, "isWay", "(I)Z"⟩
abbrev cX9_run : ByteArray := prog_11_method_45_code
def yX9_run : MethodName := ⟨RX9, "run", "(IIII)I"⟩
abbrev cX9_areNumbers : ByteArray := prog_11_method_46_code
def yX9_areNumbers : MethodName := ⟨RX9, "areNumbers", "(II)Z"⟩
abbrev cX9_ends : ByteArray := prog_11_method_47_code
def yX9_ends : MethodName := ⟨RX9, "ends", "(II)I"⟩
abbrev cX9_matters : ByteArray := prog_11_method_48_code
def yX9_matters : MethodName := ⟨RX9, "matters", "(II)I"⟩
abbrev cX9_steps : ByteArray := prog_11_method_49_code
def yX9_steps : MethodName := ⟨RX9, "steps", "(II)I"⟩
abbrev cX9_unlike : ByteArray := prog_11_method_50_code
def yX9_unlike : MethodName := ⟨RX9, "unlike", "(IIII)I"⟩
abbrev cX9_told : ByteArray := prog_11_method_51_code
def yX9_told : MethodName := ⟨RX9, "told", "(I)I"⟩
def RJ9 : String := "java/lang/Math"
def TJ9 : u_T := fun k => match k with
  | _ => ("", "", "", false)
def tyJ9 : Nat → FieldType := fun k => match k with
  | _ => .int
abbrev wsJ90 : List Cond := u_ws RJ9 TJ9 0
theorem nmJ9 : ∀ a, a < 0 → ∀ b, b < 0 → a ≠ b → (TJ9 a).2.1 ≠ (TJ9 b).2.1 := by decide +kernel
theorem tyJ9_ok : ∀ k, k < 0 → parseFieldDescriptor (TJ9 k).2.2.1 = some (tyJ9 k) := by decide +kernel
abbrev cJ9_max_7cf53 : ByteArray := prog_12_method_65_code
def yJ9_max_7cf53 : MethodName := ⟨RJ9, "max", "(II)I"⟩
abbrev cJ9_min_7cf53 : ByteArray := prog_12_method_69_code
def yJ9_min_7cf53 : MethodName := ⟨RJ9, "min", "(II)I"⟩
def RJ7 : String := "java/util/Arrays"
def TJ7 : u_T := fun k => match k with
  | _ => ("", "", "", false)
def tyJ7 : Nat → FieldType := fun k => match k with
  | _ => .int
abbrev wsJ70 : List Cond := u_ws RJ7 TJ7 0
theorem nmJ7 : ∀ a, a < 0 → ∀ b, b < 0 → a ≠ b → (TJ7 a).2.1 ≠ (TJ7 b).2.1 := by decide +kernel
theorem tyJ7_ok : ∀ k, k < 0 → parseFieldDescriptor (TJ7 k).2.2.1 = some (tyJ7 k) := by decide +kernel
abbrev cJ7_fill_53178 : ByteArray := prog_13_method_103_code
def yJ7_fill_53178 : MethodName := ⟨RJ7, "fill", "([II)V"⟩
def RL : String := "NeedTablesLaw"
abbrev cL_law : ByteArray := code
def yL_law : MethodName := ⟨RL, "law", "([I)Z"⟩
abbrev vwCl : List vw_C := [(RX0, TX0, 6), (RX1, TX1, 4), (RX2, TX2, 18), (RX3, TX3, 2), (RX4, TX4, 2), (RX5, TX5, 2), (RX7, TX7, 4), (RX8, TX8, 6), (RX9, TX9, 25)]
