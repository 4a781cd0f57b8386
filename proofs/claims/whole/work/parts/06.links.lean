/-! links, by program -/
theorem inG_0 : ∀ w ∈ u_ws RX0 TX0 6, w ∈ lw_g := by decide +kernel
theorem kl_0 : Kl 0 RX0 TX0 6 tyX0 := ⟨rfl, inG_0, tyX0_ok, nmX0⟩
theorem inG_1 : ∀ w ∈ u_ws RX1 TX1 4, w ∈ lw_g := by decide +kernel
theorem kl_1 : Kl 1 RX1 TX1 4 tyX1 := ⟨rfl, inG_1, tyX1_ok, nmX1⟩
theorem inG_2 : ∀ w ∈ u_ws RX2 TX2 18, w ∈ lw_g := by decide +kernel
theorem kl_2 : Kl 2 RX2 TX2 18 tyX2 := ⟨rfl, inG_2, tyX2_ok, nmX2⟩
theorem inG_3 : ∀ w ∈ u_ws RX3 TX3 2, w ∈ lw_g := by decide +kernel
theorem kl_3 : Kl 3 RX3 TX3 2 tyX3 := ⟨rfl, inG_3, tyX3_ok, nmX3⟩
theorem inG_4 : ∀ w ∈ u_ws RX4 TX4 2, w ∈ lw_g := by decide +kernel
theorem kl_4 : Kl 4 RX4 TX4 2 tyX4 := ⟨rfl, inG_4, tyX4_ok, nmX4⟩
theorem inG_5 : ∀ w ∈ u_ws RX5 TX5 2, w ∈ lw_g := by decide +kernel
theorem kl_5 : Kl 5 RX5 TX5 2 tyX5 := ⟨rfl, inG_5, tyX5_ok, nmX5⟩
theorem inG_6 : ∀ w ∈ u_ws RX7 TX7 4, w ∈ lw_g := by decide +kernel
theorem kl_6 : Kl 6 RX7 TX7 4 tyX7 := ⟨rfl, inG_6, tyX7_ok, nmX7⟩
theorem inG_7 : ∀ w ∈ u_ws RX8 TX8 6, w ∈ lw_g := by decide +kernel
theorem kl_7 : Kl 7 RX8 TX8 6 tyX8 := ⟨rfl, inG_7, tyX8_ok, nmX8⟩
theorem inG_8 : ∀ w ∈ u_ws RX9 TX9 25, w ∈ lw_g := by decide +kernel
theorem kl_8 : Kl 8 RX9 TX9 25 tyX9 := ⟨rfl, inG_8, tyX9_ok, nmX9⟩
theorem kb_X8_init : CkB yX8_init cX8_init 1 none 0 := ⟨mg 56 (by decide +kernel) rfl, mg 72 (by decide +kernel) rfl, by decide +kernel, by decide +kernel, by decide +kernel⟩
theorem kb_X8_allArguments : CkB yX8_allArguments cX8_allArguments 1 (some .int) 1 := ⟨mg 56 (by decide +kernel) rfl, mg 364 (by decide +kernel) rfl, by decide +kernel, by decide +kernel, by decide +kernel⟩
theorem kb_X8_argumentsOf : CkB yX8_argumentsOf cX8_argumentsOf 1 (some .int) 1 := ⟨mg 56 (by decide +kernel) rfl, mg 148 (by decide +kernel) rfl, by decide +kernel, by decide +kernel, by decide +kernel⟩
theorem kb_X8_asAnswer : CkB yX8_asAnswer cX8_asAnswer 1 (some .int) 1 := ⟨mg 56 (by decide +kernel) rfl, mg 645 (by decide +kernel) rfl, by decide +kernel, by decide +kernel, by decide +kernel⟩
theorem kb_X8_body : CkB yX8_body cX8_body 2 (some .int) 1 := ⟨mg 56 (by decide +kernel) rfl, mg 490 (by decide +kernel) rfl, by decide +kernel, by decide +kernel, by decide +kernel⟩
theorem kb_X8_ends : CkB yX8_ends cX8_ends 6 (some .int) 2 := ⟨mg 56 (by decide +kernel) rfl, mg 678 (by decide +kernel) rfl, by decide +kernel, by decide +kernel, by decide +kernel⟩
theorem kb_X8_fault : CkB yX8_fault cX8_fault 2 (some .int) 1 := ⟨mg 56 (by decide +kernel) rfl, mg 463 (by decide +kernel) rfl, by decide +kernel, by decide +kernel, by decide +kernel⟩
theorem kb_X8_hasArgument : CkB yX8_hasArgument cX8_hasArgument 2 (some .boolean) 2 := ⟨mg 56 (by decide +kernel) rfl, mg 481 (by decide +kernel) rfl, by decide +kernel, by decide +kernel, by decide +kernel⟩
theorem kb_X8_hasNode : CkB yX8_hasNode cX8_hasNode 3 (some .boolean) 2 := ⟨mg 56 (by decide +kernel) rfl, mg 509 (by decide +kernel) rfl, by decide +kernel, by decide +kernel, by decide +kernel⟩
theorem kb_X8_isFunction : CkB yX8_isFunction cX8_isFunction 1 (some .boolean) 1 := ⟨mg 56 (by decide +kernel) rfl, mg 115 (by decide +kernel) rfl, by decide +kernel, by decide +kernel, by decide +kernel⟩
theorem kb_X8_isPlace : CkB yX8_isPlace cX8_isPlace 1 (some .boolean) 1 := ⟨mg 56 (by decide +kernel) rfl, mg 122 (by decide +kernel) rfl, by decide +kernel, by decide +kernel, by decide +kernel⟩
theorem kb_X8_isWay : CkB yX8_isWay cX8_isWay 1 (some .boolean) 1 := ⟨mg 56 (by decide +kernel) rfl, mg 525 (by decide +kernel) rfl, by decide +kernel, by decide +kernel, by decide +kernel⟩
theorem kb_X8_joint : CkB yX8_joint cX8_joint 5 (some .int) 2 := ⟨mg 56 (by decide +kernel) rfl, mg 654 (by decide +kernel) rfl, by decide +kernel, by decide +kernel, by decide +kernel⟩
theorem kb_X8_matters : CkB yX8_matters cX8_matters 7 (some .int) 2 := ⟨mg 56 (by decide +kernel) rfl, mg 693 (by decide +kernel) rfl, by decide +kernel, by decide +kernel, by decide +kernel⟩
theorem kb_X8_may : CkB yX8_may cX8_may 3 (some .int) 2 := ⟨mg 56 (by decide +kernel) rfl, mg 640 (by decide +kernel) rfl, by decide +kernel, by decide +kernel, by decide +kernel⟩
theorem kb_X8_must : CkB yX8_must cX8_must 2 (some .int) 1 := ⟨mg 56 (by decide +kernel) rfl, mg 649 (by decide +kernel) rfl, by decide +kernel, by decide +kernel, by decide +kernel⟩
theorem kb_X8_node : CkB yX8_node cX8_node 5 (some .int) 3 := ⟨mg 56 (by decide +kernel) rfl, mg 505 (by decide +kernel) rfl, by decide +kernel, by decide +kernel, by decide +kernel⟩
theorem kb_X8_numbersTold : CkB yX8_numbersTold cX8_numbersTold 4 (some .int) 2 := ⟨mg 56 (by decide +kernel) rfl, mg 683 (by decide +kernel) rfl, by decide +kernel, by decide +kernel, by decide +kernel⟩
theorem kb_X8_part : CkB yX8_part cX8_part 5 (some .int) 3 := ⟨mg 56 (by decide +kernel) rfl, mg 672 (by decide +kernel) rfl, by decide +kernel, by decide +kernel, by decide +kernel⟩
theorem kb_X8_run : CkB yX8_run cX8_run 5 (some .int) 4 := ⟨mg 56 (by decide +kernel) rfl, mg 520 (by decide +kernel) rfl, by decide +kernel, by decide +kernel, by decide +kernel⟩
theorem kb_X8_say : CkB yX8_say cX8_say 2 (some .int) 1 := ⟨mg 56 (by decide +kernel) rfl, mg 443 (by decide +kernel) rfl, by decide +kernel, by decide +kernel, by decide +kernel⟩
theorem kb_X8_shiftOf : CkB yX8_shiftOf cX8_shiftOf 2 (some .int) 2 := ⟨mg 56 (by decide +kernel) rfl, mg 686 (by decide +kernel) rfl, by decide +kernel, by decide +kernel, by decide +kernel⟩
theorem kb_X8_sortOfEnd : CkB yX8_sortOfEnd cX8_sortOfEnd 1 (some .int) 1 := ⟨mg 56 (by decide +kernel) rfl, mg 689 (by decide +kernel) rfl, by decide +kernel, by decide +kernel, by decide +kernel⟩
theorem kb_X8_steps : CkB yX8_steps cX8_steps 6 (some .int) 2 := ⟨mg 56 (by decide +kernel) rfl, mg 697 (by decide +kernel) rfl, by decide +kernel, by decide +kernel, by decide +kernel⟩
theorem kb_X8_told : CkB yX8_told cX8_told 2 (some .int) 1 := ⟨mg 56 (by decide +kernel) rfl, mg 705 (by decide +kernel) rfl, by decide +kernel, by decide +kernel, by decide +kernel⟩
theorem kb_X8_unlike : CkB yX8_unlike cX8_unlike 8 (some .int) 4 := ⟨mg 56 (by decide +kernel) rfl, mg 701 (by decide +kernel) rfl, by decide +kernel, by decide +kernel, by decide +kernel⟩
theorem kb_X8_uses : CkB yX8_uses cX8_uses 3 (some .int) 2 := ⟨mg 56 (by decide +kernel) rfl, mg 666 (by decide +kernel) rfl, by decide +kernel, by decide +kernel, by decide +kernel⟩
theorem kb_X8_wipe : CkB yX8_wipe cX8_wipe 2 (some .int) 0 := ⟨mg 56 (by decide +kernel) rfl, mg 455 (by decide +kernel) rfl, by decide +kernel, by decide +kernel, by decide +kernel⟩
theorem kb_X0_init : CkB yX0_init cX0_init 2 none 0 := ⟨mg 59 (by decide +kernel) rfl, mg 107 (by decide +kernel) rfl, by decide +kernel, by decide +kernel, by decide +kernel⟩
theorem kb_X0_count : CkB yX0_count cX0_count 2 (some .int) 1 := ⟨mg 59 (by decide +kernel) rfl, mg 137 (by decide +kernel) rfl, by decide +kernel, by decide +kernel, by decide +kernel⟩
theorem kb_X0_depthAt : CkB yX0_depthAt cX0_depthAt 2 (some .int) 1 := ⟨mg 59 (by decide +kernel) rfl, mg 167 (by decide +kernel) rfl, by decide +kernel, by decide +kernel, by decide +kernel⟩
theorem kb_X0_kindAt : CkB yX0_kindAt cX0_kindAt 2 (some .int) 1 := ⟨mg 59 (by decide +kernel) rfl, mg 320 (by decide +kernel) rfl, by decide +kernel, by decide +kernel, by decide +kernel⟩
theorem kb_X0_measure : CkB yX0_measure cX0_measure 6 none 1 := ⟨mg 59 (by decide +kernel) rfl, mg 133 (by decide +kernel) rfl, by decide +kernel, by decide +kernel, by decide +kernel⟩
theorem kb_X0_put : CkB yX0_put cX0_put 4 none 2 := ⟨mg 59 (by decide +kernel) rfl, mg 494 (by decide +kernel) rfl, by decide +kernel, by decide +kernel, by decide +kernel⟩
theorem kb_X0_root : CkB yX0_root cX0_root 2 (some .int) 1 := ⟨mg 59 (by decide +kernel) rfl, mg 112 (by decide +kernel) rfl, by decide +kernel, by decide +kernel, by decide +kernel⟩
theorem kb_X0_setDepth : CkB yX0_setDepth cX0_setDepth 3 none 2 := ⟨mg 59 (by decide +kernel) rfl, mg 163 (by decide +kernel) rfl, by decide +kernel, by decide +kernel, by decide +kernel⟩
theorem kb_X0_setSign : CkB yX0_setSign cX0_setSign 3 none 2 := ⟨mg 59 (by decide +kernel) rfl, mg 119 (by decide +kernel) rfl, by decide +kernel, by decide +kernel, by decide +kernel⟩
theorem kb_X0_setSpan : CkB yX0_setSpan cX0_setSpan 3 none 2 := ⟨mg 59 (by decide +kernel) rfl, mg 159 (by decide +kernel) rfl, by decide +kernel, by decide +kernel, by decide +kernel⟩
theorem kb_X0_signAt : CkB yX0_signAt cX0_signAt 2 (some .int) 1 := ⟨mg 59 (by decide +kernel) rfl, mg 141 (by decide +kernel) rfl, by decide +kernel, by decide +kernel, by decide +kernel⟩
theorem kb_X0_spanAt : CkB yX0_spanAt cX0_spanAt 2 (some .int) 1 := ⟨mg 59 (by decide +kernel) rfl, mg 515 (by decide +kernel) rfl, by decide +kernel, by decide +kernel, by decide +kernel⟩
theorem kb_X0_textPlace : CkB yX0_textPlace cX0_textPlace 5 (some .int) 2 := ⟨mg 59 (by decide +kernel) rfl, mg 155 (by decide +kernel) rfl, by decide +kernel, by decide +kernel, by decide +kernel⟩
theorem kb_X0_worthAt : CkB yX0_worthAt cX0_worthAt 2 (some .int) 1 := ⟨mg 59 (by decide +kernel) rfl, mg 324 (by decide +kernel) rfl, by decide +kernel, by decide +kernel, by decide +kernel⟩
theorem kb_X1_init : CkB yX1_init cX1_init 2 none 1 := ⟨mg 62 (by decide +kernel) rfl, mg 210 (by decide +kernel) rfl, by decide +kernel, by decide +kernel, by decide +kernel⟩
theorem kb_X1_callCount : CkB yX1_callCount cX1_callCount 5 (some .int) 2 := ⟨mg 62 (by decide +kernel) rfl, mg 402 (by decide +kernel) rfl, by decide +kernel, by decide +kernel, by decide +kernel⟩
theorem kb_X1_countAt : CkB yX1_countAt cX1_countAt 2 (some .int) 1 := ⟨mg 62 (by decide +kernel) rfl, mg 416 (by decide +kernel) rfl, by decide +kernel, by decide +kernel, by decide +kernel⟩
theorem kb_X1_countIn : CkB yX1_countIn cX1_countIn 5 (some .int) 2 := ⟨mg 62 (by decide +kernel) rfl, mg 378 (by decide +kernel) rfl, by decide +kernel, by decide +kernel, by decide +kernel⟩
theorem kb_X1_countOf : CkB yX1_countOf cX1_countOf 4 (some .int) 2 := ⟨mg 62 (by decide +kernel) rfl, mg 384 (by decide +kernel) rfl, by decide +kernel, by decide +kernel, by decide +kernel⟩
theorem kb_X1_of : CkB yX1_of cX1_of 3 (some .int) 2 := ⟨mg 62 (by decide +kernel) rfl, mg 407 (by decide +kernel) rfl, by decide +kernel, by decide +kernel, by decide +kernel⟩
theorem kb_X1_renew : CkB yX1_renew cX1_renew 4 none 0 := ⟨mg 62 (by decide +kernel) rfl, mg 373 (by decide +kernel) rfl, by decide +kernel, by decide +kernel, by decide +kernel⟩
theorem kb_X1_setCount : CkB yX1_setCount cX1_setCount 3 none 2 := ⟨mg 62 (by decide +kernel) rfl, mg 412 (by decide +kernel) rfl, by decide +kernel, by decide +kernel, by decide +kernel⟩
theorem kb_X1_takeNext : CkB yX1_takeNext cX1_takeNext 3 (some .boolean) 0 := ⟨mg 62 (by decide +kernel) rfl, mg 420 (by decide +kernel) rfl, by decide +kernel, by decide +kernel, by decide +kernel⟩
theorem kb_X1_textCount : CkB yX1_textCount cX1_textCount 4 (some .int) 2 := ⟨mg 62 (by decide +kernel) rfl, mg 390 (by decide +kernel) rfl, by decide +kernel, by decide +kernel, by decide +kernel⟩
theorem kb_X2_init : CkB yX2_init cX2_init 3 none 2 := ⟨mg 64 (by decide +kernel) rfl, mg 231 (by decide +kernel) rfl, by decide +kernel, by decide +kernel, by decide +kernel⟩
theorem kb_X2_acted : CkB yX2_acted cX2_acted 3 (some .int) 3 := ⟨mg 64 (by decide +kernel) rfl, mg 590 (by decide +kernel) rfl, by decide +kernel, by decide +kernel, by decide +kernel⟩
theorem kb_X2_await : CkB yX2_await cX2_await 4 none 3 := ⟨mg 64 (by decide +kernel) rfl, mg 585 (by decide +kernel) rfl, by decide +kernel, by decide +kernel, by decide +kernel⟩
theorem kb_X2_begin : CkB yX2_begin cX2_begin 1 none 0 := ⟨mg 64 (by decide +kernel) rfl, mg 610 (by decide +kernel) rfl, by decide +kernel, by decide +kernel, by decide +kernel⟩
theorem kb_X2_beginArgument : CkB yX2_beginArgument cX2_beginArgument 3 none 1 := ⟨mg 64 (by decide +kernel) rfl, mg 614 (by decide +kernel) rfl, by decide +kernel, by decide +kernel, by decide +kernel⟩
theorem kb_X2_beginCall : CkB yX2_beginCall cX2_beginCall 4 none 1 := ⟨mg 64 (by decide +kernel) rfl, mg 618 (by decide +kernel) rfl, by decide +kernel, by decide +kernel, by decide +kernel⟩
theorem kb_X2_chooseAhead : CkB yX2_chooseAhead cX2_chooseAhead 2 none 0 := ⟨mg 64 (by decide +kernel) rfl, mg 541 (by decide +kernel) rfl, by decide +kernel, by decide +kernel, by decide +kernel⟩
theorem kb_X2_end : CkB yX2_end cX2_end 1 (some .int) 0 := ⟨mg 64 (by decide +kernel) rfl, mg 630 (by decide +kernel) rfl, by decide +kernel, by decide +kernel, by decide +kernel⟩
theorem kb_X2_give : CkB yX2_give cX2_give 2 none 1 := ⟨mg 64 (by decide +kernel) rfl, mg 595 (by decide +kernel) rfl, by decide +kernel, by decide +kernel, by decide +kernel⟩
theorem kb_X2_giveBack : CkB yX2_giveBack cX2_giveBack 4 none 0 := ⟨mg 64 (by decide +kernel) rfl, mg 576 (by decide +kernel) rfl, by decide +kernel, by decide +kernel, by decide +kernel⟩
theorem kb_X2_goOnActing : CkB yX2_goOnActing cX2_goOnActing 4 none 3 := ⟨mg 64 (by decide +kernel) rfl, mg 581 (by decide +kernel) rfl, by decide +kernel, by decide +kernel, by decide +kernel⟩
theorem kb_X2_goOnCalling : CkB yX2_goOnCalling cX2_goOnCalling 6 none 3 := ⟨mg 64 (by decide +kernel) rfl, mg 602 (by decide +kernel) rfl, by decide +kernel, by decide +kernel, by decide +kernel⟩
theorem kb_X2_goTo : CkB yX2_goTo cX2_goTo 3 none 2 := ⟨mg 64 (by decide +kernel) rfl, mg 572 (by decide +kernel) rfl, by decide +kernel, by decide +kernel, by decide +kernel⟩
theorem kb_X2_goToSlot : CkB yX2_goToSlot cX2_goToSlot 2 none 1 := ⟨mg 64 (by decide +kernel) rfl, mg 606 (by decide +kernel) rfl, by decide +kernel, by decide +kernel, by decide +kernel⟩
theorem kb_X2_hang : CkB yX2_hang cX2_hang 4 none 3 := ⟨mg 64 (by decide +kernel) rfl, mg 622 (by decide +kernel) rfl, by decide +kernel, by decide +kernel, by decide +kernel⟩
theorem kb_X2_heldIn : CkB yX2_heldIn cX2_heldIn 2 (some .int) 1 := ⟨mg 64 (by decide +kernel) rfl, mg 562 (by decide +kernel) rfl, by decide +kernel, by decide +kernel, by decide +kernel⟩
theorem kb_X2_isAhead : CkB yX2_isAhead cX2_isAhead 3 (some .boolean) 2 := ⟨mg 64 (by decide +kernel) rfl, mg 566 (by decide +kernel) rfl, by decide +kernel, by decide +kernel, by decide +kernel⟩
theorem kb_X2_isSlot : CkB yX2_isSlot cX2_isSlot 1 (some .boolean) 1 := ⟨mg 64 (by decide +kernel) rfl, mg 558 (by decide +kernel) rfl, by decide +kernel, by decide +kernel, by decide +kernel⟩
theorem kb_X2_play : CkB yX2_play cX2_play 5 none 3 := ⟨mg 64 (by decide +kernel) rfl, mg 537 (by decide +kernel) rfl, by decide +kernel, by decide +kernel, by decide +kernel⟩
theorem kb_X2_setSlot : CkB yX2_setSlot cX2_setSlot 3 none 2 := ⟨mg 64 (by decide +kernel) rfl, mg 555 (by decide +kernel) rfl, by decide +kernel, by decide +kernel, by decide +kernel⟩
theorem kb_X2_slotOf : CkB yX2_slotOf cX2_slotOf 2 (some .int) 2 := ⟨mg 64 (by decide +kernel) rfl, mg 598 (by decide +kernel) rfl, by decide +kernel, by decide +kernel, by decide +kernel⟩
theorem kb_X2_takeTold : CkB yX2_takeTold cX2_takeTold 5 none 2 := ⟨mg 64 (by decide +kernel) rfl, mg 550 (by decide +kernel) rfl, by decide +kernel, by decide +kernel, by decide +kernel⟩
theorem kb_X2_taken : CkB yX2_taken cX2_taken 1 (some .int) 0 := ⟨mg 64 (by decide +kernel) rfl, mg 626 (by decide +kernel) rfl, by decide +kernel, by decide +kernel, by decide +kernel⟩
theorem kb_X3_init : CkB yX3_init cX3_init 2 none 1 := ⟨mg 63 (by decide +kernel) rfl, mg 290 (by decide +kernel) rfl, by decide +kernel, by decide +kernel, by decide +kernel⟩
theorem kb_X3_endIn : CkB yX3_endIn cX3_endIn 1 (some .int) 1 := ⟨mg 63 (by decide +kernel) rfl, mg 633 (by decide +kernel) rfl, by decide +kernel, by decide +kernel, by decide +kernel⟩
theorem kb_X3_forget : CkB yX3_forget cX3_forget 1 none 0 := ⟨mg 63 (by decide +kernel) rfl, mg 500 (by decide +kernel) rfl, by decide +kernel, by decide +kernel, by decide +kernel⟩
theorem kb_X3_of : CkB yX3_of cX3_of 5 (some .int) 3 := ⟨mg 63 (by decide +kernel) rfl, mg 529 (by decide +kernel) rfl, by decide +kernel, by decide +kernel, by decide +kernel⟩
theorem kb_X3_stepsIn : CkB yX3_stepsIn cX3_stepsIn 1 (some .int) 1 := ⟨mg 63 (by decide +kernel) rfl, mg 636 (by decide +kernel) rfl, by decide +kernel, by decide +kernel, by decide +kernel⟩
theorem kb_X4_init : CkB yX4_init cX4_init 1 none 0 := ⟨mg 57 (by decide +kernel) rfl, mg 80 (by decide +kernel) rfl, by decide +kernel, by decide +kernel, by decide +kernel⟩
theorem kb_X4_add : CkB yX4_add cX4_add 2 (some .boolean) 1 := ⟨mg 57 (by decide +kernel) rfl, mg 447 (by decide +kernel) rfl, by decide +kernel, by decide +kernel, by decide +kernel⟩
theorem kb_X4_clear : CkB yX4_clear cX4_clear 1 none 0 := ⟨mg 57 (by decide +kernel) rfl, mg 459 (by decide +kernel) rfl, by decide +kernel, by decide +kernel, by decide +kernel⟩
theorem kb_X4_count : CkB yX4_count cX4_count 1 (some .int) 0 := ⟨mg 57 (by decide +kernel) rfl, mg 451 (by decide +kernel) rfl, by decide +kernel, by decide +kernel, by decide +kernel⟩
theorem kb_X4_signAt : CkB yX4_signAt cX4_signAt 2 (some .int) 1 := ⟨mg 57 (by decide +kernel) rfl, mg 472 (by decide +kernel) rfl, by decide +kernel, by decide +kernel, by decide +kernel⟩
theorem kb_X5_init : CkB yX5_init cX5_init 1 none 0 := ⟨mg 58 (by decide +kernel) rfl, mg 94 (by decide +kernel) rfl, by decide +kernel, by decide +kernel, by decide +kernel⟩
theorem kb_X5_canStand : CkB yX5_canStand cX5_canStand 3 (some .boolean) 2 := ⟨mg 58 (by decide +kernel) rfl, mg 476 (by decide +kernel) rfl, by decide +kernel, by decide +kernel, by decide +kernel⟩
theorem kb_X5_firstFault : CkB yX5_firstFault cX5_firstFault 5 (some .int) 2 := ⟨mg 58 (by decide +kernel) rfl, mg 467 (by decide +kernel) rfl, by decide +kernel, by decide +kernel, by decide +kernel⟩
theorem kb_X5_pass : CkB yX5_pass cX5_pass 2 none 1 := ⟨mg 58 (by decide +kernel) rfl, mg 486 (by decide +kernel) rfl, by decide +kernel, by decide +kernel, by decide +kernel⟩
theorem kb_X6_kindOf : CkB yX6_kindOf cX6_kindOf 1 (some .int) 1 := ⟨mg 60 (by decide +kernel) rfl, mg 125 (by decide +kernel) rfl, by decide +kernel, by decide +kernel, by decide +kernel⟩
theorem kb_X6_textsOf : CkB yX6_textsOf cX6_textsOf 1 (some .int) 1 := ⟨mg 60 (by decide +kernel) rfl, mg 144 (by decide +kernel) rfl, by decide +kernel, by decide +kernel, by decide +kernel⟩
theorem kb_X6_worthOf : CkB yX6_worthOf cX6_worthOf 1 (some .int) 1 := ⟨mg 60 (by decide +kernel) rfl, mg 128 (by decide +kernel) rfl, by decide +kernel, by decide +kernel, by decide +kernel⟩
theorem kb_X7_init : CkB yX7_init cX7_init 2 none 1 := ⟨mg 61 (by decide +kernel) rfl, mg 191 (by decide +kernel) rfl, by decide +kernel, by decide +kernel, by decide +kernel⟩
theorem kb_X7_callRow : CkB yX7_callRow cX7_callRow 7 (some .int) 2 := ⟨mg 61 (by decide +kernel) rfl, mg 339 (by decide +kernel) rfl, by decide +kernel, by decide +kernel, by decide +kernel⟩
theorem kb_X7_fillRows : CkB yX7_fillRows cX7_fillRows 4 none 0 := ⟨mg 61 (by decide +kernel) rfl, mg 310 (by decide +kernel) rfl, by decide +kernel, by decide +kernel, by decide +kernel⟩
theorem kb_X7_has : CkB yX7_has cX7_has 3 (some .boolean) 2 := ⟨mg 61 (by decide +kernel) rfl, mg 344 (by decide +kernel) rfl, by decide +kernel, by decide +kernel, by decide +kernel⟩
theorem kb_X7_hasAt : CkB yX7_hasAt cX7_hasAt 3 (some .boolean) 2 := ⟨mg 61 (by decide +kernel) rfl, mg 369 (by decide +kernel) rfl, by decide +kernel, by decide +kernel, by decide +kernel⟩
theorem kb_X7_isJoint : CkB yX7_isJoint cX7_isJoint 4 (some .boolean) 2 := ⟨mg 61 (by decide +kernel) rfl, mg 658 (by decide +kernel) rfl, by decide +kernel, by decide +kernel, by decide +kernel⟩
theorem kb_X7_neededAt : CkB yX7_neededAt cX7_neededAt 5 (some .int) 2 := ⟨mg 61 (by decide +kernel) rfl, mg 361 (by decide +kernel) rfl, by decide +kernel, by decide +kernel, by decide +kernel⟩
theorem kb_X7_neededOf : CkB yX7_neededOf cX7_neededOf 2 (some .int) 1 := ⟨mg 61 (by decide +kernel) rfl, mg 546 (by decide +kernel) rfl, by decide +kernel, by decide +kernel, by decide +kernel⟩
theorem kb_X7_renew : CkB yX7_renew cX7_renew 3 none 0 := ⟨mg 61 (by decide +kernel) rfl, mg 305 (by decide +kernel) rfl, by decide +kernel, by decide +kernel, by decide +kernel⟩
theorem kb_X7_rowAt : CkB yX7_rowAt cX7_rowAt 2 (some .int) 1 := ⟨mg 61 (by decide +kernel) rfl, mg 357 (by decide +kernel) rfl, by decide +kernel, by decide +kernel, by decide +kernel⟩
theorem kb_X7_rowOf : CkB yX7_rowOf cX7_rowOf 2 (some .int) 1 := ⟨mg 61 (by decide +kernel) rfl, mg 316 (by decide +kernel) rfl, by decide +kernel, by decide +kernel, by decide +kernel⟩
theorem kb_X7_setRow : CkB yX7_setRow cX7_setRow 3 none 2 := ⟨mg 61 (by decide +kernel) rfl, mg 349 (by decide +kernel) rfl, by decide +kernel, by decide +kernel, by decide +kernel⟩
theorem kb_X7_setsWith : CkB yX7_setsWith cX7_setsWith 1 (some .int) 1 := ⟨mg 61 (by decide +kernel) rfl, mg 327 (by decide +kernel) rfl, by decide +kernel, by decide +kernel, by decide +kernel⟩
theorem kb_X7_stops : CkB yX7_stops cX7_stops 3 (some .boolean) 2 := ⟨mg 61 (by decide +kernel) rfl, mg 662 (by decide +kernel) rfl, by decide +kernel, by decide +kernel, by decide +kernel⟩
theorem kb_X7_takeRoots : CkB yX7_takeRoots cX7_takeRoots 4 (some .boolean) 0 := ⟨mg 61 (by decide +kernel) rfl, mg 353 (by decide +kernel) rfl, by decide +kernel, by decide +kernel, by decide +kernel⟩
theorem kb_X7_textRow : CkB yX7_textRow cX7_textRow 4 (some .int) 2 := ⟨mg 61 (by decide +kernel) rfl, mg 333 (by decide +kernel) rfl, by decide +kernel, by decide +kernel, by decide +kernel⟩
theorem kb_X9_init : CkB yX9_init cX9_init 2 none 0 := ⟨mg 67 (by decide +kernel) rfl, mg 710 (by decide +kernel) rfl, by decide +kernel, by decide +kernel, by decide +kernel⟩
theorem kb_X9_act : CkB yX9_act cX9_act 3 (some .int) 3 := ⟨mg 67 (by decide +kernel) rfl, mg 952 (by decide +kernel) rfl, by decide +kernel, by decide +kernel, by decide +kernel⟩
theorem kb_X9_allOf : CkB yX9_allOf cX9_allOf 1 (some .int) 1 := ⟨mg 67 (by decide +kernel) rfl, mg 869 (by decide +kernel) rfl, by decide +kernel, by decide +kernel, by decide +kernel⟩
theorem kb_X9_areNumbers : CkB yX9_areNumbers cX9_areNumbers 4 (some .boolean) 2 := ⟨mg 67 (by decide +kernel) rfl, mg 960 (by decide +kernel) rfl, by decide +kernel, by decide +kernel, by decide +kernel⟩
theorem kb_X9_argumentsOf : CkB yX9_argumentsOf cX9_argumentsOf 1 (some .int) 1 := ⟨mg 67 (by decide +kernel) rfl, mg 718 (by decide +kernel) rfl, by decide +kernel, by decide +kernel, by decide +kernel⟩
theorem kb_X9_begin : CkB yX9_begin cX9_begin 4 none 1 := ⟨mg 67 (by decide +kernel) rfl, mg 925 (by decide +kernel) rfl, by decide +kernel, by decide +kernel, by decide +kernel⟩
theorem kb_X9_beginArgument : CkB yX9_beginArgument cX9_beginArgument 3 none 2 := ⟨mg 67 (by decide +kernel) rfl, mg 941 (by decide +kernel) rfl, by decide +kernel, by decide +kernel, by decide +kernel⟩
theorem kb_X9_beginCall : CkB yX9_beginCall cX9_beginCall 6 none 3 := ⟨mg 67 (by decide +kernel) rfl, mg 929 (by decide +kernel) rfl, by decide +kernel, by decide +kernel, by decide +kernel⟩
theorem kb_X9_body : CkB yX9_body cX9_body 5 (some .int) 1 := ⟨mg 67 (by decide +kernel) rfl, mg 853 (by decide +kernel) rfl, by decide +kernel, by decide +kernel, by decide +kernel⟩
theorem kb_X9_calledBy : CkB yX9_calledBy cX9_calledBy 1 (some .int) 1 := ⟨mg 67 (by decide +kernel) rfl, mg 725 (by decide +kernel) rfl, by decide +kernel, by decide +kernel, by decide +kernel⟩
theorem kb_X9_come : CkB yX9_come cX9_come 2 none 1 := ⟨mg 67 (by decide +kernel) rfl, mg 945 (by decide +kernel) rfl, by decide +kernel, by decide +kernel, by decide +kernel⟩
theorem kb_X9_ends : CkB yX9_ends cX9_ends 5 (some .int) 2 := ⟨mg 67 (by decide +kernel) rfl, mg 956 (by decide +kernel) rfl, by decide +kernel, by decide +kernel, by decide +kernel⟩
theorem kb_X9_fault : CkB yX9_fault cX9_fault 6 (some .int) 1 := ⟨mg 67 (by decide +kernel) rfl, mg 840 (by decide +kernel) rfl, by decide +kernel, by decide +kernel, by decide +kernel⟩
theorem kb_X9_findMay : CkB yX9_findMay cX9_findMay 8 none 2 := ⟨mg 67 (by decide +kernel) rfl, mg 722 (by decide +kernel) rfl, by decide +kernel, by decide +kernel, by decide +kernel⟩
theorem kb_X9_findUses : CkB yX9_findUses cX9_findUses 8 (some .int) 2 := ⟨mg 67 (by decide +kernel) rfl, mg 744 (by decide +kernel) rfl, by decide +kernel, by decide +kernel, by decide +kernel⟩
theorem kb_X9_go : CkB yX9_go cX9_go 3 none 2 := ⟨mg 67 (by decide +kernel) rfl, mg 921 (by decide +kernel) rfl, by decide +kernel, by decide +kernel, by decide +kernel⟩
theorem kb_X9_goAhead : CkB yX9_goAhead cX9_goAhead 6 none 3 := ⟨mg 67 (by decide +kernel) rfl, mg 933 (by decide +kernel) rfl, by decide +kernel, by decide +kernel, by decide +kernel⟩
theorem kb_X9_goOn : CkB yX9_goOn cX9_goOn 5 none 0 := ⟨mg 67 (by decide +kernel) rfl, mg 949 (by decide +kernel) rfl, by decide +kernel, by decide +kernel, by decide +kernel⟩
theorem kb_X9_held : CkB yX9_held cX9_held 1 (some .int) 1 := ⟨mg 67 (by decide +kernel) rfl, mg 750 (by decide +kernel) rfl, by decide +kernel, by decide +kernel, by decide +kernel⟩
theorem kb_X9_in : CkB yX9_in cX9_in 6 (some .boolean) 3 := ⟨mg 67 (by decide +kernel) rfl, mg 740 (by decide +kernel) rfl, by decide +kernel, by decide +kernel, by decide +kernel⟩
theorem kb_X9_isAct : CkB yX9_isAct cX9_isAct 1 (some .boolean) 1 := ⟨mg 67 (by decide +kernel) rfl, mg 732 (by decide +kernel) rfl, by decide +kernel, by decide +kernel, by decide +kernel⟩
theorem kb_X9_isArgument : CkB yX9_isArgument cX9_isArgument 1 (some .boolean) 1 := ⟨mg 67 (by decide +kernel) rfl, mg 735 (by decide +kernel) rfl, by decide +kernel, by decide +kernel, by decide +kernel⟩
theorem kb_X9_isFunction : CkB yX9_isFunction cX9_isFunction 1 (some .boolean) 1 := ⟨mg 67 (by decide +kernel) rfl, mg 843 (by decide +kernel) rfl, by decide +kernel, by decide +kernel, by decide +kernel⟩
theorem kb_X9_isJoint : CkB yX9_isJoint cX9_isJoint 5 (some .boolean) 2 := ⟨mg 67 (by decide +kernel) rfl, mg 889 (by decide +kernel) rfl, by decide +kernel, by decide +kernel, by decide +kernel⟩
theorem kb_X9_isMust : CkB yX9_isMust cX9_isMust 3 (some .boolean) 2 := ⟨mg 67 (by decide +kernel) rfl, mg 877 (by decide +kernel) rfl, by decide +kernel, by decide +kernel, by decide +kernel⟩
theorem kb_X9_isNode : CkB yX9_isNode cX9_isNode 3 (some .boolean) 2 := ⟨mg 67 (by decide +kernel) rfl, mg 862 (by decide +kernel) rfl, by decide +kernel, by decide +kernel, by decide +kernel⟩
theorem kb_X9_isOf : CkB yX9_isOf cX9_isOf 2 (some .boolean) 2 := ⟨mg 67 (by decide +kernel) rfl, mg 896 (by decide +kernel) rfl, by decide +kernel, by decide +kernel, by decide +kernel⟩
theorem kb_X9_isWay : CkB yX9_isWay cX9_isWay 1 (some .boolean) 1 := ⟨mg 67 (by decide +kernel) rfl, mg 910 (by decide +kernel) rfl, by decide +kernel, by decide +kernel, by decide +kernel⟩
theorem kb_X9_joint : CkB yX9_joint cX9_joint 5 (some .int) 2 := ⟨mg 67 (by decide +kernel) rfl, mg 885 (by decide +kernel) rfl, by decide +kernel, by decide +kernel, by decide +kernel⟩
theorem kb_X9_layTables : CkB yX9_layTables cX9_layTables 5 none 0 := ⟨mg 67 (by decide +kernel) rfl, mg 715 (by decide +kernel) rfl, by decide +kernel, by decide +kernel, by decide +kernel⟩
theorem kb_X9_matters : CkB yX9_matters cX9_matters 6 (some .int) 2 := ⟨mg 67 (by decide +kernel) rfl, mg 964 (by decide +kernel) rfl, by decide +kernel, by decide +kernel, by decide +kernel⟩
theorem kb_X9_may : CkB yX9_may cX9_may 3 (some .int) 2 := ⟨mg 67 (by decide +kernel) rfl, mg 866 (by decide +kernel) rfl, by decide +kernel, by decide +kernel, by decide +kernel⟩
theorem kb_X9_mayCome : CkB yX9_mayCome cX9_mayCome 3 (some .boolean) 2 := ⟨mg 67 (by decide +kernel) rfl, mg 881 (by decide +kernel) rfl, by decide +kernel, by decide +kernel, by decide +kernel⟩
theorem kb_X9_most : CkB yX9_most cX9_most 2 (some .int) 2 := ⟨mg 67 (by decide +kernel) rfl, mg 747 (by decide +kernel) rfl, by decide +kernel, by decide +kernel, by decide +kernel⟩
theorem kb_X9_must : CkB yX9_must cX9_must 4 (some .int) 1 := ⟨mg 67 (by decide +kernel) rfl, mg 873 (by decide +kernel) rfl, by decide +kernel, by decide +kernel, by decide +kernel⟩
theorem kb_X9_node : CkB yX9_node cX9_node 5 (some .int) 3 := ⟨mg 67 (by decide +kernel) rfl, mg 858 (by decide +kernel) rfl, by decide +kernel, by decide +kernel, by decide +kernel⟩
theorem kb_X9_part : CkB yX9_part cX9_part 6 (some .int) 3 := ⟨mg 67 (by decide +kernel) rfl, mg 900 (by decide +kernel) rfl, by decide +kernel, by decide +kernel, by decide +kernel⟩
theorem kb_X9_partsOf : CkB yX9_partsOf cX9_partsOf 2 (some .int) 2 := ⟨mg 67 (by decide +kernel) rfl, mg 847 (by decide +kernel) rfl, by decide +kernel, by decide +kernel, by decide +kernel⟩
theorem kb_X9_rowsOf : CkB yX9_rowsOf cX9_rowsOf 1 (some .int) 1 := ⟨mg 67 (by decide +kernel) rfl, mg 907 (by decide +kernel) rfl, by decide +kernel, by decide +kernel, by decide +kernel⟩
theorem kb_X9_run : CkB yX9_run cX9_run 5 (some .int) 4 := ⟨mg 67 (by decide +kernel) rfl, mg 904 (by decide +kernel) rfl, by decide +kernel, by decide +kernel, by decide +kernel⟩
theorem kb_X9_runIt : CkB yX9_runIt cX9_runIt 6 none 3 := ⟨mg 67 (by decide +kernel) rfl, mg 914 (by decide +kernel) rfl, by decide +kernel, by decide +kernel, by decide +kernel⟩
theorem kb_X9_say : CkB yX9_say cX9_say 2 (some .int) 1 := ⟨mg 67 (by decide +kernel) rfl, mg 830 (by decide +kernel) rfl, by decide +kernel, by decide +kernel, by decide +kernel⟩
theorem kb_X9_steps : CkB yX9_steps cX9_steps 5 (some .int) 2 := ⟨mg 67 (by decide +kernel) rfl, mg 968 (by decide +kernel) rfl, by decide +kernel, by decide +kernel, by decide +kernel⟩
theorem kb_X9_textOf : CkB yX9_textOf cX9_textOf 6 (some .int) 3 := ⟨mg 67 (by decide +kernel) rfl, mg 729 (by decide +kernel) rfl, by decide +kernel, by decide +kernel, by decide +kernel⟩
theorem kb_X9_told : CkB yX9_told cX9_told 2 (some .int) 1 := ⟨mg 67 (by decide +kernel) rfl, mg 976 (by decide +kernel) rfl, by decide +kernel, by decide +kernel, by decide +kernel⟩
theorem kb_X9_toldOne : CkB yX9_toldOne cX9_toldOne 5 (some .int) 3 := ⟨mg 67 (by decide +kernel) rfl, mg 917 (by decide +kernel) rfl, by decide +kernel, by decide +kernel, by decide +kernel⟩
theorem kb_X9_unlike : CkB yX9_unlike cX9_unlike 9 (some .int) 4 := ⟨mg 67 (by decide +kernel) rfl, mg 972 (by decide +kernel) rfl, by decide +kernel, by decide +kernel, by decide +kernel⟩
theorem kb_X9_uses : CkB yX9_uses cX9_uses 3 (some .int) 2 := ⟨mg 67 (by decide +kernel) rfl, mg 893 (by decide +kernel) rfl, by decide +kernel, by decide +kernel, by decide +kernel⟩
theorem kb_X9_waitFor : CkB yX9_waitFor cX9_waitFor 5 none 4 := ⟨mg 67 (by decide +kernel) rfl, mg 937 (by decide +kernel) rfl, by decide +kernel, by decide +kernel, by decide +kernel⟩
theorem kb_X9_wipe : CkB yX9_wipe cX9_wipe 2 (some .int) 0 := ⟨mg 67 (by decide +kernel) rfl, mg 836 (by decide +kernel) rfl, by decide +kernel, by decide +kernel, by decide +kernel⟩
theorem kb_J9_max_7cf53 : CkB yJ9_max_7cf53 cJ9_max_7cf53 2 (some .int) 2 := ⟨mg 66 (by decide +kernel) rfl, mg 398 (by decide +kernel) rfl, by decide +kernel, by decide +kernel, by decide +kernel⟩
theorem kb_J9_min_7cf53 : CkB yJ9_min_7cf53 cJ9_min_7cf53 2 (some .int) 2 := ⟨mg 66 (by decide +kernel) rfl, mg 395 (by decide +kernel) rfl, by decide +kernel, by decide +kernel, by decide +kernel⟩
theorem kb_J7_fill_53178 : CkB yJ7_fill_53178 cJ7_fill_53178 4 none 2 := ⟨mg 65 (by decide +kernel) rfl, mg 294 (by decide +kernel) rfl, by decide +kernel, by decide +kernel, by decide +kernel⟩
theorem f_X8_12 : Fl RX8 12 7 0 RX8 TX8 6 tyX8 := ⟨kl_7, by decide, mg 421 (by decide +kernel) rfl⟩
theorem f_X8_19 : Fl RX8 19 7 1 RX8 TX8 6 tyX8 := ⟨kl_7, by decide, mg 422 (by decide +kernel) rfl⟩
theorem f_X8_26 : Fl RX8 26 7 2 RX8 TX8 6 tyX8 := ⟨kl_7, by decide, mg 423 (by decide +kernel) rfl⟩
theorem f_X8_35 : Fl RX8 35 7 3 RX8 TX8 6 tyX8 := ⟨kl_7, by decide, mg 424 (by decide +kernel) rfl⟩
theorem f_X8_42 : Fl RX8 42 7 4 RX8 TX8 6 tyX8 := ⟨kl_7, by decide, mg 425 (by decide +kernel) rfl⟩
theorem f_X8_56 : Fl RX8 56 7 5 RX8 TX8 6 tyX8 := ⟨kl_7, by decide, mg 426 (by decide +kernel) rfl⟩
theorem k_X8_60 : CkV RX8 60 yX7_renew cX7_renew 3 none 0 := ⟨kb_X7_renew, mg 302 (by decide +kernel) rfl, mg 303 (by decide +kernel) rfl, mg 304 (by decide +kernel) rfl⟩
theorem k_X8_63 : CkV RX8 63 yX1_renew cX1_renew 4 none 0 := ⟨kb_X1_renew, mg 370 (by decide +kernel) rfl, mg 371 (by decide +kernel) rfl, mg 372 (by decide +kernel) rfl⟩
theorem k_X8_64 : CkV RX8 64 yX4_add cX4_add 2 (some .boolean) 1 := ⟨kb_X4_add, mg 444 (by decide +kernel) rfl, mg 445 (by decide +kernel) rfl, mg 446 (by decide +kernel) rfl⟩
theorem k_X8_68 : CkV RX8 68 yX4_count cX4_count 1 (some .int) 0 := ⟨kb_X4_count, mg 448 (by decide +kernel) rfl, mg 449 (by decide +kernel) rfl, mg 450 (by decide +kernel) rfl⟩
theorem k_X8_72 : CkV RX8 72 yX4_clear cX4_clear 1 none 0 := ⟨kb_X4_clear, mg 456 (by decide +kernel) rfl, mg 457 (by decide +kernel) rfl, mg 458 (by decide +kernel) rfl⟩
theorem k_X8_75 : CkS RX8 75 yX8_isFunction cX8_isFunction 1 (some .boolean) 1 := ⟨kb_X8_isFunction, mg 149 (by decide +kernel) rfl, mg 114 (by decide +kernel) rfl⟩
theorem k_X8_78 : CkV RX8 78 yX5_firstFault cX5_firstFault 5 (some .int) 2 := ⟨kb_X5_firstFault, mg 464 (by decide +kernel) rfl, mg 465 (by decide +kernel) rfl, mg 466 (by decide +kernel) rfl⟩
theorem k_X8_82 : CkV RX8 82 yX0_put cX0_put 4 none 2 := ⟨kb_X0_put, mg 491 (by decide +kernel) rfl, mg 492 (by decide +kernel) rfl, mg 493 (by decide +kernel) rfl⟩
theorem k_X8_86 : CkV RX8 86 yX3_forget cX3_forget 1 none 0 := ⟨kb_X3_forget, mg 497 (by decide +kernel) rfl, mg 498 (by decide +kernel) rfl, mg 499 (by decide +kernel) rfl⟩
theorem k_X8_89 : CkV RX8 89 yX0_count cX0_count 2 (some .int) 1 := ⟨kb_X0_count, mg 501 (by decide +kernel) rfl, mg 135 (by decide +kernel) rfl, mg 136 (by decide +kernel) rfl⟩
theorem k_X8_92 : CkV RX8 92 yX8_hasNode cX8_hasNode 3 (some .boolean) 2 := ⟨kb_X8_hasNode, mg 506 (by decide +kernel) rfl, mg 508 (by decide +kernel) rfl, mg 20 (by decide +kernel) rfl⟩
theorem k_X8_96 : CkV RX8 96 yX0_root cX0_root 2 (some .int) 1 := ⟨kb_X0_root, mg 510 (by decide +kernel) rfl, mg 110 (by decide +kernel) rfl, mg 111 (by decide +kernel) rfl⟩
theorem k_X8_99 : CkV RX8 99 yX0_signAt cX0_signAt 2 (some .int) 1 := ⟨kb_X0_signAt, mg 511 (by decide +kernel) rfl, mg 139 (by decide +kernel) rfl, mg 140 (by decide +kernel) rfl⟩
theorem k_X8_102 : CkV RX8 102 yX0_spanAt cX0_spanAt 2 (some .int) 1 := ⟨kb_X0_spanAt, mg 512 (by decide +kernel) rfl, mg 513 (by decide +kernel) rfl, mg 514 (by decide +kernel) rfl⟩
theorem k_X8_105 : CkV RX8 105 yX0_depthAt cX0_depthAt 2 (some .int) 1 := ⟨kb_X0_depthAt, mg 516 (by decide +kernel) rfl, mg 165 (by decide +kernel) rfl, mg 166 (by decide +kernel) rfl⟩
theorem k_X8_112 : CkS RX8 112 yX8_isWay cX8_isWay 1 (some .boolean) 1 := ⟨kb_X8_isWay, mg 523 (by decide +kernel) rfl, mg 524 (by decide +kernel) rfl⟩
theorem k_X8_115 : CkV RX8 115 yX3_of cX3_of 5 (some .int) 3 := ⟨kb_X3_of, mg 526 (by decide +kernel) rfl, mg 527 (by decide +kernel) rfl, mg 528 (by decide +kernel) rfl⟩
theorem k_X8_119 : CkS RX8 119 yX3_endIn cX3_endIn 1 (some .int) 1 := ⟨kb_X3_endIn, mg 631 (by decide +kernel) rfl, mg 632 (by decide +kernel) rfl⟩
theorem k_X8_122 : CkS RX8 122 yX3_stepsIn cX3_stepsIn 1 (some .int) 1 := ⟨kb_X3_stepsIn, mg 634 (by decide +kernel) rfl, mg 635 (by decide +kernel) rfl⟩
theorem k_X8_125 : CkS RX8 125 yX8_allArguments cX8_allArguments 1 (some .int) 1 := ⟨kb_X8_allArguments, mg 641 (by decide +kernel) rfl, mg 363 (by decide +kernel) rfl⟩
theorem k_X8_128 : CkV RX8 128 yX7_has cX7_has 3 (some .boolean) 2 := ⟨kb_X7_has, mg 642 (by decide +kernel) rfl, mg 342 (by decide +kernel) rfl, mg 343 (by decide +kernel) rfl⟩
theorem k_X8_131 : CkS RX8 131 yX8_asAnswer cX8_asAnswer 1 (some .int) 1 := ⟨kb_X8_asAnswer, mg 643 (by decide +kernel) rfl, mg 644 (by decide +kernel) rfl⟩
theorem k_X8_135 : CkV RX8 135 yX7_neededOf cX7_neededOf 2 (some .int) 1 := ⟨kb_X7_neededOf, mg 650 (by decide +kernel) rfl, mg 544 (by decide +kernel) rfl, mg 545 (by decide +kernel) rfl⟩
theorem k_X8_138 : CkV RX8 138 yX7_isJoint cX7_isJoint 4 (some .boolean) 2 := ⟨kb_X7_isJoint, mg 655 (by decide +kernel) rfl, mg 656 (by decide +kernel) rfl, mg 657 (by decide +kernel) rfl⟩
theorem k_X8_141 : CkS RX8 141 yX8_hasArgument cX8_hasArgument 2 (some .boolean) 2 := ⟨kb_X8_hasArgument, mg 667 (by decide +kernel) rfl, mg 480 (by decide +kernel) rfl⟩
theorem k_X8_144 : CkV RX8 144 yX1_of cX1_of 3 (some .int) 2 := ⟨kb_X1_of, mg 668 (by decide +kernel) rfl, mg 405 (by decide +kernel) rfl, mg 406 (by decide +kernel) rfl⟩
theorem k_X8_147 : CkV RX8 147 yX7_hasAt cX7_hasAt 3 (some .boolean) 2 := ⟨kb_X7_hasAt, mg 673 (by decide +kernel) rfl, mg 367 (by decide +kernel) rfl, mg 368 (by decide +kernel) rfl⟩
theorem k_X8_150 : CkV RX8 150 yX7_neededAt cX7_neededAt 5 (some .int) 2 := ⟨kb_X7_neededAt, mg 674 (by decide +kernel) rfl, mg 359 (by decide +kernel) rfl, mg 360 (by decide +kernel) rfl⟩
theorem k_X8_156 : CkS RX8 156 yX8_numbersTold cX8_numbersTold 4 (some .int) 2 := ⟨kb_X8_numbersTold, mg 681 (by decide +kernel) rfl, mg 682 (by decide +kernel) rfl⟩
theorem k_X8_159 : CkS RX8 159 yX8_sortOfEnd cX8_sortOfEnd 1 (some .int) 1 := ⟨kb_X8_sortOfEnd, mg 687 (by decide +kernel) rfl, mg 688 (by decide +kernel) rfl⟩
theorem k_X8_162 : CkS RX8 162 yX8_shiftOf cX8_shiftOf 2 (some .int) 2 := ⟨kb_X8_shiftOf, mg 684 (by decide +kernel) rfl, mg 685 (by decide +kernel) rfl⟩
theorem k_X8_168 : CkS RX8 168 yX8_argumentsOf cX8_argumentsOf 1 (some .int) 1 := ⟨kb_X8_argumentsOf, mg 365 (by decide +kernel) rfl, mg 147 (by decide +kernel) rfl⟩
theorem f_X0_9 : Fl RX0 9 0 0 RX0 TX0 6 tyX0 := ⟨kl_0, by decide, mg 168 (by decide +kernel) rfl⟩
theorem f_X0_15 : Fl RX0 15 0 1 RX0 TX0 6 tyX0 := ⟨kl_0, by decide, mg 169 (by decide +kernel) rfl⟩
theorem f_X0_18 : Fl RX0 18 0 2 RX0 TX0 6 tyX0 := ⟨kl_0, by decide, mg 170 (by decide +kernel) rfl⟩
theorem f_X0_21 : Fl RX0 21 0 3 RX0 TX0 6 tyX0 := ⟨kl_0, by decide, mg 171 (by decide +kernel) rfl⟩
theorem f_X0_24 : Fl RX0 24 0 4 RX0 TX0 6 tyX0 := ⟨kl_0, by decide, mg 172 (by decide +kernel) rfl⟩
theorem f_X0_27 : Fl RX0 27 0 5 RX0 TX0 6 tyX0 := ⟨kl_0, by decide, mg 173 (by decide +kernel) rfl⟩
theorem k_X0_30 : CkV RX0 30 yX0_root cX0_root 2 (some .int) 1 := ⟨kb_X0_root, mg 109 (by decide +kernel) rfl, mg 110 (by decide +kernel) rfl, mg 111 (by decide +kernel) rfl⟩
theorem k_X0_34 : CkV RX0 34 yX0_setSign cX0_setSign 3 none 2 := ⟨kb_X0_setSign, mg 116 (by decide +kernel) rfl, mg 118 (by decide +kernel) rfl, mg 0 (by decide +kernel) rfl⟩
theorem k_X0_38 : CkV RX0 38 yX0_measure cX0_measure 6 none 1 := ⟨kb_X0_measure, mg 130 (by decide +kernel) rfl, mg 132 (by decide +kernel) rfl, mg 1 (by decide +kernel) rfl⟩
theorem k_X0_42 : CkN RX0 42 yX8_isFunction cX8_isFunction 1 (some .boolean) 1 := ⟨kb_X8_isFunction, ⟨"NeedTables", by decide +kernel⟩, mg 114 (by decide +kernel) rfl⟩
theorem k_X0_46 : CkV RX0 46 yX4_count cX4_count 1 (some .int) 0 := ⟨kb_X4_count, mg 495 (by decide +kernel) rfl, mg 449 (by decide +kernel) rfl, mg 450 (by decide +kernel) rfl⟩
theorem k_X0_52 : CkV RX0 52 yX4_signAt cX4_signAt 2 (some .int) 1 := ⟨kb_X4_signAt, mg 496 (by decide +kernel) rfl, mg 470 (by decide +kernel) rfl, mg 471 (by decide +kernel) rfl⟩
theorem k_X0_55 : CkN RX0 55 yX8_isPlace cX8_isPlace 1 (some .boolean) 1 := ⟨kb_X8_isPlace, ⟨"NeedTables", by decide +kernel⟩, mg 121 (by decide +kernel) rfl⟩
theorem k_X0_58 : CkS RX0 58 yX6_kindOf cX6_kindOf 1 (some .int) 1 := ⟨kb_X6_kindOf, mg 123 (by decide +kernel) rfl, mg 124 (by decide +kernel) rfl⟩
theorem k_X0_63 : CkS RX0 63 yX6_worthOf cX6_worthOf 1 (some .int) 1 := ⟨kb_X6_worthOf, mg 126 (by decide +kernel) rfl, mg 127 (by decide +kernel) rfl⟩
theorem k_X0_66 : CkV RX0 66 yX0_count cX0_count 2 (some .int) 1 := ⟨kb_X0_count, mg 134 (by decide +kernel) rfl, mg 135 (by decide +kernel) rfl, mg 136 (by decide +kernel) rfl⟩
theorem k_X0_68 : CkV RX0 68 yX0_signAt cX0_signAt 2 (some .int) 1 := ⟨kb_X0_signAt, mg 138 (by decide +kernel) rfl, mg 139 (by decide +kernel) rfl, mg 140 (by decide +kernel) rfl⟩
theorem k_X0_69 : CkS RX0 69 yX6_textsOf cX6_textsOf 1 (some .int) 1 := ⟨kb_X6_textsOf, mg 142 (by decide +kernel) rfl, mg 143 (by decide +kernel) rfl⟩
theorem k_X0_72 : CkV RX0 72 yX0_textPlace cX0_textPlace 5 (some .int) 2 := ⟨kb_X0_textPlace, mg 152 (by decide +kernel) rfl, mg 153 (by decide +kernel) rfl, mg 154 (by decide +kernel) rfl⟩
theorem k_X0_76 : CkV RX0 76 yX0_setSpan cX0_setSpan 3 none 2 := ⟨kb_X0_setSpan, mg 156 (by decide +kernel) rfl, mg 158 (by decide +kernel) rfl, mg 2 (by decide +kernel) rfl⟩
theorem k_X0_79 : CkV RX0 79 yX0_setDepth cX0_setDepth 3 none 2 := ⟨kb_X0_setDepth, mg 160 (by decide +kernel) rfl, mg 162 (by decide +kernel) rfl, mg 3 (by decide +kernel) rfl⟩
theorem k_X0_82 : CkV RX0 82 yX0_depthAt cX0_depthAt 2 (some .int) 1 := ⟨kb_X0_depthAt, mg 164 (by decide +kernel) rfl, mg 165 (by decide +kernel) rfl, mg 166 (by decide +kernel) rfl⟩
theorem f_X1_11 : Fl RX1 11 1 1 RX1 TX1 4 tyX1 := ⟨kl_1, by decide, mg 213 (by decide +kernel) rfl⟩
theorem f_X1_15 : Fl RX1 15 1 2 RX1 TX1 4 tyX1 := ⟨kl_1, by decide, mg 214 (by decide +kernel) rfl⟩
theorem f_X1_18 : Fl RX1 18 1 3 RX1 TX1 4 tyX1 := ⟨kl_1, by decide, mg 215 (by decide +kernel) rfl⟩
theorem f_X1_21 : Fl RX1 21 1 0 RX1 TX1 4 tyX1 := ⟨kl_1, by decide, mg 212 (by decide +kernel) rfl⟩
theorem k_X1_25 : CkS RX1 25 yJ7_fill_53178 cJ7_fill_53178 4 none 2 := ⟨kb_J7_fill_53178, mg 374 (by decide +kernel) rfl, mg 293 (by decide +kernel) rfl⟩
theorem k_X1_31 : CkV RX1 31 yX1_countIn cX1_countIn 5 (some .int) 2 := ⟨kb_X1_countIn, mg 375 (by decide +kernel) rfl, mg 377 (by decide +kernel) rfl, mg 11 (by decide +kernel) rfl⟩
theorem k_X1_35 : CkV RX1 35 yX1_takeNext cX1_takeNext 3 (some .boolean) 0 := ⟨kb_X1_takeNext, mg 417 (by decide +kernel) rfl, mg 419 (by decide +kernel) rfl, mg 17 (by decide +kernel) rfl⟩
theorem k_X1_39 : CkV RX1 39 yX0_root cX0_root 2 (some .int) 1 := ⟨kb_X0_root, mg 379 (by decide +kernel) rfl, mg 110 (by decide +kernel) rfl, mg 111 (by decide +kernel) rfl⟩
theorem k_X1_45 : CkV RX1 45 yX0_count cX0_count 2 (some .int) 1 := ⟨kb_X0_count, mg 380 (by decide +kernel) rfl, mg 135 (by decide +kernel) rfl, mg 136 (by decide +kernel) rfl⟩
theorem k_X1_48 : CkV RX1 48 yX1_countOf cX1_countOf 4 (some .int) 2 := ⟨kb_X1_countOf, mg 381 (by decide +kernel) rfl, mg 383 (by decide +kernel) rfl, mg 12 (by decide +kernel) rfl⟩
theorem k_X1_51 : CkV RX1 51 yX1_setCount cX1_setCount 3 none 2 := ⟨kb_X1_setCount, mg 409 (by decide +kernel) rfl, mg 411 (by decide +kernel) rfl, mg 15 (by decide +kernel) rfl⟩
theorem k_X1_55 : CkV RX1 55 yX1_countAt cX1_countAt 2 (some .int) 1 := ⟨kb_X1_countAt, mg 413 (by decide +kernel) rfl, mg 415 (by decide +kernel) rfl, mg 16 (by decide +kernel) rfl⟩
theorem k_X1_58 : CkV RX1 58 yX0_kindAt cX0_kindAt 2 (some .int) 1 := ⟨kb_X0_kindAt, mg 385 (by decide +kernel) rfl, mg 318 (by decide +kernel) rfl, mg 319 (by decide +kernel) rfl⟩
theorem k_X1_61 : CkV RX1 61 yX0_worthAt cX0_worthAt 2 (some .int) 1 := ⟨kb_X0_worthAt, mg 386 (by decide +kernel) rfl, mg 322 (by decide +kernel) rfl, mg 323 (by decide +kernel) rfl⟩
theorem k_X1_64 : CkV RX1 64 yX1_textCount cX1_textCount 4 (some .int) 2 := ⟨kb_X1_textCount, mg 387 (by decide +kernel) rfl, mg 389 (by decide +kernel) rfl, mg 13 (by decide +kernel) rfl⟩
theorem k_X1_67 : CkS RX1 67 yJ9_min_7cf53 cJ9_min_7cf53 2 (some .int) 2 := ⟨kb_J9_min_7cf53, mg 393 (by decide +kernel) rfl, mg 394 (by decide +kernel) rfl⟩
theorem k_X1_72 : CkS RX1 72 yJ9_max_7cf53 cJ9_max_7cf53 2 (some .int) 2 := ⟨kb_J9_max_7cf53, mg 396 (by decide +kernel) rfl, mg 397 (by decide +kernel) rfl⟩
theorem k_X1_75 : CkV RX1 75 yX1_callCount cX1_callCount 5 (some .int) 2 := ⟨kb_X1_callCount, mg 399 (by decide +kernel) rfl, mg 401 (by decide +kernel) rfl, mg 14 (by decide +kernel) rfl⟩
theorem k_X1_78 : CkN RX1 78 yX8_argumentsOf cX8_argumentsOf 1 (some .int) 1 := ⟨kb_X8_argumentsOf, ⟨"NeedTables", by decide +kernel⟩, mg 147 (by decide +kernel) rfl⟩
theorem k_X1_81 : CkV RX1 81 yX1_of cX1_of 3 (some .int) 2 := ⟨kb_X1_of, mg 404 (by decide +kernel) rfl, mg 405 (by decide +kernel) rfl, mg 406 (by decide +kernel) rfl⟩
theorem k_X1_84 : CkV RX1 84 yX0_textPlace cX0_textPlace 5 (some .int) 2 := ⟨kb_X0_textPlace, mg 391 (by decide +kernel) rfl, mg 153 (by decide +kernel) rfl, mg 154 (by decide +kernel) rfl⟩
theorem k_X1_87 : CkN RX1 87 yX8_isPlace cX8_isPlace 1 (some .boolean) 1 := ⟨kb_X8_isPlace, ⟨"NeedTables", by decide +kernel⟩, mg 121 (by decide +kernel) rfl⟩
theorem k_X1_91 : CkN RX1 91 yX8_isFunction cX8_isFunction 1 (some .boolean) 1 := ⟨kb_X8_isFunction, ⟨"NeedTables", by decide +kernel⟩, mg 114 (by decide +kernel) rfl⟩
theorem f_X2_11 : Fl RX2 11 2 2 RX2 TX2 18 tyX2 := ⟨kl_2, by decide, mg 235 (by decide +kernel) rfl⟩
theorem f_X2_15 : Fl RX2 15 2 3 RX2 TX2 18 tyX2 := ⟨kl_2, by decide, mg 236 (by decide +kernel) rfl⟩
theorem f_X2_18 : Fl RX2 18 2 4 RX2 TX2 18 tyX2 := ⟨kl_2, by decide, mg 237 (by decide +kernel) rfl⟩
theorem f_X2_21 : Fl RX2 21 2 6 RX2 TX2 18 tyX2 := ⟨kl_2, by decide, mg 239 (by decide +kernel) rfl⟩
theorem f_X2_24 : Fl RX2 24 2 7 RX2 TX2 18 tyX2 := ⟨kl_2, by decide, mg 240 (by decide +kernel) rfl⟩
theorem f_X2_27 : Fl RX2 27 2 8 RX2 TX2 18 tyX2 := ⟨kl_2, by decide, mg 241 (by decide +kernel) rfl⟩
theorem f_X2_30 : Fl RX2 30 2 11 RX2 TX2 18 tyX2 := ⟨kl_2, by decide, mg 244 (by decide +kernel) rfl⟩
theorem f_X2_33 : Fl RX2 33 2 0 RX2 TX2 18 tyX2 := ⟨kl_2, by decide, mg 233 (by decide +kernel) rfl⟩
theorem f_X2_37 : Fl RX2 37 2 1 RX2 TX2 18 tyX2 := ⟨kl_2, by decide, mg 234 (by decide +kernel) rfl⟩
theorem f_X2_41 : Fl RX2 41 2 12 RX2 TX2 18 tyX2 := ⟨kl_2, by decide, mg 245 (by decide +kernel) rfl⟩
theorem f_X2_45 : Fl RX2 45 2 13 RX2 TX2 18 tyX2 := ⟨kl_2, by decide, mg 246 (by decide +kernel) rfl⟩
theorem f_X2_48 : Fl RX2 48 2 10 RX2 TX2 18 tyX2 := ⟨kl_2, by decide, mg 243 (by decide +kernel) rfl⟩
theorem f_X2_51 : Fl RX2 51 2 9 RX2 TX2 18 tyX2 := ⟨kl_2, by decide, mg 242 (by decide +kernel) rfl⟩
theorem f_X2_54 : Fl RX2 54 2 5 RX2 TX2 18 tyX2 := ⟨kl_2, by decide, mg 238 (by decide +kernel) rfl⟩
theorem k_X2_57 : CkV RX2 57 yX2_chooseAhead cX2_chooseAhead 2 none 0 := ⟨kb_X2_chooseAhead, mg 538 (by decide +kernel) rfl, mg 540 (by decide +kernel) rfl, mg 21 (by decide +kernel) rfl⟩
theorem k_X2_60 : CkV RX2 60 yX2_takeTold cX2_takeTold 5 none 2 := ⟨kb_X2_takeTold, mg 547 (by decide +kernel) rfl, mg 549 (by decide +kernel) rfl, mg 22 (by decide +kernel) rfl⟩
theorem k_X2_64 : CkV RX2 64 yX0_root cX0_root 2 (some .int) 1 := ⟨kb_X0_root, mg 568 (by decide +kernel) rfl, mg 110 (by decide +kernel) rfl, mg 111 (by decide +kernel) rfl⟩
theorem k_X2_70 : CkV RX2 70 yX2_goTo cX2_goTo 3 none 2 := ⟨kb_X2_goTo, mg 569 (by decide +kernel) rfl, mg 571 (by decide +kernel) rfl, mg 26 (by decide +kernel) rfl⟩
theorem f_X2_73 : Fl RX2 73 2 16 RX2 TX2 18 tyX2 := ⟨kl_2, by decide, mg 249 (by decide +kernel) rfl⟩
theorem k_X2_77 : CkV RX2 77 yX2_giveBack cX2_giveBack 4 none 0 := ⟨kb_X2_giveBack, mg 573 (by decide +kernel) rfl, mg 575 (by decide +kernel) rfl, mg 27 (by decide +kernel) rfl⟩
theorem k_X2_80 : CkV RX2 80 yX2_begin cX2_begin 1 none 0 := ⟨kb_X2_begin, mg 607 (by decide +kernel) rfl, mg 609 (by decide +kernel) rfl, mg 33 (by decide +kernel) rfl⟩
theorem k_X2_83 : CkN RX2 83 yX8_allArguments cX8_allArguments 1 (some .int) 1 := ⟨kb_X8_allArguments, ⟨"NeedTables", by decide +kernel⟩, mg 363 (by decide +kernel) rfl⟩
theorem k_X2_86 : CkV RX2 86 yX7_neededOf cX7_neededOf 2 (some .int) 1 := ⟨kb_X7_neededOf, mg 543 (by decide +kernel) rfl, mg 544 (by decide +kernel) rfl, mg 545 (by decide +kernel) rfl⟩
theorem k_X2_91 : CkN RX2 91 yX8_argumentsOf cX8_argumentsOf 1 (some .int) 1 := ⟨kb_X8_argumentsOf, ⟨"NeedTables", by decide +kernel⟩, mg 147 (by decide +kernel) rfl⟩
theorem k_X2_94 : CkV RX2 94 yX2_setSlot cX2_setSlot 3 none 2 := ⟨kb_X2_setSlot, mg 552 (by decide +kernel) rfl, mg 554 (by decide +kernel) rfl, mg 23 (by decide +kernel) rfl⟩
theorem k_X2_97 : CkV RX2 97 yX2_heldIn cX2_heldIn 2 (some .int) 1 := ⟨kb_X2_heldIn, mg 559 (by decide +kernel) rfl, mg 561 (by decide +kernel) rfl, mg 24 (by decide +kernel) rfl⟩
theorem k_X2_100 : CkV RX2 100 yX2_isAhead cX2_isAhead 3 (some .boolean) 2 := ⟨kb_X2_isAhead, mg 563 (by decide +kernel) rfl, mg 565 (by decide +kernel) rfl, mg 25 (by decide +kernel) rfl⟩
theorem k_X2_104 : CkN RX2 104 yX8_isFunction cX8_isFunction 1 (some .boolean) 1 := ⟨kb_X8_isFunction, ⟨"NeedTables", by decide +kernel⟩, mg 114 (by decide +kernel) rfl⟩
theorem f_X2_108 : Fl RX2 108 2 14 RX2 TX2 18 tyX2 := ⟨kl_2, by decide, mg 247 (by decide +kernel) rfl⟩
theorem k_X2_111 : CkV RX2 111 yX0_kindAt cX0_kindAt 2 (some .int) 1 := ⟨kb_X0_kindAt, mg 577 (by decide +kernel) rfl, mg 318 (by decide +kernel) rfl, mg 319 (by decide +kernel) rfl⟩
theorem k_X2_114 : CkV RX2 114 yX0_worthAt cX0_worthAt 2 (some .int) 1 := ⟨kb_X0_worthAt, mg 587 (by decide +kernel) rfl, mg 322 (by decide +kernel) rfl, mg 323 (by decide +kernel) rfl⟩
theorem k_X2_117 : CkV RX2 117 yX2_give cX2_give 2 none 1 := ⟨kb_X2_give, mg 592 (by decide +kernel) rfl, mg 594 (by decide +kernel) rfl, mg 30 (by decide +kernel) rfl⟩
theorem f_X2_121 : Fl RX2 121 2 15 RX2 TX2 18 tyX2 := ⟨kl_2, by decide, mg 248 (by decide +kernel) rfl⟩
theorem k_X2_124 : CkS RX2 124 yX2_slotOf cX2_slotOf 2 (some .int) 2 := ⟨kb_X2_slotOf, mg 596 (by decide +kernel) rfl, mg 597 (by decide +kernel) rfl⟩
theorem k_X2_128 : CkV RX2 128 yX2_beginArgument cX2_beginArgument 3 none 1 := ⟨kb_X2_beginArgument, mg 611 (by decide +kernel) rfl, mg 613 (by decide +kernel) rfl, mg 34 (by decide +kernel) rfl⟩
theorem k_X2_131 : CkV RX2 131 yX2_await cX2_await 4 none 3 := ⟨kb_X2_await, mg 582 (by decide +kernel) rfl, mg 584 (by decide +kernel) rfl, mg 29 (by decide +kernel) rfl⟩
theorem k_X2_135 : CkV RX2 135 yX2_beginCall cX2_beginCall 4 none 1 := ⟨kb_X2_beginCall, mg 615 (by decide +kernel) rfl, mg 617 (by decide +kernel) rfl, mg 35 (by decide +kernel) rfl⟩
theorem k_X2_138 : CkV RX2 138 yX2_goToSlot cX2_goToSlot 2 none 1 := ⟨kb_X2_goToSlot, mg 603 (by decide +kernel) rfl, mg 605 (by decide +kernel) rfl, mg 32 (by decide +kernel) rfl⟩
theorem k_X2_141 : CkV RX2 141 yX0_textPlace cX0_textPlace 5 (some .int) 2 := ⟨kb_X0_textPlace, mg 586 (by decide +kernel) rfl, mg 153 (by decide +kernel) rfl, mg 154 (by decide +kernel) rfl⟩
theorem k_X2_144 : CkV RX2 144 yX2_hang cX2_hang 4 none 3 := ⟨kb_X2_hang, mg 619 (by decide +kernel) rfl, mg 621 (by decide +kernel) rfl, mg 36 (by decide +kernel) rfl⟩
theorem f_X2_147 : Fl RX2 147 2 17 RX2 TX2 18 tyX2 := ⟨kl_2, by decide, mg 250 (by decide +kernel) rfl⟩
theorem k_X2_150 : CkV RX2 150 yX2_goOnActing cX2_goOnActing 4 none 3 := ⟨kb_X2_goOnActing, mg 578 (by decide +kernel) rfl, mg 580 (by decide +kernel) rfl, mg 28 (by decide +kernel) rfl⟩
theorem k_X2_153 : CkV RX2 153 yX2_goOnCalling cX2_goOnCalling 6 none 3 := ⟨kb_X2_goOnCalling, mg 599 (by decide +kernel) rfl, mg 601 (by decide +kernel) rfl, mg 31 (by decide +kernel) rfl⟩
theorem k_X2_156 : CkS RX2 156 yX2_acted cX2_acted 3 (some .int) 3 := ⟨kb_X2_acted, mg 588 (by decide +kernel) rfl, mg 589 (by decide +kernel) rfl⟩
theorem k_X2_160 : CkS RX2 160 yJ9_min_7cf53 cJ9_min_7cf53 2 (some .int) 2 := ⟨kb_J9_min_7cf53, mg 591 (by decide +kernel) rfl, mg 394 (by decide +kernel) rfl⟩
theorem k_X2_165 : CkS RX2 165 yX2_isSlot cX2_isSlot 1 (some .boolean) 1 := ⟨kb_X2_isSlot, mg 556 (by decide +kernel) rfl, mg 557 (by decide +kernel) rfl⟩
theorem f_X3_11 : Fl RX3 11 3 1 RX3 TX3 2 tyX3 := ⟨kl_3, by decide, mg 296 (by decide +kernel) rfl⟩
theorem f_X3_15 : Fl RX3 15 3 0 RX3 TX3 2 tyX3 := ⟨kl_3, by decide, mg 295 (by decide +kernel) rfl⟩
theorem k_X3_19 : CkS RX3 19 yJ7_fill_53178 cJ7_fill_53178 4 none 2 := ⟨kb_J7_fill_53178, mg 292 (by decide +kernel) rfl, mg 293 (by decide +kernel) rfl⟩
theorem k_X3_25 : CkN RX3 25 yX8_isFunction cX8_isFunction 1 (some .boolean) 1 := ⟨kb_X8_isFunction, ⟨"NeedTables", by decide +kernel⟩, mg 114 (by decide +kernel) rfl⟩
theorem k_X3_35 : CkV RX3 35 yX2_play cX2_play 5 none 3 := ⟨kb_X2_play, mg 534 (by decide +kernel) rfl, mg 535 (by decide +kernel) rfl, mg 536 (by decide +kernel) rfl⟩
theorem k_X3_41 : CkV RX3 41 yX2_taken cX2_taken 1 (some .int) 0 := ⟨kb_X2_taken, mg 623 (by decide +kernel) rfl, mg 624 (by decide +kernel) rfl, mg 625 (by decide +kernel) rfl⟩
theorem k_X3_45 : CkV RX3 45 yX2_end cX2_end 1 (some .int) 0 := ⟨kb_X2_end, mg 627 (by decide +kernel) rfl, mg 628 (by decide +kernel) rfl, mg 629 (by decide +kernel) rfl⟩
theorem f_X4_9 : Fl RX4 9 4 0 RX4 TX4 2 tyX4 := ⟨kl_4, by decide, mg 82 (by decide +kernel) rfl⟩
theorem f_X4_15 : Fl RX4 15 4 1 RX4 TX4 2 tyX4 := ⟨kl_4, by decide, mg 83 (by decide +kernel) rfl⟩
theorem f_X5_9 : Fl RX5 9 5 0 RX5 TX5 2 tyX5 := ⟨kl_5, by decide, mg 96 (by decide +kernel) rfl⟩
theorem f_X5_15 : Fl RX5 15 5 1 RX5 TX5 2 tyX5 := ⟨kl_5, by decide, mg 97 (by decide +kernel) rfl⟩
theorem k_X5_19 : CkV RX5 19 yX4_count cX4_count 1 (some .int) 0 := ⟨kb_X4_count, mg 468 (by decide +kernel) rfl, mg 449 (by decide +kernel) rfl, mg 450 (by decide +kernel) rfl⟩
theorem k_X5_25 : CkV RX5 25 yX4_signAt cX4_signAt 2 (some .int) 1 := ⟨kb_X4_signAt, mg 469 (by decide +kernel) rfl, mg 470 (by decide +kernel) rfl, mg 471 (by decide +kernel) rfl⟩
theorem k_X5_29 : CkV RX5 29 yX5_canStand cX5_canStand 3 (some .boolean) 2 := ⟨kb_X5_canStand, mg 473 (by decide +kernel) rfl, mg 475 (by decide +kernel) rfl, mg 18 (by decide +kernel) rfl⟩
theorem k_X5_33 : CkS RX5 33 yX6_textsOf cX6_textsOf 1 (some .int) 1 := ⟨kb_X6_textsOf, mg 482 (by decide +kernel) rfl, mg 143 (by decide +kernel) rfl⟩
theorem k_X5_38 : CkV RX5 38 yX5_pass cX5_pass 2 none 1 := ⟨kb_X5_pass, mg 483 (by decide +kernel) rfl, mg 485 (by decide +kernel) rfl, mg 19 (by decide +kernel) rfl⟩
theorem k_X5_42 : CkS RX5 42 yX6_kindOf cX6_kindOf 1 (some .int) 1 := ⟨kb_X6_kindOf, mg 477 (by decide +kernel) rfl, mg 124 (by decide +kernel) rfl⟩
theorem k_X5_45 : CkS RX5 45 yX6_worthOf cX6_worthOf 1 (some .int) 1 := ⟨kb_X6_worthOf, mg 478 (by decide +kernel) rfl, mg 127 (by decide +kernel) rfl⟩
theorem k_X5_48 : CkN RX5 48 yX8_hasArgument cX8_hasArgument 2 (some .boolean) 2 := ⟨kb_X8_hasArgument, ⟨"NeedTables", by decide +kernel⟩, mg 480 (by decide +kernel) rfl⟩
theorem k_X6_9 : CkS RX6 9 yX6_kindOf cX6_kindOf 1 (some .int) 1 := ⟨kb_X6_kindOf, mg 129 (by decide +kernel) rfl, mg 124 (by decide +kernel) rfl⟩
theorem k_X6_13 : CkS RX6 13 yX6_worthOf cX6_worthOf 1 (some .int) 1 := ⟨kb_X6_worthOf, mg 145 (by decide +kernel) rfl, mg 127 (by decide +kernel) rfl⟩
theorem k_X6_16 : CkN RX6 16 yX8_argumentsOf cX8_argumentsOf 1 (some .int) 1 := ⟨kb_X8_argumentsOf, ⟨"NeedTables", by decide +kernel⟩, mg 147 (by decide +kernel) rfl⟩
theorem f_X7_11 : Fl RX7 11 6 1 RX7 TX7 4 tyX7 := ⟨kl_6, by decide, mg 194 (by decide +kernel) rfl⟩
theorem f_X7_15 : Fl RX7 15 6 2 RX7 TX7 4 tyX7 := ⟨kl_6, by decide, mg 195 (by decide +kernel) rfl⟩
theorem f_X7_18 : Fl RX7 18 6 3 RX7 TX7 4 tyX7 := ⟨kl_6, by decide, mg 196 (by decide +kernel) rfl⟩
theorem f_X7_21 : Fl RX7 21 6 0 RX7 TX7 4 tyX7 := ⟨kl_6, by decide, mg 193 (by decide +kernel) rfl⟩
theorem k_X7_25 : CkS RX7 25 yJ7_fill_53178 cJ7_fill_53178 4 none 2 := ⟨kb_J7_fill_53178, mg 306 (by decide +kernel) rfl, mg 293 (by decide +kernel) rfl⟩
theorem k_X7_31 : CkV RX7 31 yX7_fillRows cX7_fillRows 4 none 0 := ⟨kb_X7_fillRows, mg 307 (by decide +kernel) rfl, mg 309 (by decide +kernel) rfl, mg 4 (by decide +kernel) rfl⟩
theorem k_X7_34 : CkV RX7 34 yX7_takeRoots cX7_takeRoots 4 (some .boolean) 0 := ⟨kb_X7_takeRoots, mg 350 (by decide +kernel) rfl, mg 352 (by decide +kernel) rfl, mg 9 (by decide +kernel) rfl⟩
theorem k_X7_38 : CkV RX7 38 yX0_root cX0_root 2 (some .int) 1 := ⟨kb_X0_root, mg 311 (by decide +kernel) rfl, mg 110 (by decide +kernel) rfl, mg 111 (by decide +kernel) rfl⟩
theorem k_X7_44 : CkV RX7 44 yX7_neededAt cX7_neededAt 5 (some .int) 2 := ⟨kb_X7_neededAt, mg 358 (by decide +kernel) rfl, mg 359 (by decide +kernel) rfl, mg 360 (by decide +kernel) rfl⟩
theorem k_X7_48 : CkV RX7 48 yX0_count cX0_count 2 (some .int) 1 := ⟨kb_X0_count, mg 312 (by decide +kernel) rfl, mg 135 (by decide +kernel) rfl, mg 136 (by decide +kernel) rfl⟩
theorem k_X7_51 : CkV RX7 51 yX7_rowOf cX7_rowOf 2 (some .int) 1 := ⟨kb_X7_rowOf, mg 313 (by decide +kernel) rfl, mg 315 (by decide +kernel) rfl, mg 5 (by decide +kernel) rfl⟩
theorem k_X7_54 : CkV RX7 54 yX7_setRow cX7_setRow 3 none 2 := ⟨kb_X7_setRow, mg 346 (by decide +kernel) rfl, mg 348 (by decide +kernel) rfl, mg 8 (by decide +kernel) rfl⟩
theorem k_X7_58 : CkV RX7 58 yX7_rowAt cX7_rowAt 2 (some .int) 1 := ⟨kb_X7_rowAt, mg 354 (by decide +kernel) rfl, mg 356 (by decide +kernel) rfl, mg 10 (by decide +kernel) rfl⟩
theorem k_X7_61 : CkV RX7 61 yX0_kindAt cX0_kindAt 2 (some .int) 1 := ⟨kb_X0_kindAt, mg 317 (by decide +kernel) rfl, mg 318 (by decide +kernel) rfl, mg 319 (by decide +kernel) rfl⟩
theorem k_X7_64 : CkV RX7 64 yX0_worthAt cX0_worthAt 2 (some .int) 1 := ⟨kb_X0_worthAt, mg 321 (by decide +kernel) rfl, mg 322 (by decide +kernel) rfl, mg 323 (by decide +kernel) rfl⟩
theorem k_X7_67 : CkS RX7 67 yX7_setsWith cX7_setsWith 1 (some .int) 1 := ⟨kb_X7_setsWith, mg 325 (by decide +kernel) rfl, mg 326 (by decide +kernel) rfl⟩
theorem k_X7_70 : CkV RX7 70 yX7_textRow cX7_textRow 4 (some .int) 2 := ⟨kb_X7_textRow, mg 330 (by decide +kernel) rfl, mg 332 (by decide +kernel) rfl, mg 6 (by decide +kernel) rfl⟩
theorem k_X7_73 : CkV RX7 73 yX7_callRow cX7_callRow 7 (some .int) 2 := ⟨kb_X7_callRow, mg 336 (by decide +kernel) rfl, mg 338 (by decide +kernel) rfl, mg 7 (by decide +kernel) rfl⟩
theorem k_X7_76 : CkN RX7 76 yX8_argumentsOf cX8_argumentsOf 1 (some .int) 1 := ⟨kb_X8_argumentsOf, ⟨"NeedTables", by decide +kernel⟩, mg 147 (by decide +kernel) rfl⟩
theorem k_X7_79 : CkV RX7 79 yX7_has cX7_has 3 (some .boolean) 2 := ⟨kb_X7_has, mg 341 (by decide +kernel) rfl, mg 342 (by decide +kernel) rfl, mg 343 (by decide +kernel) rfl⟩
theorem k_X7_83 : CkV RX7 83 yX0_textPlace cX0_textPlace 5 (some .int) 2 := ⟨kb_X0_textPlace, mg 334 (by decide +kernel) rfl, mg 153 (by decide +kernel) rfl, mg 154 (by decide +kernel) rfl⟩
theorem k_X7_86 : CkN RX7 86 yX8_isPlace cX8_isPlace 1 (some .boolean) 1 := ⟨kb_X8_isPlace, ⟨"NeedTables", by decide +kernel⟩, mg 121 (by decide +kernel) rfl⟩
theorem k_X7_93 : CkN RX7 93 yX8_isFunction cX8_isFunction 1 (some .boolean) 1 := ⟨kb_X8_isFunction, ⟨"NeedTables", by decide +kernel⟩, mg 114 (by decide +kernel) rfl⟩
theorem k_X7_96 : CkN RX7 96 yX8_allArguments cX8_allArguments 1 (some .int) 1 := ⟨kb_X8_allArguments, ⟨"NeedTables", by decide +kernel⟩, mg 363 (by decide +kernel) rfl⟩
theorem k_X7_99 : CkV RX7 99 yX7_hasAt cX7_hasAt 3 (some .boolean) 2 := ⟨kb_X7_hasAt, mg 366 (by decide +kernel) rfl, mg 367 (by decide +kernel) rfl, mg 368 (by decide +kernel) rfl⟩
theorem k_X7_102 : CkV RX7 102 yX7_stops cX7_stops 3 (some .boolean) 2 := ⟨kb_X7_stops, mg 659 (by decide +kernel) rfl, mg 661 (by decide +kernel) rfl, mg 37 (by decide +kernel) rfl⟩
theorem k_L_13 : CkV RL 13 yX8_say cX8_say 2 (some .int) 1 := ⟨kb_X8_say, mg 440 (by decide +kernel) rfl, mg 441 (by decide +kernel) rfl, mg 442 (by decide +kernel) rfl⟩
theorem k_L_17 : CkV RL 17 yX9_say cX9_say 2 (some .int) 1 := ⟨kb_X9_say, mg 827 (by decide +kernel) rfl, mg 828 (by decide +kernel) rfl, mg 829 (by decide +kernel) rfl⟩
theorem k_L_18 : CkV RL 18 yX8_wipe cX8_wipe 2 (some .int) 0 := ⟨kb_X8_wipe, mg 452 (by decide +kernel) rfl, mg 453 (by decide +kernel) rfl, mg 454 (by decide +kernel) rfl⟩
theorem k_L_22 : CkV RL 22 yX9_wipe cX9_wipe 2 (some .int) 0 := ⟨kb_X9_wipe, mg 833 (by decide +kernel) rfl, mg 834 (by decide +kernel) rfl, mg 835 (by decide +kernel) rfl⟩
theorem k_L_23 : CkV RL 23 yX8_fault cX8_fault 2 (some .int) 1 := ⟨kb_X8_fault, mg 460 (by decide +kernel) rfl, mg 461 (by decide +kernel) rfl, mg 462 (by decide +kernel) rfl⟩
theorem k_L_26 : CkV RL 26 yX9_fault cX9_fault 6 (some .int) 1 := ⟨kb_X9_fault, mg 837 (by decide +kernel) rfl, mg 838 (by decide +kernel) rfl, mg 839 (by decide +kernel) rfl⟩
theorem k_L_27 : CkV RL 27 yX8_body cX8_body 2 (some .int) 1 := ⟨kb_X8_body, mg 487 (by decide +kernel) rfl, mg 488 (by decide +kernel) rfl, mg 489 (by decide +kernel) rfl⟩
theorem k_L_30 : CkV RL 30 yX9_body cX9_body 5 (some .int) 1 := ⟨kb_X9_body, mg 850 (by decide +kernel) rfl, mg 851 (by decide +kernel) rfl, mg 852 (by decide +kernel) rfl⟩
theorem k_L_31 : CkV RL 31 yX8_node cX8_node 5 (some .int) 3 := ⟨kb_X8_node, mg 502 (by decide +kernel) rfl, mg 503 (by decide +kernel) rfl, mg 504 (by decide +kernel) rfl⟩
theorem k_L_35 : CkV RL 35 yX9_node cX9_node 5 (some .int) 3 := ⟨kb_X9_node, mg 855 (by decide +kernel) rfl, mg 856 (by decide +kernel) rfl, mg 857 (by decide +kernel) rfl⟩
theorem k_L_36 : CkV RL 36 yX8_run cX8_run 5 (some .int) 4 := ⟨kb_X8_run, mg 517 (by decide +kernel) rfl, mg 518 (by decide +kernel) rfl, mg 519 (by decide +kernel) rfl⟩
theorem k_L_40 : CkV RL 40 yX9_run cX9_run 5 (some .int) 4 := ⟨kb_X9_run, mg 901 (by decide +kernel) rfl, mg 902 (by decide +kernel) rfl, mg 903 (by decide +kernel) rfl⟩
theorem k_L_41 : CkV RL 41 yX8_may cX8_may 3 (some .int) 2 := ⟨kb_X8_may, mg 637 (by decide +kernel) rfl, mg 638 (by decide +kernel) rfl, mg 639 (by decide +kernel) rfl⟩
theorem k_L_45 : CkV RL 45 yX9_may cX9_may 3 (some .int) 2 := ⟨kb_X9_may, mg 863 (by decide +kernel) rfl, mg 864 (by decide +kernel) rfl, mg 865 (by decide +kernel) rfl⟩
theorem k_L_46 : CkV RL 46 yX8_must cX8_must 2 (some .int) 1 := ⟨kb_X8_must, mg 646 (by decide +kernel) rfl, mg 647 (by decide +kernel) rfl, mg 648 (by decide +kernel) rfl⟩
theorem k_L_49 : CkV RL 49 yX9_must cX9_must 4 (some .int) 1 := ⟨kb_X9_must, mg 870 (by decide +kernel) rfl, mg 871 (by decide +kernel) rfl, mg 872 (by decide +kernel) rfl⟩
theorem k_L_50 : CkV RL 50 yX8_joint cX8_joint 5 (some .int) 2 := ⟨kb_X8_joint, mg 651 (by decide +kernel) rfl, mg 652 (by decide +kernel) rfl, mg 653 (by decide +kernel) rfl⟩
theorem k_L_53 : CkV RL 53 yX9_joint cX9_joint 5 (some .int) 2 := ⟨kb_X9_joint, mg 882 (by decide +kernel) rfl, mg 883 (by decide +kernel) rfl, mg 884 (by decide +kernel) rfl⟩
theorem k_L_54 : CkV RL 54 yX8_uses cX8_uses 3 (some .int) 2 := ⟨kb_X8_uses, mg 663 (by decide +kernel) rfl, mg 664 (by decide +kernel) rfl, mg 665 (by decide +kernel) rfl⟩
theorem k_L_57 : CkV RL 57 yX9_uses cX9_uses 3 (some .int) 2 := ⟨kb_X9_uses, mg 890 (by decide +kernel) rfl, mg 891 (by decide +kernel) rfl, mg 892 (by decide +kernel) rfl⟩
theorem k_L_58 : CkV RL 58 yX8_part cX8_part 5 (some .int) 3 := ⟨kb_X8_part, mg 669 (by decide +kernel) rfl, mg 670 (by decide +kernel) rfl, mg 671 (by decide +kernel) rfl⟩
theorem k_L_61 : CkV RL 61 yX9_part cX9_part 6 (some .int) 3 := ⟨kb_X9_part, mg 897 (by decide +kernel) rfl, mg 898 (by decide +kernel) rfl, mg 899 (by decide +kernel) rfl⟩
theorem k_L_62 : CkV RL 62 yX8_ends cX8_ends 6 (some .int) 2 := ⟨kb_X8_ends, mg 675 (by decide +kernel) rfl, mg 676 (by decide +kernel) rfl, mg 677 (by decide +kernel) rfl⟩
theorem k_L_65 : CkV RL 65 yX9_ends cX9_ends 5 (some .int) 2 := ⟨kb_X9_ends, mg 953 (by decide +kernel) rfl, mg 954 (by decide +kernel) rfl, mg 955 (by decide +kernel) rfl⟩
theorem k_L_66 : CkV RL 66 yX8_matters cX8_matters 7 (some .int) 2 := ⟨kb_X8_matters, mg 690 (by decide +kernel) rfl, mg 691 (by decide +kernel) rfl, mg 692 (by decide +kernel) rfl⟩
theorem k_L_69 : CkV RL 69 yX9_matters cX9_matters 6 (some .int) 2 := ⟨kb_X9_matters, mg 961 (by decide +kernel) rfl, mg 962 (by decide +kernel) rfl, mg 963 (by decide +kernel) rfl⟩
theorem k_L_70 : CkV RL 70 yX8_steps cX8_steps 6 (some .int) 2 := ⟨kb_X8_steps, mg 694 (by decide +kernel) rfl, mg 695 (by decide +kernel) rfl, mg 696 (by decide +kernel) rfl⟩
theorem k_L_73 : CkV RL 73 yX9_steps cX9_steps 5 (some .int) 2 := ⟨kb_X9_steps, mg 965 (by decide +kernel) rfl, mg 966 (by decide +kernel) rfl, mg 967 (by decide +kernel) rfl⟩
theorem k_L_74 : CkV RL 74 yX8_unlike cX8_unlike 8 (some .int) 4 := ⟨kb_X8_unlike, mg 698 (by decide +kernel) rfl, mg 699 (by decide +kernel) rfl, mg 700 (by decide +kernel) rfl⟩
theorem k_L_77 : CkV RL 77 yX9_unlike cX9_unlike 9 (some .int) 4 := ⟨kb_X9_unlike, mg 969 (by decide +kernel) rfl, mg 970 (by decide +kernel) rfl, mg 971 (by decide +kernel) rfl⟩
theorem k_L_78 : CkV RL 78 yX8_told cX8_told 2 (some .int) 1 := ⟨kb_X8_told, mg 702 (by decide +kernel) rfl, mg 703 (by decide +kernel) rfl, mg 704 (by decide +kernel) rfl⟩
theorem k_L_81 : CkV RL 81 yX9_told cX9_told 2 (some .int) 1 := ⟨kb_X9_told, mg 973 (by decide +kernel) rfl, mg 974 (by decide +kernel) rfl, mg 975 (by decide +kernel) rfl⟩
theorem f_X9_7 : Fl RX9 7 8 0 RX9 TX9 25 tyX9 := ⟨kl_8, by decide, mg 751 (by decide +kernel) rfl⟩
theorem f_X9_13 : Fl RX9 13 8 1 RX9 TX9 25 tyX9 := ⟨kl_8, by decide, mg 752 (by decide +kernel) rfl⟩
theorem f_X9_16 : Fl RX9 16 8 2 RX9 TX9 25 tyX9 := ⟨kl_8, by decide, mg 753 (by decide +kernel) rfl⟩
theorem f_X9_19 : Fl RX9 19 8 3 RX9 TX9 25 tyX9 := ⟨kl_8, by decide, mg 754 (by decide +kernel) rfl⟩
theorem f_X9_22 : Fl RX9 22 8 4 RX9 TX9 25 tyX9 := ⟨kl_8, by decide, mg 755 (by decide +kernel) rfl⟩
theorem f_X9_25 : Fl RX9 25 8 5 RX9 TX9 25 tyX9 := ⟨kl_8, by decide, mg 756 (by decide +kernel) rfl⟩
theorem f_X9_28 : Fl RX9 28 8 6 RX9 TX9 25 tyX9 := ⟨kl_8, by decide, mg 757 (by decide +kernel) rfl⟩
theorem f_X9_31 : Fl RX9 31 8 7 RX9 TX9 25 tyX9 := ⟨kl_8, by decide, mg 758 (by decide +kernel) rfl⟩
theorem f_X9_34 : Fl RX9 34 8 8 RX9 TX9 25 tyX9 := ⟨kl_8, by decide, mg 759 (by decide +kernel) rfl⟩
theorem f_X9_37 : Fl RX9 37 8 9 RX9 TX9 25 tyX9 := ⟨kl_8, by decide, mg 760 (by decide +kernel) rfl⟩
theorem f_X9_40 : Fl RX9 40 8 10 RX9 TX9 25 tyX9 := ⟨kl_8, by decide, mg 761 (by decide +kernel) rfl⟩
theorem f_X9_43 : Fl RX9 43 8 11 RX9 TX9 25 tyX9 := ⟨kl_8, by decide, mg 762 (by decide +kernel) rfl⟩
theorem f_X9_46 : Fl RX9 46 8 12 RX9 TX9 25 tyX9 := ⟨kl_8, by decide, mg 763 (by decide +kernel) rfl⟩
theorem f_X9_49 : Fl RX9 49 8 14 RX9 TX9 25 tyX9 := ⟨kl_8, by decide, mg 765 (by decide +kernel) rfl⟩
theorem f_X9_52 : Fl RX9 52 8 15 RX9 TX9 25 tyX9 := ⟨kl_8, by decide, mg 766 (by decide +kernel) rfl⟩
theorem f_X9_55 : Fl RX9 55 8 16 RX9 TX9 25 tyX9 := ⟨kl_8, by decide, mg 767 (by decide +kernel) rfl⟩
theorem f_X9_58 : Fl RX9 58 8 17 RX9 TX9 25 tyX9 := ⟨kl_8, by decide, mg 768 (by decide +kernel) rfl⟩
theorem f_X9_61 : Fl RX9 61 8 24 RX9 TX9 25 tyX9 := ⟨kl_8, by decide, mg 775 (by decide +kernel) rfl⟩
theorem k_X9_64 : CkV RX9 64 yX9_layTables cX9_layTables 5 none 0 := ⟨kb_X9_layTables, mg 712 (by decide +kernel) rfl, mg 714 (by decide +kernel) rfl, mg 38 (by decide +kernel) rfl⟩
theorem k_X9_69 : CkS RX9 69 yX9_in cX9_in 6 (some .boolean) 3 := ⟨kb_X9_in, mg 738 (by decide +kernel) rfl, mg 739 (by decide +kernel) rfl⟩
theorem k_X9_81 : CkS RX9 81 yX9_calledBy cX9_calledBy 1 (some .int) 1 := ⟨kb_X9_calledBy, mg 723 (by decide +kernel) rfl, mg 724 (by decide +kernel) rfl⟩
theorem k_X9_85 : CkS RX9 85 yX9_argumentsOf cX9_argumentsOf 1 (some .int) 1 := ⟨kb_X9_argumentsOf, mg 716 (by decide +kernel) rfl, mg 717 (by decide +kernel) rfl⟩
theorem k_X9_88 : CkS RX9 88 yX9_isAct cX9_isAct 1 (some .boolean) 1 := ⟨kb_X9_isAct, mg 730 (by decide +kernel) rfl, mg 731 (by decide +kernel) rfl⟩
theorem k_X9_92 : CkS RX9 92 yX9_isArgument cX9_isArgument 1 (some .boolean) 1 := ⟨kb_X9_isArgument, mg 733 (by decide +kernel) rfl, mg 734 (by decide +kernel) rfl⟩
theorem k_X9_99 : CkS RX9 99 yX9_isFunction cX9_isFunction 1 (some .boolean) 1 := ⟨kb_X9_isFunction, mg 841 (by decide +kernel) rfl, mg 842 (by decide +kernel) rfl⟩
theorem k_X9_102 : CkS RX9 102 yX9_partsOf cX9_partsOf 2 (some .int) 2 := ⟨kb_X9_partsOf, mg 845 (by decide +kernel) rfl, mg 846 (by decide +kernel) rfl⟩
theorem k_X9_106 : CkV RX9 106 yX9_fault cX9_fault 6 (some .int) 1 := ⟨kb_X9_fault, mg 854 (by decide +kernel) rfl, mg 838 (by decide +kernel) rfl, mg 839 (by decide +kernel) rfl⟩
theorem k_X9_109 : CkV RX9 109 yX9_isNode cX9_isNode 3 (some .boolean) 2 := ⟨kb_X9_isNode, mg 859 (by decide +kernel) rfl, mg 861 (by decide +kernel) rfl, mg 42 (by decide +kernel) rfl⟩
theorem k_X9_113 : CkV RX9 113 yX9_textOf cX9_textOf 6 (some .int) 3 := ⟨kb_X9_textOf, mg 726 (by decide +kernel) rfl, mg 728 (by decide +kernel) rfl, mg 40 (by decide +kernel) rfl⟩
theorem k_X9_117 : CkS RX9 117 yX9_most cX9_most 2 (some .int) 2 := ⟨kb_X9_most, mg 745 (by decide +kernel) rfl, mg 746 (by decide +kernel) rfl⟩
theorem k_X9_120 : CkS RX9 120 yX9_held cX9_held 1 (some .int) 1 := ⟨kb_X9_held, mg 748 (by decide +kernel) rfl, mg 749 (by decide +kernel) rfl⟩
theorem k_X9_123 : CkV RX9 123 yX9_findMay cX9_findMay 8 none 2 := ⟨kb_X9_findMay, mg 719 (by decide +kernel) rfl, mg 721 (by decide +kernel) rfl, mg 39 (by decide +kernel) rfl⟩
theorem k_X9_127 : CkV RX9 127 yX9_findUses cX9_findUses 8 (some .int) 2 := ⟨kb_X9_findUses, mg 741 (by decide +kernel) rfl, mg 743 (by decide +kernel) rfl, mg 41 (by decide +kernel) rfl⟩
theorem k_X9_130 : CkS RX9 130 yX9_allOf cX9_allOf 1 (some .int) 1 := ⟨kb_X9_allOf, mg 867 (by decide +kernel) rfl, mg 868 (by decide +kernel) rfl⟩
theorem k_X9_133 : CkV RX9 133 yX9_mayCome cX9_mayCome 3 (some .boolean) 2 := ⟨kb_X9_mayCome, mg 878 (by decide +kernel) rfl, mg 880 (by decide +kernel) rfl, mg 44 (by decide +kernel) rfl⟩
theorem k_X9_136 : CkV RX9 136 yX9_isMust cX9_isMust 3 (some .boolean) 2 := ⟨kb_X9_isMust, mg 874 (by decide +kernel) rfl, mg 876 (by decide +kernel) rfl, mg 43 (by decide +kernel) rfl⟩
theorem k_X9_139 : CkV RX9 139 yX9_isJoint cX9_isJoint 5 (some .boolean) 2 := ⟨kb_X9_isJoint, mg 886 (by decide +kernel) rfl, mg 888 (by decide +kernel) rfl, mg 45 (by decide +kernel) rfl⟩
theorem k_X9_142 : CkS RX9 142 yX9_isOf cX9_isOf 2 (some .boolean) 2 := ⟨kb_X9_isOf, mg 894 (by decide +kernel) rfl, mg 895 (by decide +kernel) rfl⟩
theorem f_X9_145 : Fl RX9 145 8 18 RX9 TX9 25 tyX9 := ⟨kl_8, by decide, mg 769 (by decide +kernel) rfl⟩
theorem f_X9_149 : Fl RX9 149 8 21 RX9 TX9 25 tyX9 := ⟨kl_8, by decide, mg 772 (by decide +kernel) rfl⟩
theorem f_X9_152 : Fl RX9 152 8 23 RX9 TX9 25 tyX9 := ⟨kl_8, by decide, mg 774 (by decide +kernel) rfl⟩
theorem f_X9_155 : Fl RX9 155 8 22 RX9 TX9 25 tyX9 := ⟨kl_8, by decide, mg 773 (by decide +kernel) rfl⟩
theorem f_X9_158 : Fl RX9 158 8 19 RX9 TX9 25 tyX9 := ⟨kl_8, by decide, mg 770 (by decide +kernel) rfl⟩
theorem f_X9_161 : Fl RX9 161 8 20 RX9 TX9 25 tyX9 := ⟨kl_8, by decide, mg 771 (by decide +kernel) rfl⟩
theorem k_X9_164 : CkV RX9 164 yX9_beginCall cX9_beginCall 6 none 3 := ⟨kb_X9_beginCall, mg 926 (by decide +kernel) rfl, mg 928 (by decide +kernel) rfl, mg 49 (by decide +kernel) rfl⟩
theorem k_X9_168 : CkV RX9 168 yX9_beginArgument cX9_beginArgument 3 none 2 := ⟨kb_X9_beginArgument, mg 938 (by decide +kernel) rfl, mg 940 (by decide +kernel) rfl, mg 52 (by decide +kernel) rfl⟩
theorem k_X9_171 : CkV RX9 171 yX9_waitFor cX9_waitFor 5 none 4 := ⟨kb_X9_waitFor, mg 934 (by decide +kernel) rfl, mg 936 (by decide +kernel) rfl, mg 51 (by decide +kernel) rfl⟩
theorem k_X9_175 : CkV RX9 175 yX9_come cX9_come 2 none 1 := ⟨kb_X9_come, mg 942 (by decide +kernel) rfl, mg 944 (by decide +kernel) rfl, mg 53 (by decide +kernel) rfl⟩
theorem k_X9_179 : CkV RX9 179 yX9_go cX9_go 3 none 2 := ⟨kb_X9_go, mg 918 (by decide +kernel) rfl, mg 920 (by decide +kernel) rfl, mg 47 (by decide +kernel) rfl⟩
theorem f_X9_182 : Fl RX9 182 8 13 RX9 TX9 25 tyX9 := ⟨kl_8, by decide, mg 764 (by decide +kernel) rfl⟩
theorem k_X9_185 : CkV RX9 185 yX9_goAhead cX9_goAhead 6 none 3 := ⟨kb_X9_goAhead, mg 930 (by decide +kernel) rfl, mg 932 (by decide +kernel) rfl, mg 50 (by decide +kernel) rfl⟩
theorem k_X9_188 : CkS RX9 188 yX9_act cX9_act 3 (some .int) 3 := ⟨kb_X9_act, mg 950 (by decide +kernel) rfl, mg 951 (by decide +kernel) rfl⟩
theorem k_X9_191 : CkS RX9 191 yX9_toldOne cX9_toldOne 5 (some .int) 3 := ⟨kb_X9_toldOne, mg 915 (by decide +kernel) rfl, mg 916 (by decide +kernel) rfl⟩
theorem k_X9_194 : CkV RX9 194 yX9_begin cX9_begin 4 none 1 := ⟨kb_X9_begin, mg 922 (by decide +kernel) rfl, mg 924 (by decide +kernel) rfl, mg 48 (by decide +kernel) rfl⟩
theorem k_X9_197 : CkV RX9 197 yX9_goOn cX9_goOn 5 none 0 := ⟨kb_X9_goOn, mg 946 (by decide +kernel) rfl, mg 948 (by decide +kernel) rfl, mg 54 (by decide +kernel) rfl⟩
theorem k_X9_200 : CkS RX9 200 yX9_rowsOf cX9_rowsOf 1 (some .int) 1 := ⟨kb_X9_rowsOf, mg 905 (by decide +kernel) rfl, mg 906 (by decide +kernel) rfl⟩
theorem k_X9_203 : CkS RX9 203 yX9_isWay cX9_isWay 1 (some .boolean) 1 := ⟨kb_X9_isWay, mg 908 (by decide +kernel) rfl, mg 909 (by decide +kernel) rfl⟩
theorem k_X9_206 : CkV RX9 206 yX9_runIt cX9_runIt 6 none 3 := ⟨kb_X9_runIt, mg 911 (by decide +kernel) rfl, mg 913 (by decide +kernel) rfl, mg 46 (by decide +kernel) rfl⟩
theorem k_X9_211 : CkS RX9 211 yX9_areNumbers cX9_areNumbers 4 (some .boolean) 2 := ⟨kb_X9_areNumbers, mg 958 (by decide +kernel) rfl, mg 959 (by decide +kernel) rfl⟩
/-- the shapes of all cells -/
def SHP : List Shp := [.inr (7, [some (some 1), some (some 3), some (some 5), some (some 12), some (some 16), some (some 20)]), .inr (4, [some (some 2), none]), .inl 30, .inr (5, [some (some 4), none]), .inl 10, .inr (0, [some (some 6), some (some 7), some (some 8), some (some 9), some (some 10), some (some 11)]), .inl 4, .inl 120, .inl 120, .inl 120, .inl 120, .inl 120, .inr (6, [some (some 5), some (some 13), some (some 14), some (some 15)]), .inl 120, .inl 4, .inl 4, .inr (1, [some (some 5), some (some 17), some (some 18), some (some 19)]), .inl 120, .inl 12, .inl 12, .inr (3, [some (some 21), some (some 29)]), .inr (2, [some (some 5), some (some 12), some (some 22), some (some 23), some (some 24), none, some (some 25), some (some 26), some (some 27), none, none, some (some 28), none, none, none, none, none, none]), .inl 903, .inl 903, .inl 903, .inl 300, .inl 300, .inl 300, .inl 4, .inl 3600, .inr (8, [some (some 31), some (some 32), some (some 33), some (some 34), some (some 35), some (some 36), some (some 37), some (some 38), some (some 39), some (some 40), some (some 41), some (some 42), some (some 43), none, some (some 44), some (some 45), some (some 46), some (some 47), none, none, none, none, none, none, some (some 48)]), .inl 150, .inl 150, .inl 150, .inl 5, .inl 32, .inl 32, .inl 4, .inl 12, .inl 30, .inl 302, .inl 906, .inl 906, .inl 906, .inl 1000, .inl 1000, .inl 1000, .inl 1000, .inl 729]
def HsB (sh : List Shp) : Prop := ∀ k, 5 ≤ k → k < 12 → sh[k]? = SHP[k]?
def HsC (sh : List Shp) : Prop := ∀ k, k < 30 → sh[k]? = SHP[k]?
def HsM (sh : List Shp) : Prop := ∀ k, 30 ≤ k → k < 49 → sh[k]? = SHP[k]?
theorem HsC.B {sh : List Shp} (h : HsC sh) : HsB sh := fun k _ h2 => h k (by omega)
theorem hsB_5 {sh : List Shp} (h : HsB sh) : sh[5]? = some (.inr (0, [some (some 6), some (some 7), some (some 8), some (some 9), some (some 10), some (some 11)])) := h 5 (by decide) (by decide)
theorem hsB_6 {sh : List Shp} (h : HsB sh) : sh[6]? = some (.inl 4) := h 6 (by decide) (by decide)
theorem hsB_7 {sh : List Shp} (h : HsB sh) : sh[7]? = some (.inl 120) := h 7 (by decide) (by decide)
theorem hsB_8 {sh : List Shp} (h : HsB sh) : sh[8]? = some (.inl 120) := h 8 (by decide) (by decide)
theorem hsB_9 {sh : List Shp} (h : HsB sh) : sh[9]? = some (.inl 120) := h 9 (by decide) (by decide)
theorem hsB_10 {sh : List Shp} (h : HsB sh) : sh[10]? = some (.inl 120) := h 10 (by decide) (by decide)
theorem hsB_11 {sh : List Shp} (h : HsB sh) : sh[11]? = some (.inl 120) := h 11 (by decide) (by decide)
theorem hsC_0 {sh : List Shp} (h : HsC sh) : sh[0]? = some (.inr (7, [some (some 1), some (some 3), some (some 5), some (some 12), some (some 16), some (some 20)])) := h 0 (by decide)
theorem hsC_1 {sh : List Shp} (h : HsC sh) : sh[1]? = some (.inr (4, [some (some 2), none])) := h 1 (by decide)
theorem hsC_2 {sh : List Shp} (h : HsC sh) : sh[2]? = some (.inl 30) := h 2 (by decide)
theorem hsC_3 {sh : List Shp} (h : HsC sh) : sh[3]? = some (.inr (5, [some (some 4), none])) := h 3 (by decide)
theorem hsC_4 {sh : List Shp} (h : HsC sh) : sh[4]? = some (.inl 10) := h 4 (by decide)
theorem hsC_5 {sh : List Shp} (h : HsC sh) : sh[5]? = some (.inr (0, [some (some 6), some (some 7), some (some 8), some (some 9), some (some 10), some (some 11)])) := h 5 (by decide)
theorem hsC_6 {sh : List Shp} (h : HsC sh) : sh[6]? = some (.inl 4) := h 6 (by decide)
theorem hsC_7 {sh : List Shp} (h : HsC sh) : sh[7]? = some (.inl 120) := h 7 (by decide)
theorem hsC_8 {sh : List Shp} (h : HsC sh) : sh[8]? = some (.inl 120) := h 8 (by decide)
theorem hsC_9 {sh : List Shp} (h : HsC sh) : sh[9]? = some (.inl 120) := h 9 (by decide)
theorem hsC_10 {sh : List Shp} (h : HsC sh) : sh[10]? = some (.inl 120) := h 10 (by decide)
theorem hsC_11 {sh : List Shp} (h : HsC sh) : sh[11]? = some (.inl 120) := h 11 (by decide)
theorem hsC_12 {sh : List Shp} (h : HsC sh) : sh[12]? = some (.inr (6, [some (some 5), some (some 13), some (some 14), some (some 15)])) := h 12 (by decide)
theorem hsC_13 {sh : List Shp} (h : HsC sh) : sh[13]? = some (.inl 120) := h 13 (by decide)
theorem hsC_14 {sh : List Shp} (h : HsC sh) : sh[14]? = some (.inl 4) := h 14 (by decide)
theorem hsC_15 {sh : List Shp} (h : HsC sh) : sh[15]? = some (.inl 4) := h 15 (by decide)
theorem hsC_16 {sh : List Shp} (h : HsC sh) : sh[16]? = some (.inr (1, [some (some 5), some (some 17), some (some 18), some (some 19)])) := h 16 (by decide)
theorem hsC_17 {sh : List Shp} (h : HsC sh) : sh[17]? = some (.inl 120) := h 17 (by decide)
theorem hsC_18 {sh : List Shp} (h : HsC sh) : sh[18]? = some (.inl 12) := h 18 (by decide)
theorem hsC_19 {sh : List Shp} (h : HsC sh) : sh[19]? = some (.inl 12) := h 19 (by decide)
theorem hsC_20 {sh : List Shp} (h : HsC sh) : sh[20]? = some (.inr (3, [some (some 21), some (some 29)])) := h 20 (by decide)
theorem hsC_21 {sh : List Shp} (h : HsC sh) : sh[21]? = some (.inr (2, [some (some 5), some (some 12), some (some 22), some (some 23), some (some 24), none, some (some 25), some (some 26), some (some 27), none, none, some (some 28), none, none, none, none, none, none])) := h 21 (by decide)
theorem hsC_22 {sh : List Shp} (h : HsC sh) : sh[22]? = some (.inl 903) := h 22 (by decide)
theorem hsC_23 {sh : List Shp} (h : HsC sh) : sh[23]? = some (.inl 903) := h 23 (by decide)
theorem hsC_24 {sh : List Shp} (h : HsC sh) : sh[24]? = some (.inl 903) := h 24 (by decide)
theorem hsC_25 {sh : List Shp} (h : HsC sh) : sh[25]? = some (.inl 300) := h 25 (by decide)
theorem hsC_26 {sh : List Shp} (h : HsC sh) : sh[26]? = some (.inl 300) := h 26 (by decide)
theorem hsC_27 {sh : List Shp} (h : HsC sh) : sh[27]? = some (.inl 300) := h 27 (by decide)
theorem hsC_28 {sh : List Shp} (h : HsC sh) : sh[28]? = some (.inl 4) := h 28 (by decide)
theorem hsC_29 {sh : List Shp} (h : HsC sh) : sh[29]? = some (.inl 3600) := h 29 (by decide)
theorem hsM_30 {sh : List Shp} (h : HsM sh) : sh[30]? = some (.inr (8, [some (some 31), some (some 32), some (some 33), some (some 34), some (some 35), some (some 36), some (some 37), some (some 38), some (some 39), some (some 40), some (some 41), some (some 42), some (some 43), none, some (some 44), some (some 45), some (some 46), some (some 47), none, none, none, none, none, none, some (some 48)])) := h 30 (by decide) (by decide)
theorem hsM_31 {sh : List Shp} (h : HsM sh) : sh[31]? = some (.inl 150) := h 31 (by decide) (by decide)
theorem hsM_32 {sh : List Shp} (h : HsM sh) : sh[32]? = some (.inl 150) := h 32 (by decide) (by decide)
theorem hsM_33 {sh : List Shp} (h : HsM sh) : sh[33]? = some (.inl 150) := h 33 (by decide) (by decide)
theorem hsM_34 {sh : List Shp} (h : HsM sh) : sh[34]? = some (.inl 5) := h 34 (by decide) (by decide)
theorem hsM_35 {sh : List Shp} (h : HsM sh) : sh[35]? = some (.inl 32) := h 35 (by decide) (by decide)
theorem hsM_36 {sh : List Shp} (h : HsM sh) : sh[36]? = some (.inl 32) := h 36 (by decide) (by decide)
theorem hsM_37 {sh : List Shp} (h : HsM sh) : sh[37]? = some (.inl 4) := h 37 (by decide) (by decide)
theorem hsM_38 {sh : List Shp} (h : HsM sh) : sh[38]? = some (.inl 12) := h 38 (by decide) (by decide)
theorem hsM_39 {sh : List Shp} (h : HsM sh) : sh[39]? = some (.inl 30) := h 39 (by decide) (by decide)
theorem hsM_40 {sh : List Shp} (h : HsM sh) : sh[40]? = some (.inl 302) := h 40 (by decide) (by decide)
theorem hsM_41 {sh : List Shp} (h : HsM sh) : sh[41]? = some (.inl 906) := h 41 (by decide) (by decide)
theorem hsM_42 {sh : List Shp} (h : HsM sh) : sh[42]? = some (.inl 906) := h 42 (by decide) (by decide)
theorem hsM_43 {sh : List Shp} (h : HsM sh) : sh[43]? = some (.inl 906) := h 43 (by decide) (by decide)
theorem hsM_44 {sh : List Shp} (h : HsM sh) : sh[44]? = some (.inl 1000) := h 44 (by decide) (by decide)
theorem hsM_45 {sh : List Shp} (h : HsM sh) : sh[45]? = some (.inl 1000) := h 45 (by decide) (by decide)
theorem hsM_46 {sh : List Shp} (h : HsM sh) : sh[46]? = some (.inl 1000) := h 46 (by decide) (by decide)
theorem hsM_47 {sh : List Shp} (h : HsM sh) : sh[47]? = some (.inl 1000) := h 47 (by decide) (by decide)
theorem hsM_48 {sh : List Shp} (h : HsM sh) : sh[48]? = some (.inl 729) := h 48 (by decide) (by decide)
