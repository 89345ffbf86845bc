section
-- ===== PART A: goes FIRST, ahead of the names: the tables' words, and 'selects' of the private methods out of them =====
/-- a private method of a class that the tables say can be made, by its rows of tables_1 -/
def lw_okq (q : MethodName × Nat) : Prop := (q.1.cls ≠ "java/lang/invoke/MethodHandle" ∧ q.1.cls ≠ "java/lang/invoke/VarHandle") ∧ Cond.instantiable q.1.cls q.2 ∈ tables_1 ∧ Cond.privateMethod q.1 ∈ tables_1 ∧ Cond.instanceMethod q.1 ∈ tables_1
theorem lw_p0 : lw_okq (⟨"PictureScript$Play", "keepOneMoment", "()V"⟩, 6) := ⟨⟨by decide +kernel, by decide +kernel⟩, List.mem_of_getElem? (i := 79) (by decide +kernel), List.mem_of_getElem? (i := 176) (by decide +kernel), List.mem_of_getElem? (i := 177) (by decide +kernel)⟩
theorem lw_p1 : lw_okq (⟨"PictureScript$Moment", "carryOut", "(LPictureScript$Script;I)I"⟩, 4) := ⟨⟨by decide +kernel, by decide +kernel⟩, List.mem_of_getElem? (i := 86) (by decide +kernel), List.mem_of_getElem? (i := 207) (by decide +kernel), List.mem_of_getElem? (i := 208) (by decide +kernel)⟩
theorem lw_p2 : lw_okq (⟨"PictureScript$Moment", "putAt", "(III)V"⟩, 4) := ⟨⟨by decide +kernel, by decide +kernel⟩, List.mem_of_getElem? (i := 86) (by decide +kernel), List.mem_of_getElem? (i := 216) (by decide +kernel), List.mem_of_getElem? (i := 217) (by decide +kernel)⟩
theorem lw_p3 : lw_okq (⟨"PictureScript$Moment", "hide", "(I)V"⟩, 4) := ⟨⟨by decide +kernel, by decide +kernel⟩, List.mem_of_getElem? (i := 86) (by decide +kernel), List.mem_of_getElem? (i := 220) (by decide +kernel), List.mem_of_getElem? (i := 221) (by decide +kernel)⟩
theorem lw_p4 : lw_okq (⟨"PictureScript$Play", "see", "(I)Z"⟩, 6) := ⟨⟨by decide +kernel, by decide +kernel⟩, List.mem_of_getElem? (i := 79) (by decide +kernel), List.mem_of_getElem? (i := 224) (by decide +kernel), List.mem_of_getElem? (i := 225) (by decide +kernel)⟩
theorem lw_p5 : lw_okq (⟨"PictureScript$Chart", "follow", "(LPictureScript$Script;III)V"⟩, 8) := ⟨⟨by decide +kernel, by decide +kernel⟩, List.mem_of_getElem? (i := 134) (by decide +kernel), List.mem_of_getElem? (i := 234) (by decide +kernel), List.mem_of_getElem? (i := 235) (by decide +kernel)⟩
theorem lw_p6 : lw_okq (⟨"PictureScript$Chart", "arrive", "(LPictureScript$Script;I)V"⟩, 8) := ⟨⟨by decide +kernel, by decide +kernel⟩, List.mem_of_getElem? (i := 134) (by decide +kernel), List.mem_of_getElem? (i := 246) (by decide +kernel), List.mem_of_getElem? (i := 247) (by decide +kernel)⟩
theorem lw_p7 : lw_okq (⟨"PictureScript$Text", "skipBlanks", "()V"⟩, 5) := ⟨⟨by decide +kernel, by decide +kernel⟩, List.mem_of_getElem? (i := 25) (by decide +kernel), List.mem_of_getElem? (i := 314) (by decide +kernel), List.mem_of_getElem? (i := 315) (by decide +kernel)⟩
theorem lw_p8 : lw_okq (⟨"PictureScript$Text", "here", "()I"⟩, 5) := ⟨⟨by decide +kernel, by decide +kernel⟩, List.mem_of_getElem? (i := 25) (by decide +kernel), List.mem_of_getElem? (i := 318) (by decide +kernel), List.mem_of_getElem? (i := 319) (by decide +kernel)⟩
theorem lw_p9 : lw_okq (⟨"PictureScript$Text", "isAtEnd", "()Z"⟩, 5) := ⟨⟨by decide +kernel, by decide +kernel⟩, List.mem_of_getElem? (i := 25) (by decide +kernel), List.mem_of_getElem? (i := 322) (by decide +kernel), List.mem_of_getElem? (i := 323) (by decide +kernel)⟩
theorem lw_p10 : lw_okq (⟨"PictureScript$Text", "takeNode", "()Z"⟩, 5) := ⟨⟨by decide +kernel, by decide +kernel⟩, List.mem_of_getElem? (i := 25) (by decide +kernel), List.mem_of_getElem? (i := 326) (by decide +kernel), List.mem_of_getElem? (i := 327) (by decide +kernel)⟩
theorem lw_p11 : lw_okq (⟨"PictureScript$Text", "addVoice", "()Z"⟩, 5) := ⟨⟨by decide +kernel, by decide +kernel⟩, List.mem_of_getElem? (i := 25) (by decide +kernel), List.mem_of_getElem? (i := 421) (by decide +kernel), List.mem_of_getElem? (i := 422) (by decide +kernel)⟩
theorem lw_p12 : lw_okq (⟨"PictureScript$Text", "addNumber", "(I)Z"⟩, 5) := ⟨⟨by decide +kernel, by decide +kernel⟩, List.mem_of_getElem? (i := 25) (by decide +kernel), List.mem_of_getElem? (i := 429) (by decide +kernel), List.mem_of_getElem? (i := 430) (by decide +kernel)⟩
theorem lw_p13 : lw_okq (⟨"PictureScript$Text", "takeNumber", "(I)Z"⟩, 5) := ⟨⟨by decide +kernel, by decide +kernel⟩, List.mem_of_getElem? (i := 25) (by decide +kernel), List.mem_of_getElem? (i := 433) (by decide +kernel), List.mem_of_getElem? (i := 434) (by decide +kernel)⟩
theorem lw_p14 : lw_okq (⟨"PictureScript$Text", "isAtDigit", "()Z"⟩, 5) := ⟨⟨by decide +kernel, by decide +kernel⟩, List.mem_of_getElem? (i := 25) (by decide +kernel), List.mem_of_getElem? (i := 437) (by decide +kernel), List.mem_of_getElem? (i := 438) (by decide +kernel)⟩
theorem lw_p15 : lw_okq (⟨"PictureScript$Text", "addDigit", "(I)Z"⟩, 5) := ⟨⟨by decide +kernel, by decide +kernel⟩, List.mem_of_getElem? (i := 25) (by decide +kernel), List.mem_of_getElem? (i := 441) (by decide +kernel), List.mem_of_getElem? (i := 442) (by decide +kernel)⟩
def lw_privs_1 : List (MethodName × Nat) := [(⟨"PictureScript$Play", "keepOneMoment", "()V"⟩, 6), (⟨"PictureScript$Moment", "carryOut", "(LPictureScript$Script;I)I"⟩, 4), (⟨"PictureScript$Moment", "putAt", "(III)V"⟩, 4), (⟨"PictureScript$Moment", "hide", "(I)V"⟩, 4), (⟨"PictureScript$Play", "see", "(I)Z"⟩, 6), (⟨"PictureScript$Chart", "follow", "(LPictureScript$Script;III)V"⟩, 8), (⟨"PictureScript$Chart", "arrive", "(LPictureScript$Script;I)V"⟩, 8), (⟨"PictureScript$Text", "skipBlanks", "()V"⟩, 5), (⟨"PictureScript$Text", "here", "()I"⟩, 5), (⟨"PictureScript$Text", "isAtEnd", "()Z"⟩, 5), (⟨"PictureScript$Text", "takeNode", "()Z"⟩, 5), (⟨"PictureScript$Text", "addVoice", "()Z"⟩, 5), (⟨"PictureScript$Text", "addNumber", "(I)Z"⟩, 5), (⟨"PictureScript$Text", "takeNumber", "(I)Z"⟩, 5), (⟨"PictureScript$Text", "isAtDigit", "()Z"⟩, 5), (⟨"PictureScript$Text", "addDigit", "(I)Z"⟩, 5)]
theorem lw_r1 : ∀ q ∈ lw_privs_1, lw_okq q := List.forall_mem_cons.mpr ⟨lw_p0, List.forall_mem_cons.mpr ⟨lw_p1, List.forall_mem_cons.mpr ⟨lw_p2, List.forall_mem_cons.mpr ⟨lw_p3, List.forall_mem_cons.mpr ⟨lw_p4, List.forall_mem_cons.mpr ⟨lw_p5, List.forall_mem_cons.mpr ⟨lw_p6, List.forall_mem_cons.mpr ⟨lw_p7, List.forall_mem_cons.mpr ⟨lw_p8, List.forall_mem_cons.mpr ⟨lw_p9, List.forall_mem_cons.mpr ⟨lw_p10, List.forall_mem_cons.mpr ⟨lw_p11, List.forall_mem_cons.mpr ⟨lw_p12, List.forall_mem_cons.mpr ⟨lw_p13, List.forall_mem_cons.mpr ⟨lw_p14, List.forall_mem_cons.mpr ⟨lw_p15, fun _ h => absurd h List.not_mem_nil⟩⟩⟩⟩⟩⟩⟩⟩⟩⟩⟩⟩⟩⟩⟩⟩
theorem lw_p16 : lw_okq (⟨"PictureScript$Text", "takeDigit", "(I)Z"⟩, 5) := ⟨⟨by decide +kernel, by decide +kernel⟩, List.mem_of_getElem? (i := 25) (by decide +kernel), List.mem_of_getElem? (i := 445) (by decide +kernel), List.mem_of_getElem? (i := 446) (by decide +kernel)⟩
theorem lw_p17 : lw_okq (⟨"PictureScript$Text", "addPlusOrMinus", "()Z"⟩, 5) := ⟨⟨by decide +kernel, by decide +kernel⟩, List.mem_of_getElem? (i := 25) (by decide +kernel), List.mem_of_getElem? (i := 449) (by decide +kernel), List.mem_of_getElem? (i := 450) (by decide +kernel)⟩
theorem lw_p18 : lw_okq (⟨"PictureScript$Text", "takeSign", "(C)Z"⟩, 5) := ⟨⟨by decide +kernel, by decide +kernel⟩, List.mem_of_getElem? (i := 25) (by decide +kernel), List.mem_of_getElem? (i := 453) (by decide +kernel), List.mem_of_getElem? (i := 454) (by decide +kernel)⟩
theorem lw_p19 : lw_okq (⟨"PictureScript$Text", "takeOptions", "()Z"⟩, 5) := ⟨⟨by decide +kernel, by decide +kernel⟩, List.mem_of_getElem? (i := 25) (by decide +kernel), List.mem_of_getElem? (i := 457) (by decide +kernel), List.mem_of_getElem? (i := 458) (by decide +kernel)⟩
theorem lw_p20 : lw_okq (⟨"PictureScript$Text", "takeOption", "()Z"⟩, 5) := ⟨⟨by decide +kernel, by decide +kernel⟩, List.mem_of_getElem? (i := 25) (by decide +kernel), List.mem_of_getElem? (i := 461) (by decide +kernel), List.mem_of_getElem? (i := 462) (by decide +kernel)⟩
theorem lw_p21 : lw_okq (⟨"PictureScript", "isLineShown", "()Z"⟩, 4) := ⟨⟨by decide +kernel, by decide +kernel⟩, List.mem_of_getElem? (i := 17) (by decide +kernel), List.mem_of_getElem? (i := 483) (by decide +kernel), List.mem_of_getElem? (i := 484) (by decide +kernel)⟩
theorem lw_p22 : lw_okq (⟨"PictureScript", "goOnFromLine", "()Z"⟩, 4) := ⟨⟨by decide +kernel, by decide +kernel⟩, List.mem_of_getElem? (i := 17) (by decide +kernel), List.mem_of_getElem? (i := 488) (by decide +kernel), List.mem_of_getElem? (i := 489) (by decide +kernel)⟩
theorem lw_p23 : lw_okq (⟨"PictureScript$Play", "forgetEarliest", "()V"⟩, 6) := ⟨⟨by decide +kernel, by decide +kernel⟩, List.mem_of_getElem? (i := 79) (by decide +kernel), List.mem_of_getElem? (i := 496) (by decide +kernel), List.mem_of_getElem? (i := 497) (by decide +kernel)⟩
theorem lw_p24 : lw_okq (⟨"PictureScript$Chart", "isReached", "(II)Z"⟩, 8) := ⟨⟨by decide +kernel, by decide +kernel⟩, List.mem_of_getElem? (i := 134) (by decide +kernel), List.mem_of_getElem? (i := 582) (by decide +kernel), List.mem_of_getElem? (i := 583) (by decide +kernel)⟩
theorem lw_p25 : lw_okq (⟨"PictureScript", "digestNode", "(JI)J"⟩, 4) := ⟨⟨by decide +kernel, by decide +kernel⟩, List.mem_of_getElem? (i := 17) (by decide +kernel), List.mem_of_getElem? (i := 638) (by decide +kernel), List.mem_of_getElem? (i := 639) (by decide +kernel)⟩
theorem lw_p26 : lw_okq (⟨"PictureScriptModel", "starts", "()V"⟩, 27) := ⟨⟨by decide +kernel, by decide +kernel⟩, List.mem_of_getElem? (i := 650) (by decide +kernel), List.mem_of_getElem? (i := 656) (by decide +kernel), List.mem_of_getElem? (i := 657) (by decide +kernel)⟩
theorem lw_p27 : lw_okq (⟨"PictureScriptModel", "carries", "(I)I"⟩, 27) := ⟨⟨by decide +kernel, by decide +kernel⟩, List.mem_of_getElem? (i := 650) (by decide +kernel), List.mem_of_getElem? (i := 660) (by decide +kernel), List.mem_of_getElem? (i := 661) (by decide +kernel)⟩
theorem lw_p28 : lw_okq (⟨"PictureScriptModel", "shownKind", "(I)I"⟩, 27) := ⟨⟨by decide +kernel, by decide +kernel⟩, List.mem_of_getElem? (i := 650) (by decide +kernel), List.mem_of_getElem? (i := 664) (by decide +kernel), List.mem_of_getElem? (i := 665) (by decide +kernel)⟩
theorem lw_p29 : lw_okq (⟨"PictureScriptModel", "of", "(II)I"⟩, 27) := ⟨⟨by decide +kernel, by decide +kernel⟩, List.mem_of_getElem? (i := 650) (by decide +kernel), List.mem_of_getElem? (i := 668) (by decide +kernel), List.mem_of_getElem? (i := 669) (by decide +kernel)⟩
theorem lw_p30 : lw_okq (⟨"PictureScriptModel", "does", "(I)I"⟩, 27) := ⟨⟨by decide +kernel, by decide +kernel⟩, List.mem_of_getElem? (i := 650) (by decide +kernel), List.mem_of_getElem? (i := 672) (by decide +kernel), List.mem_of_getElem? (i := 673) (by decide +kernel)⟩
theorem lw_p31 : lw_okq (⟨"PictureScriptModel", "leaves", "(I)V"⟩, 27) := ⟨⟨by decide +kernel, by decide +kernel⟩, List.mem_of_getElem? (i := 650) (by decide +kernel), List.mem_of_getElem? (i := 676) (by decide +kernel), List.mem_of_getElem? (i := 677) (by decide +kernel)⟩
def lw_privs_2 : List (MethodName × Nat) := [(⟨"PictureScript$Text", "takeDigit", "(I)Z"⟩, 5), (⟨"PictureScript$Text", "addPlusOrMinus", "()Z"⟩, 5), (⟨"PictureScript$Text", "takeSign", "(C)Z"⟩, 5), (⟨"PictureScript$Text", "takeOptions", "()Z"⟩, 5), (⟨"PictureScript$Text", "takeOption", "()Z"⟩, 5), (⟨"PictureScript", "isLineShown", "()Z"⟩, 4), (⟨"PictureScript", "goOnFromLine", "()Z"⟩, 4), (⟨"PictureScript$Play", "forgetEarliest", "()V"⟩, 6), (⟨"PictureScript$Chart", "isReached", "(II)Z"⟩, 8), (⟨"PictureScript", "digestNode", "(JI)J"⟩, 4), (⟨"PictureScriptModel", "starts", "()V"⟩, 27), (⟨"PictureScriptModel", "carries", "(I)I"⟩, 27), (⟨"PictureScriptModel", "shownKind", "(I)I"⟩, 27), (⟨"PictureScriptModel", "of", "(II)I"⟩, 27), (⟨"PictureScriptModel", "does", "(I)I"⟩, 27), (⟨"PictureScriptModel", "leaves", "(I)V"⟩, 27)]
theorem lw_r2 : ∀ q ∈ lw_privs_2, lw_okq q := List.forall_mem_cons.mpr ⟨lw_p16, List.forall_mem_cons.mpr ⟨lw_p17, List.forall_mem_cons.mpr ⟨lw_p18, List.forall_mem_cons.mpr ⟨lw_p19, List.forall_mem_cons.mpr ⟨lw_p20, List.forall_mem_cons.mpr ⟨lw_p21, List.forall_mem_cons.mpr ⟨lw_p22, List.forall_mem_cons.mpr ⟨lw_p23, List.forall_mem_cons.mpr ⟨lw_p24, List.forall_mem_cons.mpr ⟨lw_p25, List.forall_mem_cons.mpr ⟨lw_p26, List.forall_mem_cons.mpr ⟨lw_p27, List.forall_mem_cons.mpr ⟨lw_p28, List.forall_mem_cons.mpr ⟨lw_p29, List.forall_mem_cons.mpr ⟨lw_p30, List.forall_mem_cons.mpr ⟨lw_p31, fun _ h => absurd h List.not_mem_nil⟩⟩⟩⟩⟩⟩⟩⟩⟩⟩⟩⟩⟩⟩⟩⟩
theorem lw_p32 : lw_okq (⟨"PictureScriptModel", "puts", "(I)V"⟩, 27) := ⟨⟨by decide +kernel, by decide +kernel⟩, List.mem_of_getElem? (i := 650) (by decide +kernel), List.mem_of_getElem? (i := 680) (by decide +kernel), List.mem_of_getElem? (i := 681) (by decide +kernel)⟩
theorem lw_p33 : lw_okq (⟨"PictureScriptModel", "placeOf", "(I)I"⟩, 27) := ⟨⟨by decide +kernel, by decide +kernel⟩, List.mem_of_getElem? (i := 650) (by decide +kernel), List.mem_of_getElem? (i := 684) (by decide +kernel), List.mem_of_getElem? (i := 685) (by decide +kernel)⟩
theorem lw_p34 : lw_okq (⟨"PictureScriptModel", "reads", "()V"⟩, 27) := ⟨⟨by decide +kernel, by decide +kernel⟩, List.mem_of_getElem? (i := 650) (by decide +kernel), List.mem_of_getElem? (i := 785) (by decide +kernel), List.mem_of_getElem? (i := 786) (by decide +kernel)⟩
theorem lw_p35 : lw_okq (⟨"PictureScriptModel", "blanks", "()V"⟩, 27) := ⟨⟨by decide +kernel, by decide +kernel⟩, List.mem_of_getElem? (i := 650) (by decide +kernel), List.mem_of_getElem? (i := 789) (by decide +kernel), List.mem_of_getElem? (i := 790) (by decide +kernel)⟩
theorem lw_p36 : lw_okq (⟨"PictureScriptModel", "next", "()I"⟩, 27) := ⟨⟨by decide +kernel, by decide +kernel⟩, List.mem_of_getElem? (i := 650) (by decide +kernel), List.mem_of_getElem? (i := 793) (by decide +kernel), List.mem_of_getElem? (i := 794) (by decide +kernel)⟩
theorem lw_p37 : lw_okq (⟨"PictureScriptModel", "readsNode", "()V"⟩, 27) := ⟨⟨by decide +kernel, by decide +kernel⟩, List.mem_of_getElem? (i := 650) (by decide +kernel), List.mem_of_getElem? (i := 797) (by decide +kernel), List.mem_of_getElem? (i := 798) (by decide +kernel)⟩
theorem lw_p38 : lw_okq (⟨"PictureScriptModel", "fails", "(I)V"⟩, 27) := ⟨⟨by decide +kernel, by decide +kernel⟩, List.mem_of_getElem? (i := 650) (by decide +kernel), List.mem_of_getElem? (i := 804) (by decide +kernel), List.mem_of_getElem? (i := 805) (by decide +kernel)⟩
theorem lw_p39 : lw_okq (⟨"PictureScriptModel", "take", "(Z)I"⟩, 27) := ⟨⟨by decide +kernel, by decide +kernel⟩, List.mem_of_getElem? (i := 650) (by decide +kernel), List.mem_of_getElem? (i := 808) (by decide +kernel), List.mem_of_getElem? (i := 809) (by decide +kernel)⟩
theorem lw_p40 : lw_okq (⟨"PictureScriptModel", "voice", "()I"⟩, 27) := ⟨⟨by decide +kernel, by decide +kernel⟩, List.mem_of_getElem? (i := 650) (by decide +kernel), List.mem_of_getElem? (i := 812) (by decide +kernel), List.mem_of_getElem? (i := 813) (by decide +kernel)⟩
theorem lw_p41 : lw_okq (⟨"PictureScriptModel", "number", "(I)I"⟩, 27) := ⟨⟨by decide +kernel, by decide +kernel⟩, List.mem_of_getElem? (i := 650) (by decide +kernel), List.mem_of_getElem? (i := 816) (by decide +kernel), List.mem_of_getElem? (i := 817) (by decide +kernel)⟩
theorem lw_p42 : lw_okq (⟨"PictureScriptModel", "isDigit", "()Z"⟩, 27) := ⟨⟨by decide +kernel, by decide +kernel⟩, List.mem_of_getElem? (i := 650) (by decide +kernel), List.mem_of_getElem? (i := 820) (by decide +kernel), List.mem_of_getElem? (i := 821) (by decide +kernel)⟩
theorem lw_p43 : lw_okq (⟨"PictureScriptModel", "digit", "(I)I"⟩, 27) := ⟨⟨by decide +kernel, by decide +kernel⟩, List.mem_of_getElem? (i := 650) (by decide +kernel), List.mem_of_getElem? (i := 824) (by decide +kernel), List.mem_of_getElem? (i := 825) (by decide +kernel)⟩
theorem lw_p44 : lw_okq (⟨"PictureScriptModel", "readsOptions", "(I)V"⟩, 27) := ⟨⟨by decide +kernel, by decide +kernel⟩, List.mem_of_getElem? (i := 650) (by decide +kernel), List.mem_of_getElem? (i := 828) (by decide +kernel), List.mem_of_getElem? (i := 829) (by decide +kernel)⟩
theorem lw_p45 : lw_okq (⟨"PictureScriptModel", "present", "(I)I"⟩, 27) := ⟨⟨by decide +kernel, by decide +kernel⟩, List.mem_of_getElem? (i := 650) (by decide +kernel), List.mem_of_getElem? (i := 840) (by decide +kernel), List.mem_of_getElem? (i := 841) (by decide +kernel)⟩
theorem lw_p46 : lw_okq (⟨"PictureScriptModel", "goesOn", "(I)V"⟩, 27) := ⟨⟨by decide +kernel, by decide +kernel⟩, List.mem_of_getElem? (i := 650) (by decide +kernel), List.mem_of_getElem? (i := 848) (by decide +kernel), List.mem_of_getElem? (i := 849) (by decide +kernel)⟩
theorem lw_p47 : lw_okq (⟨"PictureScriptModel", "takes", "()V"⟩, 27) := ⟨⟨by decide +kernel, by decide +kernel⟩, List.mem_of_getElem? (i := 650) (by decide +kernel), List.mem_of_getElem? (i := 852) (by decide +kernel), List.mem_of_getElem? (i := 853) (by decide +kernel)⟩
def lw_privs_3 : List (MethodName × Nat) := [(⟨"PictureScriptModel", "puts", "(I)V"⟩, 27), (⟨"PictureScriptModel", "placeOf", "(I)I"⟩, 27), (⟨"PictureScriptModel", "reads", "()V"⟩, 27), (⟨"PictureScriptModel", "blanks", "()V"⟩, 27), (⟨"PictureScriptModel", "next", "()I"⟩, 27), (⟨"PictureScriptModel", "readsNode", "()V"⟩, 27), (⟨"PictureScriptModel", "fails", "(I)V"⟩, 27), (⟨"PictureScriptModel", "take", "(Z)I"⟩, 27), (⟨"PictureScriptModel", "voice", "()I"⟩, 27), (⟨"PictureScriptModel", "number", "(I)I"⟩, 27), (⟨"PictureScriptModel", "isDigit", "()Z"⟩, 27), (⟨"PictureScriptModel", "digit", "(I)I"⟩, 27), (⟨"PictureScriptModel", "readsOptions", "(I)V"⟩, 27), (⟨"PictureScriptModel", "present", "(I)I"⟩, 27), (⟨"PictureScriptModel", "goesOn", "(I)V"⟩, 27), (⟨"PictureScriptModel", "takes", "()V"⟩, 27)]
theorem lw_r3 : ∀ q ∈ lw_privs_3, lw_okq q := List.forall_mem_cons.mpr ⟨lw_p32, List.forall_mem_cons.mpr ⟨lw_p33, List.forall_mem_cons.mpr ⟨lw_p34, List.forall_mem_cons.mpr ⟨lw_p35, List.forall_mem_cons.mpr ⟨lw_p36, List.forall_mem_cons.mpr ⟨lw_p37, List.forall_mem_cons.mpr ⟨lw_p38, List.forall_mem_cons.mpr ⟨lw_p39, List.forall_mem_cons.mpr ⟨lw_p40, List.forall_mem_cons.mpr ⟨lw_p41, List.forall_mem_cons.mpr ⟨lw_p42, List.forall_mem_cons.mpr ⟨lw_p43, List.forall_mem_cons.mpr ⟨lw_p44, List.forall_mem_cons.mpr ⟨lw_p45, List.forall_mem_cons.mpr ⟨lw_p46, List.forall_mem_cons.mpr ⟨lw_p47, fun _ h => absurd h List.not_mem_nil⟩⟩⟩⟩⟩⟩⟩⟩⟩⟩⟩⟩⟩⟩⟩⟩
theorem lw_p48 : lw_okq (⟨"PictureScriptModel", "isLocked", "(III)Z"⟩, 27) := ⟨⟨by decide +kernel, by decide +kernel⟩, List.mem_of_getElem? (i := 650) (by decide +kernel), List.mem_of_getElem? (i := 860) (by decide +kernel), List.mem_of_getElem? (i := 861) (by decide +kernel)⟩
theorem lw_p49 : lw_okq (⟨"PictureScriptModel", "endOf", "(I)I"⟩, 27) := ⟨⟨by decide +kernel, by decide +kernel⟩, List.mem_of_getElem? (i := 650) (by decide +kernel), List.mem_of_getElem? (i := 888) (by decide +kernel), List.mem_of_getElem? (i := 889) (by decide +kernel)⟩
theorem lw_p50 : lw_okq (⟨"PictureScriptModel", "open", "()I"⟩, 27) := ⟨⟨by decide +kernel, by decide +kernel⟩, List.mem_of_getElem? (i := 650) (by decide +kernel), List.mem_of_getElem? (i := 892) (by decide +kernel), List.mem_of_getElem? (i := 893) (by decide +kernel)⟩
theorem lw_p51 : lw_okq (⟨"PictureScriptModel", "isNode", "(I)Z"⟩, 27) := ⟨⟨by decide +kernel, by decide +kernel⟩, List.mem_of_getElem? (i := 650) (by decide +kernel), List.mem_of_getElem? (i := 904) (by decide +kernel), List.mem_of_getElem? (i := 905) (by decide +kernel)⟩
theorem lw_p52 : lw_okq (⟨"PictureScriptModel", "isChoice", "(I)Z"⟩, 27) := ⟨⟨by decide +kernel, by decide +kernel⟩, List.mem_of_getElem? (i := 650) (by decide +kernel), List.mem_of_getElem? (i := 912) (by decide +kernel), List.mem_of_getElem? (i := 913) (by decide +kernel)⟩
theorem lw_p53 : lw_okq (⟨"PictureScriptModel", "charts", "()V"⟩, 27) := ⟨⟨by decide +kernel, by decide +kernel⟩, List.mem_of_getElem? (i := 650) (by decide +kernel), List.mem_of_getElem? (i := 920) (by decide +kernel), List.mem_of_getElem? (i := 921) (by decide +kernel)⟩
theorem lw_p54 : lw_okq (⟨"PictureScriptModel", "follows", "(III)V"⟩, 27) := ⟨⟨by decide +kernel, by decide +kernel⟩, List.mem_of_getElem? (i := 650) (by decide +kernel), List.mem_of_getElem? (i := 924) (by decide +kernel), List.mem_of_getElem? (i := 925) (by decide +kernel)⟩
theorem lw_p55 : lw_okq (⟨"PictureScriptModel", "situationsOf", "(I)I"⟩, 27) := ⟨⟨by decide +kernel, by decide +kernel⟩, List.mem_of_getElem? (i := 650) (by decide +kernel), List.mem_of_getElem? (i := 928) (by decide +kernel), List.mem_of_getElem? (i := 929) (by decide +kernel)⟩
theorem lw_p56 : lw_okq (⟨"PictureScriptModel", "stepsTo", "(I)I"⟩, 27) := ⟨⟨by decide +kernel, by decide +kernel⟩, List.mem_of_getElem? (i := 650) (by decide +kernel), List.mem_of_getElem? (i := 939) (by decide +kernel), List.mem_of_getElem? (i := 940) (by decide +kernel)⟩
theorem lw_p57 : lw_okq (⟨"PictureScriptModel", "isUsable", "(II)I"⟩, 27) := ⟨⟨by decide +kernel, by decide +kernel⟩, List.mem_of_getElem? (i := 650) (by decide +kernel), List.mem_of_getElem? (i := 951) (by decide +kernel), List.mem_of_getElem? (i := 952) (by decide +kernel)⟩
theorem lw_p58 : lw_okq (⟨"PictureScriptModel", "seenNodes", "()I"⟩, 27) := ⟨⟨by decide +kernel, by decide +kernel⟩, List.mem_of_getElem? (i := 650) (by decide +kernel), List.mem_of_getElem? (i := 959) (by decide +kernel), List.mem_of_getElem? (i := 960) (by decide +kernel)⟩
theorem lw_p59 : lw_okq (⟨"PictureScriptModel", "savedMoments", "()I"⟩, 27) := ⟨⟨by decide +kernel, by decide +kernel⟩, List.mem_of_getElem? (i := 650) (by decide +kernel), List.mem_of_getElem? (i := 963) (by decide +kernel), List.mem_of_getElem? (i := 964) (by decide +kernel)⟩
theorem lw_p60 : lw_okq (⟨"PictureScriptModel", "ends", "()I"⟩, 27) := ⟨⟨by decide +kernel, by decide +kernel⟩, List.mem_of_getElem? (i := 650) (by decide +kernel), List.mem_of_getElem? (i := 967) (by decide +kernel), List.mem_of_getElem? (i := 968) (by decide +kernel)⟩
theorem lw_p61 : lw_okq (⟨"PictureScriptModel", "mixes", "(I)V"⟩, 27) := ⟨⟨by decide +kernel, by decide +kernel⟩, List.mem_of_getElem? (i := 650) (by decide +kernel), List.mem_of_getElem? (i := 977) (by decide +kernel), List.mem_of_getElem? (i := 978) (by decide +kernel)⟩
theorem lw_p62 : lw_okq (⟨"PictureScriptModel", "mixesNode", "(I)V"⟩, 27) := ⟨⟨by decide +kernel, by decide +kernel⟩, List.mem_of_getElem? (i := 650) (by decide +kernel), List.mem_of_getElem? (i := 984) (by decide +kernel), List.mem_of_getElem? (i := 985) (by decide +kernel)⟩
def lw_privs_4 : List (MethodName × Nat) := [(⟨"PictureScriptModel", "isLocked", "(III)Z"⟩, 27), (⟨"PictureScriptModel", "endOf", "(I)I"⟩, 27), (⟨"PictureScriptModel", "open", "()I"⟩, 27), (⟨"PictureScriptModel", "isNode", "(I)Z"⟩, 27), (⟨"PictureScriptModel", "isChoice", "(I)Z"⟩, 27), (⟨"PictureScriptModel", "charts", "()V"⟩, 27), (⟨"PictureScriptModel", "follows", "(III)V"⟩, 27), (⟨"PictureScriptModel", "situationsOf", "(I)I"⟩, 27), (⟨"PictureScriptModel", "stepsTo", "(I)I"⟩, 27), (⟨"PictureScriptModel", "isUsable", "(II)I"⟩, 27), (⟨"PictureScriptModel", "seenNodes", "()I"⟩, 27), (⟨"PictureScriptModel", "savedMoments", "()I"⟩, 27), (⟨"PictureScriptModel", "ends", "()I"⟩, 27), (⟨"PictureScriptModel", "mixes", "(I)V"⟩, 27), (⟨"PictureScriptModel", "mixesNode", "(I)V"⟩, 27)]
theorem lw_r4 : ∀ q ∈ lw_privs_4, lw_okq q := List.forall_mem_cons.mpr ⟨lw_p48, List.forall_mem_cons.mpr ⟨lw_p49, List.forall_mem_cons.mpr ⟨lw_p50, List.forall_mem_cons.mpr ⟨lw_p51, List.forall_mem_cons.mpr ⟨lw_p52, List.forall_mem_cons.mpr ⟨lw_p53, List.forall_mem_cons.mpr ⟨lw_p54, List.forall_mem_cons.mpr ⟨lw_p55, List.forall_mem_cons.mpr ⟨lw_p56, List.forall_mem_cons.mpr ⟨lw_p57, List.forall_mem_cons.mpr ⟨lw_p58, List.forall_mem_cons.mpr ⟨lw_p59, List.forall_mem_cons.mpr ⟨lw_p60, List.forall_mem_cons.mpr ⟨lw_p61, List.forall_mem_cons.mpr ⟨lw_p62, fun _ h => absurd h List.not_mem_nil⟩⟩⟩⟩⟩⟩⟩⟩⟩⟩⟩⟩⟩⟩⟩
def lw_privs : List (MethodName × Nat) := lw_privs_1 ++ (lw_privs_2 ++ (lw_privs_3 ++ (lw_privs_4)))
def lw_tbl : List Cond := k2_sels lw_privs ++ tables_1
theorem lw_privs_ok : ∀ q ∈ lw_privs, lw_okq q := by
  show ∀ q ∈ lw_privs_1 ++ (lw_privs_2 ++ (lw_privs_3 ++ (lw_privs_4))), lw_okq q
  exact List.forall_mem_append.mpr ⟨lw_r1, List.forall_mem_append.mpr ⟨lw_r2, List.forall_mem_append.mpr ⟨lw_r3, lw_r4⟩⟩⟩
end
section
def RX0 : String := "PictureScript$Chart"
def TX0 : u_T := fun k => match k with
  | 0 => ("PictureScript$Chart", "reached", "I", false)
  | 1 => ("PictureScript$Chart", "choices", "[I", true)
  | 2 => ("PictureScript$Chart", "lastChoice", "[I", true)
  | 3 => ("PictureScript$Chart", "lastOption", "[I", true)
  | 4 => ("PictureScript$Chart", "waiting", "[I", true)
  | 5 => ("PictureScript$Chart", "waitingCount", "I", false)
  | 6 => ("PictureScript$Chart", "endSituation", "[I", true)
  | _ => ("PictureScript$Chart", "moment", "LPictureScript$Moment;", true)
def tyX0 : Nat → FieldType := fun k => match k with
  | 0 => .int
  | 1 => .array .int
  | 2 => .array .int
  | 3 => .array .int
  | 4 => .array .int
  | 5 => .int
  | 6 => .array .int
  | _ => .object "PictureScript$Moment"
abbrev wsX00 : List Cond := u_ws RX0 TX0 8
theorem nmX0 : ∀ a, a < 8 → ∀ b, b < 8 → a ≠ b → (TX0 a).2.1 ≠ (TX0 b).2.1 := by decide +kernel
theorem tyX0_ok : ∀ k, k < 8 → parseFieldDescriptor (TX0 k).2.2.1 = some (tyX0 k) := by decide +kernel
abbrev cX0_init : ByteArray := prog_2_method_1_code
def yX0_init : MethodName := ⟨RX0, "<init>", "()V"⟩
abbrev cX0_draw : ByteArray := prog_2_method_2_code
def yX0_draw : MethodName := ⟨RX0, "draw", "(LPictureScript$Script;)V"⟩
abbrev cX0_reachedWith : ByteArray := prog_2_method_3_code
def yX0_reachedWith : MethodName := ⟨RX0, "reachedWith", "(I)I"⟩
abbrev cX0_reachedEnds : ByteArray := prog_2_method_4_code
def yX0_reachedEnds : MethodName := ⟨RX0, "reachedEnds", "()I"⟩
abbrev cX0_wayLength : ByteArray := prog_2_method_5_code
def yX0_wayLength : MethodName := ⟨RX0, "wayLength", "(I)I"⟩
abbrev cX0_wayChoice : ByteArray := prog_2_method_6_code
def yX0_wayChoice : MethodName := ⟨RX0, "wayChoice", "(II)I"⟩
abbrev cX0_canUse : ByteArray := prog_2_method_7_code
def yX0_canUse : MethodName := ⟨RX0, "canUse", "(LPictureScript$Script;II)Z"⟩
abbrev cX0_follow : ByteArray := prog_2_method_8_code
def yX0_follow : MethodName := ⟨RX0, "follow", "(LPictureScript$Script;III)V"⟩
abbrev cX0_arrive : ByteArray := prog_2_method_9_code
def yX0_arrive : MethodName := ⟨RX0, "arrive", "(LPictureScript$Script;I)V"⟩
abbrev cX0_isReached : ByteArray := prog_2_method_10_code
def yX0_isReached : MethodName := ⟨RX0, "isReached", "(II)Z"⟩
abbrev cX0_isSituation : ByteArray := prog_2_method_11_code
def yX0_isSituation : MethodName := ⟨RX0, "isSituation", "(I)Z"⟩
abbrev cX0_nodeOf : ByteArray := prog_2_method_12_code
def yX0_nodeOf : MethodName := ⟨RX0, "nodeOf", "(I)I"⟩
abbrev cX0_flagsOf : ByteArray := prog_2_method_13_code
def yX0_flagsOf : MethodName := ⟨RX0, "flagsOf", "(I)I"⟩
def RX1 : String := "PictureScript$Moment"
def TX1 : u_T := fun k => match k with
  | 0 => ("PictureScript$Moment", "node", "I", false)
  | 1 => ("PictureScript$Moment", "flags", "I", false)
  | 2 => ("PictureScript$Moment", "voices", "[I", true)
  | _ => ("PictureScript$Moment", "faces", "[I", true)
def tyX1 : Nat → FieldType := fun k => match k with
  | 0 => .int
  | 1 => .int
  | 2 => .array .int
  | _ => .array .int
abbrev wsX10 : List Cond := u_ws RX1 TX1 4
theorem nmX1 : ∀ a, a < 4 → ∀ b, b < 4 → a ≠ b → (TX1 a).2.1 ≠ (TX1 b).2.1 := by decide +kernel
theorem tyX1_ok : ∀ k, k < 4 → parseFieldDescriptor (TX1 k).2.2.1 = some (tyX1 k) := by decide +kernel
abbrev cX1_init : ByteArray := prog_3_method_1_code
def yX1_init : MethodName := ⟨RX1, "<init>", "()V"⟩
abbrev cX1_makeEmpty : ByteArray := prog_3_method_2_code
def yX1_makeEmpty : MethodName := ⟨RX1, "makeEmpty", "()V"⟩
abbrev cX1_makeLike : ByteArray := prog_3_method_3_code
def yX1_makeLike : MethodName := ⟨RX1, "makeLike", "(LPictureScript$Moment;)V"⟩
abbrev cX1_comeFrom : ByteArray := prog_3_method_4_code
def yX1_comeFrom : MethodName := ⟨RX1, "comeFrom", "(LPictureScript$Script;I)V"⟩
abbrev cX1_carryOut : ByteArray := prog_3_method_5_code
def yX1_carryOut : MethodName := ⟨RX1, "carryOut", "(LPictureScript$Script;I)I"⟩
abbrev cX1_putAt : ByteArray := prog_3_method_6_code
def yX1_putAt : MethodName := ⟨RX1, "putAt", "(III)V"⟩
abbrev cX1_hide : ByteArray := prog_3_method_7_code
def yX1_hide : MethodName := ⟨RX1, "hide", "(I)V"⟩
def RX2 : String := "PictureScript$Play"
def TX2 : u_T := fun k => match k with
  | 0 => ("PictureScript$Play", "moments", "[LPictureScript$Moment;", true)
  | 1 => ("PictureScript$Play", "kept", "I", false)
  | 2 => ("PictureScript$Play", "present", "I", false)
  | 3 => ("PictureScript$Play", "saved", "[LPictureScript$Moment;", true)
  | 4 => ("PictureScript$Play", "isSaved", "[Z", true)
  | _ => ("PictureScript$Play", "seen", "[Z", true)
def tyX2 : Nat → FieldType := fun k => match k with
  | 0 => .array (.object "PictureScript$Moment")
  | 1 => .int
  | 2 => .int
  | 3 => .array (.object "PictureScript$Moment")
  | 4 => .array .boolean
  | _ => .array .boolean
abbrev wsX20 : List Cond := u_ws RX2 TX2 6
theorem nmX2 : ∀ a, a < 6 → ∀ b, b < 6 → a ≠ b → (TX2 a).2.1 ≠ (TX2 b).2.1 := by decide +kernel
theorem tyX2_ok : ∀ k, k < 6 → parseFieldDescriptor (TX2 k).2.2.1 = some (tyX2 k) := by decide +kernel
abbrev cX2_init : ByteArray := prog_4_method_1_code
def yX2_init : MethodName := ⟨RX2, "<init>", "()V"⟩
abbrev cX2_now : ByteArray := prog_4_method_2_code
def yX2_now : MethodName := ⟨RX2, "now", "()LPictureScript$Moment;"⟩
abbrev cX2_startScript : ByteArray := prog_4_method_3_code
def yX2_startScript : MethodName := ⟨RX2, "startScript", "(LPictureScript$Script;)V"⟩
abbrev cX2_startAnew : ByteArray := prog_4_method_4_code
def yX2_startAnew : MethodName := ⟨RX2, "startAnew", "(LPictureScript$Script;)V"⟩
abbrev cX2_goOn : ByteArray := prog_4_method_5_code
def yX2_goOn : MethodName := ⟨RX2, "goOn", "(LPictureScript$Script;I)Z"⟩
abbrev cX2_turnBack : ByteArray := prog_4_method_6_code
def yX2_turnBack : MethodName := ⟨RX2, "turnBack", "(I)Z"⟩
abbrev cX2_turnForth : ByteArray := prog_4_method_7_code
def yX2_turnForth : MethodName := ⟨RX2, "turnForth", "()Z"⟩
abbrev cX2_keepIn : ByteArray := prog_4_method_8_code
def yX2_keepIn : MethodName := ⟨RX2, "keepIn", "(I)V"⟩
abbrev cX2_takeFrom : ByteArray := prog_4_method_9_code
def yX2_takeFrom : MethodName := ⟨RX2, "takeFrom", "(I)Z"⟩
abbrev cX2_seenNodes : ByteArray := prog_4_method_10_code
def yX2_seenNodes : MethodName := ⟨RX2, "seenNodes", "()I"⟩
abbrev cX2_usedSlots : ByteArray := prog_4_method_11_code
def yX2_usedSlots : MethodName := ⟨RX2, "usedSlots", "()I"⟩
abbrev cX2_keepOneMoment : ByteArray := prog_4_method_12_code
def yX2_keepOneMoment : MethodName := ⟨RX2, "keepOneMoment", "()V"⟩
abbrev cX2_forgetEarliest : ByteArray := prog_4_method_13_code
def yX2_forgetEarliest : MethodName := ⟨RX2, "forgetEarliest", "()V"⟩
abbrev cX2_see : ByteArray := prog_4_method_14_code
def yX2_see : MethodName := ⟨RX2, "see", "(I)Z"⟩
def RX3 : String := "PictureScript$Script"
def TX3 : u_T := fun k => match k with
  | 0 => ("PictureScript$Script", "nodes", "I", false)
  | 1 => ("PictureScript$Script", "kinds", "[I", true)
  | 2 => ("PictureScript$Script", "numberCounts", "[I", true)
  | 3 => ("PictureScript$Script", "numbers", "[I", true)
  | 4 => ("PictureScript$Script", "optionCounts", "[I", true)
  | _ => ("PictureScript$Script", "optionParts", "[I", true)
def tyX3 : Nat → FieldType := fun k => match k with
  | 0 => .int
  | 1 => .array .int
  | 2 => .array .int
  | 3 => .array .int
  | 4 => .array .int
  | _ => .array .int
abbrev wsX30 : List Cond := u_ws RX3 TX3 6
theorem nmX3 : ∀ a, a < 6 → ∀ b, b < 6 → a ≠ b → (TX3 a).2.1 ≠ (TX3 b).2.1 := by decide +kernel
theorem tyX3_ok : ∀ k, k < 6 → parseFieldDescriptor (TX3 k).2.2.1 = some (tyX3 k) := by decide +kernel
abbrev cX3_init : ByteArray := prog_5_method_1_code
def yX3_init : MethodName := ⟨RX3, "<init>", "()V"⟩
abbrev cX3_clear : ByteArray := prog_5_method_2_code
def yX3_clear : MethodName := ⟨RX3, "clear", "()V"⟩
abbrev cX3_addNode : ByteArray := prog_5_method_3_code
def yX3_addNode : MethodName := ⟨RX3, "addNode", "(I)V"⟩
abbrev cX3_addNumber : ByteArray := prog_5_method_4_code
def yX3_addNumber : MethodName := ⟨RX3, "addNumber", "(I)V"⟩
abbrev cX3_addOption : ByteArray := prog_5_method_5_code
def yX3_addOption : MethodName := ⟨RX3, "addOption", "(III)V"⟩
abbrev cX3_has : ByteArray := prog_5_method_6_code
def yX3_has : MethodName := ⟨RX3, "has", "(I)Z"⟩
abbrev cX3_kindOf : ByteArray := prog_5_method_7_code
def yX3_kindOf : MethodName := ⟨RX3, "kindOf", "(I)I"⟩
abbrev cX3_optionsOf : ByteArray := prog_5_method_8_code
def yX3_optionsOf : MethodName := ⟨RX3, "optionsOf", "(I)I"⟩
abbrev cX3_numberOf : ByteArray := prog_5_method_9_code
def yX3_numberOf : MethodName := ⟨RX3, "numberOf", "(II)I"⟩
abbrev cX3_optionPart : ByteArray := prog_5_method_10_code
def yX3_optionPart : MethodName := ⟨RX3, "optionPart", "(III)I"⟩
abbrev cX3_isOpen : ByteArray := prog_5_method_11_code
def yX3_isOpen : MethodName := ⟨RX3, "isOpen", "(III)Z"⟩
abbrev cX3_openOptions : ByteArray := prog_5_method_12_code
def yX3_openOptions : MethodName := ⟨RX3, "openOptions", "(II)I"⟩
abbrev cX3_isShown : ByteArray := prog_5_method_13_code
def yX3_isShown : MethodName := ⟨RX3, "isShown", "(I)Z"⟩
abbrev cX3_shownKind : ByteArray := prog_5_method_14_code
def yX3_shownKind : MethodName := ⟨RX3, "shownKind", "(I)I"⟩
abbrev cX3_shownNumber : ByteArray := prog_5_method_15_code
def yX3_shownNumber : MethodName := ⟨RX3, "shownNumber", "(I)I"⟩
def RX4 : String := "PictureScript$Text"
def TX4 : u_T := fun k => match k with
  | 0 => ("PictureScript$Text", "length", "I", false)
  | 1 => ("PictureScript$Text", "bytes", "[B", true)
  | 2 => ("PictureScript$Text", "draft", "LPictureScript$Script;", false)
  | 3 => ("PictureScript$Text", "at", "I", false)
  | _ => ("PictureScript$Text", "number", "I", false)
def tyX4 : Nat → FieldType := fun k => match k with
  | 0 => .int
  | 1 => .array .byte
  | 2 => .object "PictureScript$Script"
  | 3 => .int
  | _ => .int
abbrev wsX40 : List Cond := u_ws RX4 TX4 5
theorem nmX4 : ∀ a, a < 5 → ∀ b, b < 5 → a ≠ b → (TX4 a).2.1 ≠ (TX4 b).2.1 := by decide +kernel
theorem tyX4_ok : ∀ k, k < 5 → parseFieldDescriptor (TX4 k).2.2.1 = some (tyX4 k) := by decide +kernel
abbrev cX4_init : ByteArray := prog_6_method_1_code
def yX4_init : MethodName := ⟨RX4, "<init>", "()V"⟩
abbrev cX4_append : ByteArray := prog_6_method_2_code
def yX4_append : MethodName := ⟨RX4, "append", "(B)Z"⟩
abbrev cX4_byteAt : ByteArray := prog_6_method_3_code
def yX4_byteAt : MethodName := ⟨RX4, "byteAt", "(I)I"⟩
abbrev cX4_findFault : ByteArray := prog_6_method_4_code
def yX4_findFault : MethodName := ⟨RX4, "findFault", "()I"⟩
abbrev cX4_takeNode : ByteArray := prog_6_method_5_code
def yX4_takeNode : MethodName := ⟨RX4, "takeNode", "()Z"⟩
abbrev cX4_takeOptions : ByteArray := prog_6_method_6_code
def yX4_takeOptions : MethodName := ⟨RX4, "takeOptions", "()Z"⟩
abbrev cX4_takeOption : ByteArray := prog_6_method_7_code
def yX4_takeOption : MethodName := ⟨RX4, "takeOption", "()Z"⟩
abbrev cX4_addVoice : ByteArray := prog_6_method_8_code
def yX4_addVoice : MethodName := ⟨RX4, "addVoice", "()Z"⟩
abbrev cX4_addPlusOrMinus : ByteArray := prog_6_method_9_code
def yX4_addPlusOrMinus : MethodName := ⟨RX4, "addPlusOrMinus", "()Z"⟩
abbrev cX4_addDigit : ByteArray := prog_6_method_10_code
def yX4_addDigit : MethodName := ⟨RX4, "addDigit", "(I)Z"⟩
abbrev cX4_addNumber : ByteArray := prog_6_method_11_code
def yX4_addNumber : MethodName := ⟨RX4, "addNumber", "(I)Z"⟩
abbrev cX4_takeDigit : ByteArray := prog_6_method_12_code
def yX4_takeDigit : MethodName := ⟨RX4, "takeDigit", "(I)Z"⟩
abbrev cX4_takeNumber : ByteArray := prog_6_method_13_code
def yX4_takeNumber : MethodName := ⟨RX4, "takeNumber", "(I)Z"⟩
abbrev cX4_takeSign : ByteArray := prog_6_method_14_code
def yX4_takeSign : MethodName := ⟨RX4, "takeSign", "(C)Z"⟩
abbrev cX4_skipBlanks : ByteArray := prog_6_method_15_code
def yX4_skipBlanks : MethodName := ⟨RX4, "skipBlanks", "()V"⟩
abbrev cX4_isAtDigit : ByteArray := prog_6_method_16_code
def yX4_isAtDigit : MethodName := ⟨RX4, "isAtDigit", "()Z"⟩
abbrev cX4_isAtEnd : ByteArray := prog_6_method_17_code
def yX4_isAtEnd : MethodName := ⟨RX4, "isAtEnd", "()Z"⟩
abbrev cX4_here : ByteArray := prog_6_method_18_code
def yX4_here : MethodName := ⟨RX4, "here", "()I"⟩
def RX5 : String := "PictureScript"
def TX5 : u_T := fun k => match k with
  | 0 => ("PictureScript", "text", "LPictureScript$Text;", true)
  | 1 => ("PictureScript", "script", "LPictureScript$Script;", false)
  | 2 => ("PictureScript", "play", "LPictureScript$Play;", true)
  | _ => ("PictureScript", "chart", "LPictureScript$Chart;", true)
def tyX5 : Nat → FieldType := fun k => match k with
  | 0 => .object "PictureScript$Text"
  | 1 => .object "PictureScript$Script"
  | 2 => .object "PictureScript$Play"
  | _ => .object "PictureScript$Chart"
abbrev wsX50 : List Cond := u_ws RX5 TX5 4
theorem nmX5 : ∀ a, a < 4 → ∀ b, b < 4 → a ≠ b → (TX5 a).2.1 ≠ (TX5 b).2.1 := by decide +kernel
theorem tyX5_ok : ∀ k, k < 4 → parseFieldDescriptor (TX5 k).2.2.1 = some (tyX5 k) := by decide +kernel
abbrev cX5_init : ByteArray := prog_1_method_1_code
def yX5_init : MethodName := ⟨RX5, "<init>", "()V"⟩
abbrev cX5_type : ByteArray := prog_1_method_2_code
def yX5_type : MethodName := ⟨RX5, "type", "(I)I"⟩
abbrev cX5_clearText : ByteArray := prog_1_method_3_code
def yX5_clearText : MethodName := ⟨RX5, "clearText", "()I"⟩
abbrev cX5_fault : ByteArray := prog_1_method_4_code
def yX5_fault : MethodName := ⟨RX5, "fault", "()I"⟩
abbrev cX5_read : ByteArray := prog_1_method_5_code
def yX5_read : MethodName := ⟨RX5, "read", "()I"⟩
abbrev cX5_begin : ByteArray := prog_1_method_6_code
def yX5_begin : MethodName := ⟨RX5, "begin", "()I"⟩
abbrev cX5_go : ByteArray := prog_1_method_7_code
def yX5_go : MethodName := ⟨RX5, "go", "()I"⟩
abbrev cX5_choose : ByteArray := prog_1_method_8_code
def yX5_choose : MethodName := ⟨RX5, "choose", "(I)I"⟩
abbrev cX5_skip : ByteArray := prog_1_method_9_code
def yX5_skip : MethodName := ⟨RX5, "skip", "()I"⟩
abbrev cX5_back : ByteArray := prog_1_method_10_code
def yX5_back : MethodName := ⟨RX5, "back", "(I)I"⟩
abbrev cX5_again : ByteArray := prog_1_method_11_code
def yX5_again : MethodName := ⟨RX5, "again", "()I"⟩
abbrev cX5_save : ByteArray := prog_1_method_12_code
def yX5_save : MethodName := ⟨RX5, "save", "(I)I"⟩
abbrev cX5_restore : ByteArray := prog_1_method_13_code
def yX5_restore : MethodName := ⟨RX5, "restore", "(I)I"⟩
abbrev cX5_shown : ByteArray := prog_1_method_14_code
def yX5_shown : MethodName := ⟨RX5, "shown", "(I)I"⟩
abbrev cX5_portrait : ByteArray := prog_1_method_15_code
def yX5_portrait : MethodName := ⟨RX5, "portrait", "(IZ)I"⟩
abbrev cX5_node : ByteArray := prog_1_method_16_code
def yX5_node : MethodName := ⟨RX5, "node", "(II)I"⟩
abbrev cX5_option : ByteArray := prog_1_method_17_code
def yX5_option : MethodName := ⟨RX5, "option", "(III)I"⟩
abbrev cX5_situations : ByteArray := prog_1_method_18_code
def yX5_situations : MethodName := ⟨RX5, "situations", "(I)I"⟩
abbrev cX5_choicesTo : ByteArray := prog_1_method_19_code
def yX5_choicesTo : MethodName := ⟨RX5, "choicesTo", "(I)I"⟩
abbrev cX5_wayTo : ByteArray := prog_1_method_20_code
def yX5_wayTo : MethodName := ⟨RX5, "wayTo", "(II)I"⟩
abbrev cX5_usable : ByteArray := prog_1_method_21_code
def yX5_usable : MethodName := ⟨RX5, "usable", "(II)I"⟩
abbrev cX5_count : ByteArray := prog_1_method_22_code
def yX5_count : MethodName := ⟨RX5, "count", "(I)I"⟩
abbrev cX5_digest : ByteArray := prog_1_method_23_code
def yX5_digest : MethodName := ⟨RX5, "digest", "()J"⟩
abbrev cX5_digestNode : ByteArray := prog_1_method_24_code
def yX5_digestNode : MethodName := ⟨RX5, "digestNode", "(JI)J"⟩
abbrev cX5_isLineShown : ByteArray := prog_1_method_25_code
def yX5_isLineShown : MethodName := ⟨RX5, "isLineShown", "()Z"⟩
abbrev cX5_goOnFromLine : ByteArray := prog_1_method_26_code
def yX5_goOnFromLine : MethodName := ⟨RX5, "goOnFromLine", "()Z"⟩
abbrev cX5_endIndex : ByteArray := prog_1_method_27_code
def yX5_endIndex : MethodName := ⟨RX5, "endIndex", "(I)I"⟩
def RX6 : String := "PictureScriptModel"
def TX6 : u_T := fun k => match k with
  | 0 => ("PictureScriptModel", "script", "[I", true)
  | 1 => ("PictureScriptModel", "nodes", "I", false)
  | 2 => ("PictureScriptModel", "read", "[I", true)
  | 3 => ("PictureScriptModel", "reads", "I", false)
  | 4 => ("PictureScriptModel", "moments", "[I", true)
  | 5 => ("PictureScriptModel", "first", "I", false)
  | 6 => ("PictureScriptModel", "count", "I", false)
  | 7 => ("PictureScriptModel", "ahead", "I", false)
  | 8 => ("PictureScriptModel", "saved", "[I", true)
  | 9 => ("PictureScriptModel", "isSaved", "[Z", true)
  | 10 => ("PictureScriptModel", "seen", "I", false)
  | 11 => ("PictureScriptModel", "text", "[I", true)
  | 12 => ("PictureScriptModel", "textLength", "I", false)
  | 13 => ("PictureScriptModel", "at", "I", false)
  | 14 => ("PictureScriptModel", "fault", "I", false)
  | 15 => ("PictureScriptModel", "flags", "I", false)
  | 16 => ("PictureScriptModel", "voiceAt", "[I", true)
  | 17 => ("PictureScriptModel", "faceAt", "[I", true)
  | 18 => ("PictureScriptModel", "isReached", "[Z", true)
  | 19 => ("PictureScriptModel", "choice", "[I", true)
  | 20 => ("PictureScriptModel", "from", "[I", true)
  | 21 => ("PictureScriptModel", "by", "[I", true)
  | 22 => ("PictureScriptModel", "choices", "I", false)
  | 23 => ("PictureScriptModel", "isEnd", "[Z", true)
  | 24 => ("PictureScriptModel", "endFrom", "[I", true)
  | 25 => ("PictureScriptModel", "endBy", "[I", true)
  | _ => ("PictureScriptModel", "hash", "J", false)
def tyX6 : Nat → FieldType := fun k => match k with
  | 0 => .array .int
  | 1 => .int
  | 2 => .array .int
  | 3 => .int
  | 4 => .array .int
  | 5 => .int
  | 6 => .int
  | 7 => .int
  | 8 => .array .int
  | 9 => .array .boolean
  | 10 => .int
  | 11 => .array .int
  | 12 => .int
  | 13 => .int
  | 14 => .int
  | 15 => .int
  | 16 => .array .int
  | 17 => .array .int
  | 18 => .array .boolean
  | 19 => .array .int
  | 20 => .array .int
  | 21 => .array .int
  | 22 => .int
  | 23 => .array .boolean
  | 24 => .array .int
  | 25 => .array .int
  | _ => .long
abbrev wsX60 : List Cond := u_ws RX6 TX6 27
theorem nmX6 : ∀ a, a < 27 → ∀ b, b < 27 → a ≠ b → (TX6 a).2.1 ≠ (TX6 b).2.1 := by decide +kernel
theorem tyX6_ok : ∀ k, k < 27 → parseFieldDescriptor (TX6 k).2.2.1 = some (tyX6 k) := by decide +kernel
abbrev cX6_init : ByteArray := prog_8_method_1_code
def yX6_init : MethodName := ⟨RX6, "<init>", "()V"⟩
abbrev cX6_in : ByteArray := prog_8_method_2_code
def yX6_in : MethodName := ⟨RX6, "in", "(III)Z"⟩
abbrev cX6_type : ByteArray := prog_8_method_3_code
def yX6_type : MethodName := ⟨RX6, "type", "(I)I"⟩
abbrev cX6_clearText : ByteArray := prog_8_method_4_code
def yX6_clearText : MethodName := ⟨RX6, "clearText", "()I"⟩
abbrev cX6_next : ByteArray := prog_8_method_5_code
def yX6_next : MethodName := ⟨RX6, "next", "()I"⟩
abbrev cX6_isDigit : ByteArray := prog_8_method_6_code
def yX6_isDigit : MethodName := ⟨RX6, "isDigit", "()Z"⟩
abbrev cX6_blanks : ByteArray := prog_8_method_7_code
def yX6_blanks : MethodName := ⟨RX6, "blanks", "()V"⟩
abbrev cX6_fails : ByteArray := prog_8_method_8_code
def yX6_fails : MethodName := ⟨RX6, "fails", "(I)V"⟩
abbrev cX6_take : ByteArray := prog_8_method_9_code
def yX6_take : MethodName := ⟨RX6, "take", "(Z)I"⟩
abbrev cX6_voice : ByteArray := prog_8_method_10_code
def yX6_voice : MethodName := ⟨RX6, "voice", "()I"⟩
abbrev cX6_digit : ByteArray := prog_8_method_11_code
def yX6_digit : MethodName := ⟨RX6, "digit", "(I)I"⟩
abbrev cX6_number : ByteArray := prog_8_method_12_code
def yX6_number : MethodName := ⟨RX6, "number", "(I)I"⟩
abbrev cX6_kindOf : ByteArray := prog_8_method_13_code
def yX6_kindOf : MethodName := ⟨RX6, "kindOf", "(I)I"⟩
abbrev cX6_readsOptions : ByteArray := prog_8_method_14_code
def yX6_readsOptions : MethodName := ⟨RX6, "readsOptions", "(I)V"⟩
abbrev cX6_readsNode : ByteArray := prog_8_method_15_code
def yX6_readsNode : MethodName := ⟨RX6, "readsNode", "()V"⟩
abbrev cX6_reads : ByteArray := prog_8_method_16_code
def yX6_reads : MethodName := ⟨RX6, "reads", "()V"⟩
abbrev cX6_fault : ByteArray := prog_8_method_17_code
def yX6_fault : MethodName := ⟨RX6, "fault", "()I"⟩
abbrev cX6_of : ByteArray := prog_8_method_18_code
def yX6_of : MethodName := ⟨RX6, "of", "(II)I"⟩
abbrev cX6_shownKind : ByteArray := prog_8_method_19_code
def yX6_shownKind : MethodName := ⟨RX6, "shownKind", "(I)I"⟩
abbrev cX6_endOf : ByteArray := prog_8_method_20_code
def yX6_endOf : MethodName := ⟨RX6, "endOf", "(I)I"⟩
abbrev cX6_leaves : ByteArray := prog_8_method_21_code
def yX6_leaves : MethodName := ⟨RX6, "leaves", "(I)V"⟩
abbrev cX6_does : ByteArray := prog_8_method_22_code
def yX6_does : MethodName := ⟨RX6, "does", "(I)I"⟩
abbrev cX6_carries : ByteArray := prog_8_method_23_code
def yX6_carries : MethodName := ⟨RX6, "carries", "(I)I"⟩
abbrev cX6_isLocked : ByteArray := prog_8_method_24_code
def yX6_isLocked : MethodName := ⟨RX6, "isLocked", "(III)Z"⟩
abbrev cX6_placeOf : ByteArray := prog_8_method_25_code
def yX6_placeOf : MethodName := ⟨RX6, "placeOf", "(I)I"⟩
abbrev cX6_present : ByteArray := prog_8_method_26_code
def yX6_present : MethodName := ⟨RX6, "present", "(I)I"⟩
abbrev cX6_puts : ByteArray := prog_8_method_27_code
def yX6_puts : MethodName := ⟨RX6, "puts", "(I)V"⟩
abbrev cX6_takes : ByteArray := prog_8_method_28_code
def yX6_takes : MethodName := ⟨RX6, "takes", "()V"⟩
abbrev cX6_starts : ByteArray := prog_8_method_29_code
def yX6_starts : MethodName := ⟨RX6, "starts", "()V"⟩
abbrev cX6_goesOn : ByteArray := prog_8_method_30_code
def yX6_goesOn : MethodName := ⟨RX6, "goesOn", "(I)V"⟩
abbrev cX6_read : ByteArray := prog_8_method_31_code
def yX6_read : MethodName := ⟨RX6, "read", "()I"⟩
abbrev cX6_begin : ByteArray := prog_8_method_32_code
def yX6_begin : MethodName := ⟨RX6, "begin", "()I"⟩
abbrev cX6_go : ByteArray := prog_8_method_33_code
def yX6_go : MethodName := ⟨RX6, "go", "()I"⟩
abbrev cX6_choose : ByteArray := prog_8_method_34_code
def yX6_choose : MethodName := ⟨RX6, "choose", "(I)I"⟩
abbrev cX6_skip : ByteArray := prog_8_method_35_code
def yX6_skip : MethodName := ⟨RX6, "skip", "()I"⟩
abbrev cX6_back : ByteArray := prog_8_method_36_code
def yX6_back : MethodName := ⟨RX6, "back", "(I)I"⟩
abbrev cX6_again : ByteArray := prog_8_method_37_code
def yX6_again : MethodName := ⟨RX6, "again", "()I"⟩
abbrev cX6_save : ByteArray := prog_8_method_38_code
def yX6_save : MethodName := ⟨RX6, "save", "(I)I"⟩
abbrev cX6_restore : ByteArray := prog_8_method_39_code
def yX6_restore : MethodName := ⟨RX6, "restore", "(I)I"⟩
abbrev cX6_open : ByteArray := prog_8_method_40_code
def yX6_open : MethodName := ⟨RX6, "open", "()I"⟩
abbrev cX6_shown : ByteArray := prog_8_method_41_code
def yX6_shown : MethodName := ⟨RX6, "shown", "(I)I"⟩
abbrev cX6_portrait : ByteArray := prog_8_method_42_code
def yX6_portrait : MethodName := ⟨RX6, "portrait", "(IZ)I"⟩
abbrev cX6_isNode : ByteArray := prog_8_method_43_code
def yX6_isNode : MethodName := ⟨RX6, "isNode", "(I)Z"⟩
abbrev cX6_node : ByteArray := prog_8_method_44_code
def yX6_node : MethodName := ⟨RX6, "node", "(II)I"⟩
abbrev cX6_isChoice : ByteArray := prog_8_method_45_code
def yX6_isChoice : MethodName := ⟨RX6, "isChoice", "(I)Z"⟩
abbrev cX6_option : ByteArray := prog_8_method_46_code
def yX6_option : MethodName := ⟨RX6, "option", "(III)I"⟩
abbrev cX6_follows : ByteArray := prog_8_method_47_code
def yX6_follows : MethodName := ⟨RX6, "follows", "(III)V"⟩
abbrev cX6_charts : ByteArray := prog_8_method_48_code
def yX6_charts : MethodName := ⟨RX6, "charts", "()V"⟩
abbrev cX6_situationsOf : ByteArray := prog_8_method_49_code
def yX6_situationsOf : MethodName := ⟨RX6, "situationsOf", "(I)I"⟩
abbrev cX6_situations : ByteArray := prog_8_method_50_code
def yX6_situations : MethodName := ⟨RX6, "situations", "(I)I"⟩
abbrev cX6_isEndNumber : ByteArray := prog_8_method_51_code
def yX6_isEndNumber : MethodName := ⟨RX6, "isEndNumber", "(I)Z"⟩
abbrev cX6_stepsTo : ByteArray := prog_8_method_52_code
def yX6_stepsTo : MethodName := ⟨RX6, "stepsTo", "(I)I"⟩
abbrev cX6_choicesTo : ByteArray := prog_8_method_53_code
def yX6_choicesTo : MethodName := ⟨RX6, "choicesTo", "(I)I"⟩
abbrev cX6_wayTo : ByteArray := prog_8_method_54_code
def yX6_wayTo : MethodName := ⟨RX6, "wayTo", "(II)I"⟩
abbrev cX6_isUsable : ByteArray := prog_8_method_55_code
def yX6_isUsable : MethodName := ⟨RX6, "isUsable", "(II)I"⟩
abbrev cX6_usable : ByteArray := prog_8_method_56_code
def yX6_usable : MethodName := ⟨RX6, "usable", "(II)I"⟩
abbrev cX6_seenNodes : ByteArray := prog_8_method_57_code
def yX6_seenNodes : MethodName := ⟨RX6, "seenNodes", "()I"⟩
abbrev cX6_savedMoments : ByteArray := prog_8_method_58_code
def yX6_savedMoments : MethodName := ⟨RX6, "savedMoments", "()I"⟩
abbrev cX6_ends : ByteArray := prog_8_method_59_code
def yX6_ends : MethodName := ⟨RX6, "ends", "()I"⟩
abbrev cX6_count : ByteArray := prog_8_method_60_code
def yX6_count : MethodName := ⟨RX6, "count", "(I)I"⟩
abbrev cX6_mixes : ByteArray := prog_8_method_61_code
def yX6_mixes : MethodName := ⟨RX6, "mixes", "(I)V"⟩
abbrev cX6_mixesNode : ByteArray := prog_8_method_62_code
def yX6_mixesNode : MethodName := ⟨RX6, "mixesNode", "(I)V"⟩
abbrev cX6_digest : ByteArray := prog_8_method_63_code
def yX6_digest : MethodName := ⟨RX6, "digest", "()J"⟩
def RJx145de : String := "java/io/Serializable"
def TJx145de : u_T := fun k => match k with
  | _ => ("", "", "", false)
def tyJx145de : Nat → FieldType := fun k => match k with
  | _ => .int
abbrev wsJx145de0 : List Cond := u_ws RJx145de TJx145de 0
theorem nmJx145de : ∀ a, a < 0 → ∀ b, b < 0 → a ≠ b → (TJx145de a).2.1 ≠ (TJx145de b).2.1 := by decide +kernel
theorem tyJx145de_ok : ∀ k, k < 0 → parseFieldDescriptor (TJx145de k).2.2.1 = some (tyJx145de k) := by decide +kernel
def RJx9f9b0 : String := "java/lang/CharSequence"
def TJx9f9b0 : u_T := fun k => match k with
  | _ => ("", "", "", false)
def tyJx9f9b0 : Nat → FieldType := fun k => match k with
  | _ => .int
abbrev wsJx9f9b00 : List Cond := u_ws RJx9f9b0 TJx9f9b0 0
theorem nmJx9f9b0 : ∀ a, a < 0 → ∀ b, b < 0 → a ≠ b → (TJx9f9b0 a).2.1 ≠ (TJx9f9b0 b).2.1 := by decide +kernel
theorem tyJx9f9b0_ok : ∀ k, k < 0 → parseFieldDescriptor (TJx9f9b0 k).2.2.1 = some (tyJx9f9b0 k) := by decide +kernel
def RJ11 : String := "java/lang/Character"
def TJ11 : u_T := fun k => match k with
  | _ => ("", "", "", false)
def tyJ11 : Nat → FieldType := fun k => match k with
  | _ => .int
abbrev wsJ110 : List Cond := u_ws RJ11 TJ11 0
theorem nmJ11 : ∀ a, a < 0 → ∀ b, b < 0 → a ≠ b → (TJ11 a).2.1 ≠ (TJ11 b).2.1 := by decide +kernel
theorem tyJ11_ok : ∀ k, k < 0 → parseFieldDescriptor (TJ11 k).2.2.1 = some (tyJ11 k) := by decide +kernel
abbrev cJ11_isValidCodePoint_9a6ad : ByteArray := prog_9_method_11_code
def yJ11_isValidCodePoint_9a6ad : MethodName := ⟨RJ11, "isValidCodePoint", "(I)Z"⟩
abbrev cJ11_highSurrogate_5068e : ByteArray := prog_9_method_28_code
def yJ11_highSurrogate_5068e : MethodName := ⟨RJ11, "highSurrogate", "(I)C"⟩
abbrev cJ11_lowSurrogate_5068e : ByteArray := prog_9_method_29_code
def yJ11_lowSurrogate_5068e : MethodName := ⟨RJ11, "lowSurrogate", "(I)C"⟩
def RJxb160c : String := "java/lang/Comparable"
def TJxb160c : u_T := fun k => match k with
  | _ => ("", "", "", false)
def tyJxb160c : Nat → FieldType := fun k => match k with
  | _ => .int
abbrev wsJxb160c0 : List Cond := u_ws RJxb160c TJxb160c 0
theorem nmJxb160c : ∀ a, a < 0 → ∀ b, b < 0 → a ≠ b → (TJxb160c a).2.1 ≠ (TJxb160c b).2.1 := by decide +kernel
theorem tyJxb160c_ok : ∀ k, k < 0 → parseFieldDescriptor (TJxb160c k).2.2.1 = some (tyJxb160c k) := by decide +kernel
def RJ9 : String := "java/lang/Math"
def TJ9 : u_T := fun k => match k with
  | _ => ("", "", "", false)
def tyJ9 : Nat → FieldType := fun k => match k with
  | _ => .int
abbrev wsJ90 : List Cond := u_ws RJ9 TJ9 0
theorem nmJ9 : ∀ a, a < 0 → ∀ b, b < 0 → a ≠ b → (TJ9 a).2.1 ≠ (TJ9 b).2.1 := by decide +kernel
theorem tyJ9_ok : ∀ k, k < 0 → parseFieldDescriptor (TJ9 k).2.2.1 = some (tyJ9 k) := by decide +kernel
abbrev cJ9_max_7cf53 : ByteArray := prog_10_method_65_code
def yJ9_max_7cf53 : MethodName := ⟨RJ9, "max", "(II)I"⟩
abbrev cJ9_min_7cf53 : ByteArray := prog_10_method_69_code
def yJ9_min_7cf53 : MethodName := ⟨RJ9, "min", "(II)I"⟩
def RJ0 : String := "java/lang/String"
def TJ0 : u_T := fun k => match k with
  | _ => ("", "", "", false)
def tyJ0 : Nat → FieldType := fun k => match k with
  | _ => .int
abbrev wsJ00 : List Cond := u_ws RJ0 TJ0 0
theorem nmJ0 : ∀ a, a < 0 → ∀ b, b < 0 → a ≠ b → (TJ0 a).2.1 ≠ (TJ0 b).2.1 := by decide +kernel
theorem tyJ0_ok : ∀ k, k < 0 → parseFieldDescriptor (TJ0 k).2.2.1 = some (tyJ0 k) := by decide +kernel
abbrev cJ0_length_8abf5 : ByteArray := prog_11_method_54_code
def yJ0_length_8abf5 : MethodName := ⟨RJ0, "length", "()I"⟩
abbrev cJ0_indexOf_0f7a4 : ByteArray := prog_11_method_79_code
def yJ0_indexOf_0f7a4 : MethodName := ⟨RJ0, "indexOf", "(I)I"⟩
abbrev cJ0_indexOf_7cf53 : ByteArray := prog_11_method_80_code
def yJ0_indexOf_7cf53 : MethodName := ⟨RJ0, "indexOf", "(II)I"⟩
abbrev cJ0_coder_7d493 : ByteArray := prog_11_method_152_code
def yJ0_coder_7d493 : MethodName := ⟨RJ0, "coder", "()B"⟩
abbrev cJ0_isLatin1_aae02 : ByteArray := prog_11_method_154_code
def yJ0_isLatin1_aae02 : MethodName := ⟨RJ0, "isLatin1", "()Z"⟩
abbrev cJ0_checkBoundsBeginEnd_23922 : ByteArray := prog_11_method_158_code
def yJ0_checkBoundsBeginEnd_23922 : MethodName := ⟨RJ0, "checkBoundsBeginEnd", "(III)V"⟩
def RJ1 : String := "java/lang/StringLatin1"
def TJ1 : u_T := fun k => match k with
  | _ => ("", "", "", false)
def tyJ1 : Nat → FieldType := fun k => match k with
  | _ => .int
abbrev wsJ10 : List Cond := u_ws RJ1 TJ1 0
theorem nmJ1 : ∀ a, a < 0 → ∀ b, b < 0 → a ≠ b → (TJ1 a).2.1 ≠ (TJ1 b).2.1 := by decide +kernel
theorem tyJ1_ok : ∀ k, k < 0 → parseFieldDescriptor (TJ1 k).2.2.1 = some (tyJ1 k) := by decide +kernel
abbrev cJ1_canEncode_9a6ad : ByteArray := prog_12_method_4_code
def yJ1_canEncode_9a6ad : MethodName := ⟨RJ1, "canEncode", "(I)Z"⟩
abbrev cJ1_indexOf_4cfef : ByteArray := prog_12_method_22_code
def yJ1_indexOf_4cfef : MethodName := ⟨RJ1, "indexOf", "([BIII)I"⟩
abbrev cJ1_indexOfChar_4cfef : ByteArray := prog_12_method_23_code
def yJ1_indexOfChar_4cfef : MethodName := ⟨RJ1, "indexOfChar", "([BIII)I"⟩
def RJ2 : String := "java/lang/StringUTF16"
def TJ2 : u_T := fun k => match k with
  | _ => ("", "", "", false)
def tyJ2 : Nat → FieldType := fun k => match k with
  | _ => .int
abbrev wsJ20 : List Cond := u_ws RJ2 TJ2 0
theorem nmJ2 : ∀ a, a < 0 → ∀ b, b < 0 → a ≠ b → (TJ2 a).2.1 ≠ (TJ2 b).2.1 := by decide +kernel
theorem tyJ2_ok : ∀ k, k < 0 → parseFieldDescriptor (TJ2 k).2.2.1 = some (tyJ2 k) := by decide +kernel
abbrev cJ2_getChar_3b067 : ByteArray := prog_13_method_5_code
def yJ2_getChar_3b067 : MethodName := ⟨RJ2, "getChar", "([BI)C"⟩
abbrev cJ2_length_9d52b : ByteArray := prog_13_method_6_code
def yJ2_length_9d52b : MethodName := ⟨RJ2, "length", "([B)I"⟩
abbrev cJ2_indexOf_4cfef : ByteArray := prog_13_method_40_code
def yJ2_indexOf_4cfef : MethodName := ⟨RJ2, "indexOf", "([BIII)I"⟩
abbrev cJ2_indexOfChar_4cfef : ByteArray := prog_13_method_47_code
def yJ2_indexOfChar_4cfef : MethodName := ⟨RJ2, "indexOfChar", "([BIII)I"⟩
abbrev cJ2_indexOfCharUnsafe_4cfef : ByteArray := prog_13_method_48_code
def yJ2_indexOfCharUnsafe_4cfef : MethodName := ⟨RJ2, "indexOfCharUnsafe", "([BIII)I"⟩
abbrev cJ2_indexOfSupplementary_4cfef : ByteArray := prog_13_method_49_code
def yJ2_indexOfSupplementary_4cfef : MethodName := ⟨RJ2, "indexOfSupplementary", "([BIII)I"⟩
abbrev cJ2_checkBoundsBeginEnd_d044e : ByteArray := prog_13_method_93_code
def yJ2_checkBoundsBeginEnd_d044e : MethodName := ⟨RJ2, "checkBoundsBeginEnd", "(II[B)V"⟩
def RJ10 : String := "java/lang/System"
def TJ10 : u_T := fun k => match k with
  | _ => ("", "", "", false)
def tyJ10 : Nat → FieldType := fun k => match k with
  | _ => .int
abbrev wsJ100 : List Cond := u_ws RJ10 TJ10 0
theorem nmJ10 : ∀ a, a < 0 → ∀ b, b < 0 → a ≠ b → (TJ10 a).2.1 ≠ (TJ10 b).2.1 := by decide +kernel
theorem tyJ10_ok : ∀ k, k < 0 → parseFieldDescriptor (TJ10 k).2.2.1 = some (tyJ10 k) := by decide +kernel
def RJxfd54e : String := "java/lang/constant/Constable"
def TJxfd54e : u_T := fun k => match k with
  | _ => ("", "", "", false)
def tyJxfd54e : Nat → FieldType := fun k => match k with
  | _ => .int
abbrev wsJxfd54e0 : List Cond := u_ws RJxfd54e TJxfd54e 0
theorem nmJxfd54e : ∀ a, a < 0 → ∀ b, b < 0 → a ≠ b → (TJxfd54e a).2.1 ≠ (TJxfd54e b).2.1 := by decide +kernel
theorem tyJxfd54e_ok : ∀ k, k < 0 → parseFieldDescriptor (TJxfd54e k).2.2.1 = some (tyJxfd54e k) := by decide +kernel
def RJx3cf43 : String := "java/lang/constant/ConstantDesc"
def TJx3cf43 : u_T := fun k => match k with
  | _ => ("", "", "", false)
def tyJx3cf43 : Nat → FieldType := fun k => match k with
  | _ => .int
abbrev wsJx3cf430 : List Cond := u_ws RJx3cf43 TJx3cf43 0
theorem nmJx3cf43 : ∀ a, a < 0 → ∀ b, b < 0 → a ≠ b → (TJx3cf43 a).2.1 ≠ (TJx3cf43 b).2.1 := by decide +kernel
theorem tyJx3cf43_ok : ∀ k, k < 0 → parseFieldDescriptor (TJx3cf43 k).2.2.1 = some (tyJx3cf43 k) := by decide +kernel
def RJ7 : String := "java/util/Arrays"
def TJ7 : u_T := fun k => match k with
  | _ => ("", "", "", false)
def tyJ7 : Nat → FieldType := fun k => match k with
  | _ => .int
abbrev wsJ70 : List Cond := u_ws RJ7 TJ7 0
theorem nmJ7 : ∀ a, a < 0 → ∀ b, b < 0 → a ≠ b → (TJ7 a).2.1 ≠ (TJ7 b).2.1 := by decide +kernel
theorem tyJ7_ok : ∀ k, k < 0 → parseFieldDescriptor (TJ7 k).2.2.1 = some (tyJ7 k) := by decide +kernel
abbrev cJ7_fill_53178 : ByteArray := prog_15_method_103_code
def yJ7_fill_53178 : MethodName := ⟨RJ7, "fill", "([II)V"⟩
def RJ3 : String := "jdk/internal/util/Preconditions"
def TJ3 : u_T := fun k => match k with
  | _ => ("", "", "", false)
def tyJ3 : Nat → FieldType := fun k => match k with
  | _ => .int
abbrev wsJ30 : List Cond := u_ws RJ3 TJ3 0
theorem nmJ3 : ∀ a, a < 0 → ∀ b, b < 0 → a ≠ b → (TJ3 a).2.1 ≠ (TJ3 b).2.1 := by decide +kernel
theorem tyJ3_ok : ∀ k, k < 0 → parseFieldDescriptor (TJ3 k).2.2.1 = some (tyJ3 k) := by decide +kernel
abbrev cJ3_checkFromToIndex_8c36e : ByteArray := prog_16_method_12_code
def yJ3_checkFromToIndex_8c36e : MethodName := ⟨RJ3, "checkFromToIndex", "(IIILjava/util/function/BiFunction;)I"⟩
def RL : String := "PictureScriptLaw"
abbrev cL_law : ByteArray := code
def yL_law : MethodName := ⟨RL, "law", "([I)Z"⟩
abbrev vwCl : List vw_C := [(RX0, TX0, 8), (RX1, TX1, 4), (RX2, TX2, 6), (RX3, TX3, 6), (RX4, TX4, 5), (RX5, TX5, 4), (RX6, TX6, 27)]
set_option maxRecDepth 20000 in
theorem inX0 : ∀ w ∈ wsX00, w ∈ lw_tbl := by decide +kernel
set_option maxRecDepth 20000 in
theorem inX1 : ∀ w ∈ wsX10, w ∈ lw_tbl := by decide +kernel
set_option maxRecDepth 20000 in
theorem inX2 : ∀ w ∈ wsX20, w ∈ lw_tbl := by decide +kernel
set_option maxRecDepth 20000 in
theorem inX3 : ∀ w ∈ wsX30, w ∈ lw_tbl := by decide +kernel
set_option maxRecDepth 20000 in
theorem inX4 : ∀ w ∈ wsX40, w ∈ lw_tbl := by decide +kernel
set_option maxRecDepth 20000 in
theorem inX5 : ∀ w ∈ wsX50, w ∈ lw_tbl := by decide +kernel
set_option maxRecDepth 20000 in
theorem inX6 : ∀ w ∈ wsX60, w ∈ lw_tbl := by decide +kernel
end
section
/-! ===== THE ABSTRACT MACHINE: values, cells, heaps; what a frame of it says of the machine ===== -/
def tG : List Cond := lw_tbl.filter goodWord
theorem tG_of {w : Cond} (h : w ∈ lw_tbl) (g : goodWord w = true) : w ∈ tG := List.mem_filter.mpr ⟨h, g⟩
theorem tG_t {w : Cond} (h : w ∈ tables_1) (g : goodWord w = true) : w ∈ tG := tG_of (List.mem_append_right _ h) g
theorem tG_good {w : Cond} (h : w ∈ tG) : (w.onTables && w.keeps) = true ∨ ∃ ty, w = .arrayClass ty := good_of_word (List.mem_filter.mp h).2
/-- a value: an int, a reference (or null), a long, the constant of the letters (true) or the script (false) -/
abbrev AV : Type := Int ⊕ (Option Nat ⊕ (Int64 ⊕ Bool))
abbrev vI (z : Int) : AV := Sum.inl z
abbrev vQ (r : Option Nat) : AV := Sum.inr (Sum.inl r)
abbrev vR (a : Nat) : AV := Sum.inr (Sum.inl (some a))
abbrev vN : AV := Sum.inr (Sum.inl none)
abbrev vL (x : Int64) : AV := Sum.inr (Sum.inr (Sum.inl x))
abbrev vS : AV := Sum.inr (Sum.inr (Sum.inr true))
abbrev vX : AV := Sum.inr (Sum.inr (Sum.inr false))
/-- a cell: an object (its class's place, its fields); an array of ints, bytes, booleans (0, 1, 2); an array of references -/
abbrev AC : Type := (Nat × List AV) ⊕ ((Nat × Nat × (Int → Int)) ⊕ (Nat × (Int → Option Nat)))
abbrev kO (ci : Nat) (fs : List AV) : AC := Sum.inl (ci, fs)
abbrev kA (ty n : Nat) (f : Int → Int) : AC := Sum.inr (Sum.inl (ty, n, f))
abbrev kQ (n : Nat) (g : Int → Option Nat) : AC := Sum.inr (Sum.inr (n, g))
/-- a heap: its size, the script's length and ints; its cells -/
abbrev AH : Type := (Nat × Nat × (Int → Int)) × (Nat → Option AC)
def hput (h : AH) (a : Nat) (c : AC) : AH := (h.1, fun q => if q = a then some c else h.2 q)
def Fr (h h' : AH) (a n : Nat) : Prop := h'.1 = h.1 ∧ ∀ q, ¬ (a ≤ q ∧ q < a + n) → h'.2 q = h.2 q
def fset (f : Int → Int) (i v : Int) : Int → Int := fun j => if j = i then v else f j
def gset (f : Int → Option Nat) (i : Int) (v : Option Nat) : Int → Option Nat := fun j => if j = i then v else f j
/-- what is the same all through: the classes; the four array classes; where the world begins; the letters, their bytes, the script -/
abbrev GD : Type := va_G × (ClassId × ClassId × ClassId × ClassId) × (Nat × Nat × Nat × Nat)
def gB (G : GD) : Nat := G.2.2.1
def gS (G : GD) : Nat := G.2.2.2.1
def gV (G : GD) : Nat := G.2.2.2.2.1
def gX (G : GD) : Nat := G.2.2.2.2.2
def gA (G : GD) : Nat → Prop := fun q => gB G ≤ q
def gC (G : GD) (ty : Nat) : ClassId := match ty with
  | 0 => G.2.1.1
  | 1 => G.2.1.2.1
  | _ => G.2.1.2.2.1
def gQ (G : GD) : ClassId := G.2.1.2.2.2
def tyF (ty : Nat) : FieldType := match ty with
  | 0 => .int
  | 1 => .byte
  | _ => .boolean
def gT (G : GD) : List (ClassId × FieldType) := [(gC G 0, .int), (gC G 1, .byte), (gC G 2, .boolean), (gQ G, .object RX1)]
def cv (G : GD) (v : AV) : Value := match v with
  | .inl z => .int (Int32.ofInt z)
  | .inr (.inl r) => va_rf r
  | .inr (.inr (.inl x)) => .long x
  | .inr (.inr (.inr b)) => .ref (if b = true then gS G else gX G)
def isL (v : AV) : Bool := match v with
  | .inr (.inr (.inl _)) => true
  | _ => false
def vin (ty : Nat) (z : Int) : Prop := match ty with
  | 0 => -2147483648 ≤ z ∧ z ≤ 2147483647
  | 1 => -128 ≤ z ∧ z ≤ 127
  | _ => 0 ≤ z ∧ z ≤ 1
def vok (v : AV) : Prop := match v with
  | .inl z => -2147483648 ≤ z ∧ z ≤ 2147483647
  | _ => True
def enc (G : GD) (c : AC) : va_E := match c with
  | .inl (ci, fs) => .inr (ci, fs.map (cv G))
  | .inr (.inl (ty, n, f)) => .inl (gC G ty, n, .inl (fun j => Int32.ofInt (f j)))
  | .inr (.inr (n, g)) => .inl (gQ G, n, .inr (.inr (.inr (.inr (fun j => g j)))))
def cok (c : AC) : Prop := match c with
  | .inl (_, fs) => ∀ v ∈ fs, vok v
  | .inr (.inl (ty, n, f)) => n ≤ 2147483647 ∧ ∀ i : Nat, i < n → vin ty (f i)
  | .inr (.inr (n, _)) => n ≤ 2147483647
def klB : List Int32 := [115, 112, 104, 102, 106, 116, 99, 101]
/-- the heap is as the abstract one says -/
def HR (G : GD) (h : AH) (U : State) (H : Heap) : Prop :=
  (H.size = h.1.1 ∧ gB G ≤ H.size) ∧ (∀ (a : Nat) (c : AC), h.2 a = some c → va_at G.1 vwCl (a, enc G c) H ∧ cok c ∧ gB G ≤ a) ∧
  (va_X (gX G) h.1.2.1 (fun j => Int32.ofInt (h.1.2.2 j)) U H ∧ gX G < gB G ∧ h.1.2.1 ≤ 2147483647 ∧ ∀ j : Nat, j < h.1.2.1 → vin 0 (h.1.2.2 j)) ∧
  (vk_S 1 [8] [klB] (fun _ => gS G) (fun _ => gV G) (gA G) U H ∧ va_Z "java/lang/String" "COMPACT_STRINGS" "Z" (.int 1) (gA G) U H)
def nestW : List Cond := [.methodLinkNest RX5 11 yX4_init RX5, .methodLinkNest RX4 17 yX3_init RX5, .methodLinkNest RX5 18 yX3_init RX5, .methodLinkNest RX2 27 yX1_init RX5, .methodLinkNest RX5 32 yX0_init RX5, .methodLinkNest RX0 29 yX1_init RX5, .methodLinkNest RX0 101 yX5_endIndex RX5]
/-- the tables are as the world needs them -/
def GK (G : GD) (U : State) : Prop := va_K G.1 vwCl (gT G) U ∧ (∀ w ∈ nestW, va_Nw w U) ∧ vk_R RX4 46 "sphfjtce" (gS G) U ∧ va_AO RX1 U
theorem HR.moved {G : GD} {h : AH} {u U : State} {H : Heap} (hvm : u.vm.Alike U.vm) (a : HR G h u H) : HR G h U H :=
  ⟨a.1, a.2.1, ⟨va_X.moved hvm a.2.2.1.1, a.2.2.1.2⟩, vk_S.moved hvm a.2.2.2.1, va_Z.moved hvm a.2.2.2.2⟩
theorem GK.warm {G : GD} {s U : State} (hW : s.WarmedH U.vm) (h : GK G s) : GK G U := by
  refine ⟨va_K.moved hW.alike h.1, fun w hw => ?_, vk_R.warm hW h.2.2.1, va_AO.moved hW.alike h.2.2.2⟩
  have h1 := h.2.1 w hw
  simp only [nestW, List.mem_cons, List.not_mem_nil, or_false] at hw
  rcases hw with rfl | rfl | rfl | rfl | rfl | rfl | rfl <;> exact va_Nw.warmM hW h1
theorem GK.same {G : GD} {s U : State} (hv : U.vm = s.vm) (h : GK G s) : GK G U := by
  have ha : s.vm.Alike U.vm := by rw [hv]; exact Vm.Alike.refl _
  refine ⟨va_K.moved ha h.1, fun w hw => ?_, vk_R.same hv h.2.2.1, va_AO.moved ha h.2.2.2⟩
  have h1 := h.2.1 w hw
  simp only [nestW, List.mem_cons, List.not_mem_nil, or_false] at hw
  rcases hw with rfl | rfl | rfl | rfl | rfl | rfl | rfl <;> exact va_Nw.same rfl hv.symm h1
/-- behind a store in one cell of the world -/
theorem HR.store {G : GD} {h : AH} {U : State} {H H1 : Heap} {a : Nat} {c c' : AC} (hH : HR G h U H) (hc : h.2 a = some c) (z : H1.size = H.size) (oq : ∀ q : Nat, q ≠ a → H1[q]? = H[q]?) (he : va_at G.1 vwCl (a, enc G c') H1) (hk : cok c') : HR G (hput h a c') U H1 := by
  obtain ⟨h1, h2, ⟨h3, h4⟩, h5, h6⟩ := hH
  have hb : gB G ≤ a := (h2 a c hc).2.2
  have hq : ∀ q : Nat, q < H.size → ¬ gA G q → H1[q]? = H[q]? := fun q _ hn => oq q (fun e => hn (by rw [e]; exact hb))
  refine ⟨⟨by rw [z]; exact h1.1, by rw [z]; exact h1.2⟩, fun b d hd => ?_, ⟨va_X.kept h3 (oq _ (by have := h4.1; omega)), h4⟩, vk_S.kept h5 hq, va_Z.kept h6 hq⟩
  by_cases e : b = a
  · subst e
    have hd' : some c' = some d := by simpa [hput] using hd
    cases hd'
    exact ⟨he, hk, hb⟩
  · have hd' : h.2 b = some d := by simpa [hput, e] using hd
    obtain ⟨g1, g2, g3⟩ := h2 b d hd'
    exact ⟨g1.kept (oq b e), g2, g3⟩
/-- behind a new cell -/
theorem HR.push {G : GD} {h : AH} {U : State} {H H1 : Heap} {c' : AC} (hH : HR G h U H) (z : H1.size = H.size + 1) (oq : ∀ q : Nat, q < H.size → H1[q]? = H[q]?) (he : va_at G.1 vwCl (H.size, enc G c') H1) (hk : cok c') : HR G ((h.1.1 + 1, h.1.2), fun q => if q = h.1.1 then some c' else h.2 q) U H1 := by
  obtain ⟨h1, h2, ⟨h3, h4⟩, h5, h6⟩ := hH
  have hq : ∀ q : Nat, q < H.size → ¬ gA G q → H1[q]? = H[q]? := fun q hl _ => oq q hl
  refine ⟨⟨by rw [z, h1.1], by omega⟩, fun b d hd => ?_, ⟨va_X.kept h3 (oq _ (by have := h4.1; omega)), h4⟩, vk_S.kept h5 hq, va_Z.kept h6 hq⟩
  by_cases e : b = h.1.1
  · subst e
    have hd' : some c' = some d := by simpa using hd
    cases hd'
    rw [← h1.1]
    exact ⟨he, hk, h1.2⟩
  · have hd' : h.2 b = some d := by simpa [e] using hd
    obtain ⟨g1, g2, g3⟩ := h2 b d hd'
    exact ⟨g1.kept (oq b g1.lt), g2, g3⟩
/-! the locals -/
def aLs (G : GD) : Nat → List (Option AV) → List (Nat × Value)
  | _, [] => []
  | i, none :: L => aLs G (i + 1) L
  | i, some v :: L => (i, cv G v) :: aLs G (i + 1) L
theorem aLs_in {G : GD} : ∀ (L : List (Option AV)) (i j : Nat) (w : Value), (j, w) ∈ aLs G i L ↔ ∃ v : AV, i ≤ j ∧ L[j - i]? = some (some v) ∧ w = cv G v := by
  intro L
  induction L with
  | nil => intro i j w; simp [aLs]
  | cons x L ih =>
    intro i j w
    have hcons : ∀ v : AV, (i + 1 ≤ j ∧ L[j - (i + 1)]? = some (some v)) ↔ (i + 1 ≤ j ∧ (x :: L)[j - i]? = some (some v)) := by
      intro v
      constructor
      · rintro ⟨h1, h2⟩
        refine ⟨h1, ?_⟩
        rw [show j - i = (j - (i + 1)) + 1 by omega, List.getElem?_cons_succ]
        exact h2
      · rintro ⟨h1, h2⟩
        refine ⟨h1, ?_⟩
        rw [show j - i = (j - (i + 1)) + 1 by omega, List.getElem?_cons_succ] at h2
        exact h2
    cases x with
    | none =>
      show (j, w) ∈ aLs G (i + 1) L ↔ _
      rw [ih]
      constructor
      · rintro ⟨v, h1, h2, h3⟩
        exact ⟨v, by omega, ((hcons v).mp ⟨h1, h2⟩).2, h3⟩
      · rintro ⟨v, h1, h2, h3⟩
        have hne : j ≠ i := by
          intro e
          subst e
          simp at h2
        obtain ⟨q1, q2⟩ := (hcons v).mpr ⟨by omega, h2⟩
        exact ⟨v, q1, q2, h3⟩
    | some y =>
      show (j, w) ∈ (i, cv G y) :: aLs G (i + 1) L ↔ _
      rw [List.mem_cons, ih]
      constructor
      · rintro (e | ⟨v, h1, h2, h3⟩)
        · cases e
          exact ⟨y, Nat.le_refl _, by simp, rfl⟩
        · exact ⟨v, by omega, ((hcons v).mp ⟨h1, h2⟩).2, h3⟩
      · rintro ⟨v, h1, h2, h3⟩
        by_cases e : j = i
        · subst e
          left
          have : y = v := by simpa using h2
          rw [this, h3]
        · right
          obtain ⟨q1, q2⟩ := (hcons v).mpr ⟨by omega, h2⟩
          exact ⟨v, q1, q2, h3⟩
def LR (G : GD) (L : List (Option AV)) (ls : Array Slot) (n : Nat) : Prop := lv_has ls n (aLs G 0 L) ∧ L.length = n ∧ ∀ (i : Nat) (v : AV), L[i]? = some (some v) → vok v
theorem LR.get {G : GD} {L : List (Option AV)} {ls : Array Slot} {n i : Nat} {v : AV} (h : LR G L ls n) (hi : L[i]? = some (some v)) : ls[i]? = some (.val (cv G v)) ∧ vok v :=
  ⟨h.1.2.2 (i, cv G v) ((aLs_in L 0 i _).mpr ⟨v, Nat.zero_le _, by simpa using hi, rfl⟩), h.2.2 i v hi⟩
def nlong (x : Option AV) : Option AV := match x with
  | some v => if isL v = true then none else some v
  | none => none
def lset : List (Option AV) → Nat → AV → List (Option AV)
  | [], _, _ => []
  | _ :: l, 0, v => some v :: l
  | x :: l, 1, v => nlong x :: lset l 0 v
  | x :: l, i + 2, v => x :: lset l (i + 1) v
def lset2 : List (Option AV) → Nat → AV → List (Option AV)
  | _ :: _ :: l, 0, v => some v :: none :: l
  | x :: l, 1, v => nlong x :: lset2 l 0 v
  | x :: l, i + 2, v => x :: lset2 l (i + 1) v
  | l, _, _ => l
theorem isL_cat (G : GD) (v : AV) : (cv G v).category = 2 ↔ isL v = true := by
  rcases v with z | (_ | a) | x | b <;> simp [cv, isL, va_rf, Value.category]
theorem lset_len : ∀ (L : List (Option AV)) (i : Nat) (v : AV), (lset L i v).length = L.length := by
  intro L
  induction L with
  | nil => intro i v; rfl
  | cons x l ih =>
    intro i v
    match i with
    | 0 => rfl
    | 1 => show (lset l 0 v).length + 1 = _; rw [ih]; rfl
    | i + 2 => show (lset l (i + 1) v).length + 1 = _; rw [ih]; rfl
theorem nlong_some {x : Option AV} {w : AV} (h : nlong x = some w) : x = some w ∧ isL w = false := by
  cases x with
  | none => cases h
  | some v =>
    simp only [nlong] at h
    by_cases e : isL v = true
    · rw [if_pos e] at h; cases h
    · rw [if_neg e] at h
      cases h
      exact ⟨rfl, by simpa using e⟩
theorem lset_get : ∀ (L : List (Option AV)) (i j : Nat) (v w : AV), (lset L i v)[j]? = some (some w) → (j = i ∧ w = v) ∨ (j ≠ i ∧ L[j]? = some (some w) ∧ ¬ (j + 1 = i ∧ isL w = true)) := by
  intro L
  induction L with
  | nil => intro i j v w h; simp [lset] at h
  | cons x l ih =>
    intro i j v w h
    match i, j with
    | 0, 0 =>
      left
      simp [lset] at h
      exact ⟨rfl, h.symm⟩
    | 0, j + 1 =>
      right
      refine ⟨by omega, by simpa [lset] using h, by omega⟩
    | 1, 0 =>
      right
      have h2 : nlong x = some w := by simpa [lset] using h
      obtain ⟨h3, h4⟩ := nlong_some h2
      refine ⟨by omega, by simp [h3], fun q => by rw [h4] at q; exact absurd q.2 (by decide)⟩
    | 1, j + 1 =>
      have h2 : (lset l 0 v)[j]? = some (some w) := by simpa [lset] using h
      rcases ih 0 j v w h2 with ⟨q1, q2⟩ | ⟨q1, q2, q3⟩
      · left; exact ⟨by omega, q2⟩
      · right; exact ⟨by omega, by simpa using q2, by omega⟩
    | i + 2, 0 =>
      right
      refine ⟨by omega, by simpa [lset] using h, by omega⟩
    | i + 2, j + 1 =>
      have h2 : (lset l (i + 1) v)[j]? = some (some w) := by simpa [lset] using h
      rcases ih (i + 1) j v w h2 with ⟨q1, q2⟩ | ⟨q1, q2, q3⟩
      · left; exact ⟨by omega, q2⟩
      · right; exact ⟨by omega, by simpa using q2, fun q => q3 ⟨by omega, q.2⟩⟩
theorem LR.set {G : GD} {L : List (Option AV)} {ls ls' : Array Slot} {n i : Nat} {v : AV} (h : LR G L ls n) (hv : vok v)
    (h' : lv_has ls' n ((i, cv G v) :: (aLs G 0 L).filter (fun q => !(q.1 == i) && !(q.1 + 1 == i && q.2.category == 2)))) : LR G (lset L i v) ls' n := by
  refine ⟨⟨h'.1, h'.2.1, fun q hq => ?_⟩, by rw [lset_len]; exact h.2.1, fun j w hj => ?_⟩
  · obtain ⟨j, x⟩ := q
    obtain ⟨w, -, h2, rfl⟩ := (aLs_in _ 0 j x).mp hq
    rw [Nat.sub_zero] at h2
    rcases lset_get L i j v w h2 with ⟨rfl, rfl⟩ | ⟨q1, q2, q3⟩
    · exact h'.2.2 _ List.mem_cons_self
    · refine h'.2.2 _ (List.mem_cons_of_mem _ (List.mem_filter.mpr ⟨(aLs_in L 0 j _).mpr ⟨w, Nat.zero_le _, by simpa using q2, rfl⟩, ?_⟩))
      simp only [Bool.and_eq_true, Bool.not_eq_true', beq_eq_false_iff_ne, ne_eq, Bool.and_eq_false_iff]
      refine ⟨q1, ?_⟩
      by_cases e : j + 1 = i
      · right
        intro z
        exact q3 ⟨e, (isL_cat G w).mp z⟩
      · left; exact e
  · rcases lset_get L i j v w hj with ⟨rfl, rfl⟩ | ⟨q1, q2, q3⟩
    · exact hv
    · exact h.2.2 j w q2
end
section
/-! ===== a frame of the abstract machine, and a method's contract ===== -/
/-- a method: name, code, locals, answer, whether it makes an object, the cells and slots that it makes -/
abbrev MT : Type := MethodName × ByteArray × Nat × Option FieldType × Bool × Nat × Nat
def mY (M : MT) : MethodName := M.1
def mB (M : MT) : ByteArray := M.2.1
def mL (M : MT) : Nat := M.2.2.1
def mR (M : MT) : Option FieldType := M.2.2.2.1
def mI (M : MT) : Bool := M.2.2.2.2.1
def mC (M : MT) : Nat := M.2.2.2.2.2.1
def mS (M : MT) : Nat := M.2.2.2.2.2.2
abbrev RP : Type := Option AV → AH → Prop
def RetAt (M : MT) (v : Option AV) (pc : Nat) : Prop := match v with
  | none => mR M = none ∧ decode (mB M) pc = .ok (.return_, 1)
  | some (.inl z) => (mR M = some .int ∧ decode (mB M) pc = .ok (.ireturn, 1)) ∨ (mR M = some .boolean ∧ decode (mB M) pc = .ok (.ireturn, 1) ∧ 0 ≤ z ∧ z ≤ 1)
  | some (.inr (.inl _)) => (∃ n, mR M = some (.object n)) ∧ decode (mB M) pc = .ok (.areturn, 1)
  | some (.inr (.inr (.inl _))) => mR M = some .long ∧ decode (mB M) pc = .ok (.lreturn, 1)
  | some (.inr (.inr (.inr _))) => False
def rst (G : GD) (v : Option AV) : List Value := match v with
  | none => []
  | some x => [cv G x]
def Cx (M : MT) (fr : Nat) (p : Program) (l : Launch) (e : Env) (R : Room) (s : State) (m : MethodId) (args : Array Value) (below : List Frame) (meth : Method) (c : Code) (Q : State → Prop) (G : GD) (Rp : RP) : Prop :=
  (p.tables.exec = Jvm.exec ∧ c.code = mB M ∧ c.maxLocals = mL M ∧ s.vm.findClass (mY M).cls = some m.cls ∧ (∀ w ∈ tG, w.before args s = true)) ∧
  (GK G s ∧ meth.locks = false ∧ (mI M = true → meth.name = "<init>") ∧ R.frames = fr ∧ 36 * fr ≤ R.locals ∧ gB G ≤ s.heap.size) ∧
  ∀ (v : Option AV) (h' : AH) (H : Heap) (locs : List Loc) (cells slots pc : Nat) (ls : Array Slot), Rp v h' → (∀ x, v = some x → vok x) → HR G h' s H → va_S (gA G) s.heap H locs → cells ≤ R.cells → slots ≤ R.slots → RetAt M v pc →
    W p l e R s m args below meth c H locs cells slots Q (F0 m pc ls (rst G v))
/-- from here, with these locals, this stack and this heap, the method comes to an end of which Rp holds -/
def AW (M : MT) (fr : Nat) (kb : Nat × Nat) (pc : Nat) (L : List (Option AV)) (S : List AV) (h : AH) (Rp : RP) : Prop :=
  ∀ (p : Program) (l : Launch) (e : Env) (R : Room) (s : State) (m : MethodId) (args : Array Value) (below : List Frame) (meth : Method) (c : Code) (Q : State → Prop) (G : GD), Cx M fr p l e R s m args below meth c Q G Rp →
  ∀ (H : Heap) (locs : List Loc) (cells slots : Nat) (ls : Array Slot), HR G h s H → va_S (gA G) s.heap H locs → LR G L ls (mL M) → (∀ v ∈ S, vok v) → cells + kb.1 ≤ R.cells → slots + kb.2 ≤ R.slots →
  W p l e R s m args below meth c H locs cells slots Q (F0 m pc ls (S.map (cv G)))
/-- a call of M, d frames deep at most, at this heap with these arguments, comes to an end of which Rp holds -/
def AM (M : MT) (d : Nat) (h : AH) (as : List AV) (Rp : RP) : Prop := (∀ v ∈ as, vok v) → ∀ (l : Launch) (G : GD),
  Met l (mY M) (.code (mY M) (mB M) (mL M) (mR M) :: tG) { frames := d, cells := mC M, slots := mS M, locals := 36 * d } (va_Pc (as.map (cv G)) (fun U => HR G h U U.heap ∧ GK G U))
    (fun _ st o t => (∃ (v : Option AV) (h' : AH), o = .returned (v.map (cv G)) ∧ Rp v h' ∧ (∀ x, v = some x → vok x) ∧ HR G h' t t.heap) ∧ va_F (gA G) st t) (mC M) (mS M) (gA G)
/-- a method of the tables: its code is there -/
def MOK (M : MT) : Prop := plainName (mY M).cls = true ∧ Cond.code (mY M) (mB M) (mL M) (mR M) ∈ tG ∧ Cond.initialized (mY M).cls ∈ tG ∧ ((mY M).cls ≠ "java/lang/invoke/MethodHandle" ∧ (mY M).cls ≠ "java/lang/invoke/VarHandle")
def alocs : Nat → List AV → List (Nat × AV)
  | _, [] => []
  | i, v :: vs => (i, v) :: alocs (if isL v = true then i + 2 else i + 1) vs
def entL (n : Nat) (as : List AV) : List (Option AV) := (List.range n).map (fun i => (alocs 0 as).lookup i)
theorem alocs_cv (G : GD) : ∀ (as : List AV) (i : Nat), lv_args i (as.map (cv G)) = (alocs i as).map (fun q => (q.1, cv G q.2)) := by
  intro as
  induction as with
  | nil => intro i; rfl
  | cons v vs ih =>
    intro i
    show (i, cv G v) :: lv_args (if (cv G v).category = 2 then i + 2 else i + 1) (vs.map (cv G)) = (i, cv G v) :: (alocs (if isL v = true then i + 2 else i + 1) vs).map _
    have e : (if (cv G v).category = 2 then i + 2 else i + 1) = (if isL v = true then i + 2 else i + 1) := by
      by_cases q : isL v = true
      · rw [if_pos q, if_pos ((isL_cat G v).mpr q)]
      · rw [if_neg q, if_neg (fun z => q ((isL_cat G v).mp z))]
    rw [e, ih]
theorem lookup_in {as : List (Nat × AV)} {i : Nat} {v : AV} (h : as.lookup i = some v) : (i, v) ∈ as := by
  induction as with
  | nil => simp at h
  | cons q as ih =>
    obtain ⟨j, w⟩ := q
    by_cases e : i = j
    · subst e
      rw [List.lookup_cons_self] at h
      cases h
      exact List.mem_cons_self
    · have : (i == j) = false := by simpa using e
      rw [List.lookup_cons, this] at h
      exact List.mem_cons_of_mem _ (ih h)
theorem alocs_ok : ∀ (as : List AV) (i : Nat), (∀ v ∈ as, vok v) → ∀ q ∈ alocs i as, vok q.2 := by
  intro as
  induction as with
  | nil => intro i _ q hq; cases hq
  | cons v vs ih =>
    intro i h q hq
    rcases List.mem_cons.mp hq with rfl | hq
    · exact h v List.mem_cons_self
    · exact ih _ (fun w hw => h w (List.mem_cons_of_mem _ hw)) q hq
theorem LR.entry {G : GD} {as : List AV} {n : Nat} {L : List (Option AV)} (hn : (lg_sl (as.map (cv G))).length ≤ n) (hok : ∀ v ∈ as, vok v) (hL : entL n as = L) : LR G L ((lg_sl (as.map (cv G)) ++ List.replicate (n - (lg_sl (as.map (cv G))).length) Slot.unset).toArray) n := by
  have h0 := lv_entry (as.map (cv G)) hn
  subst hL
  refine ⟨⟨h0.1, h0.2.1, fun q hq => ?_⟩, by simp [entL], fun i v hi => ?_⟩
  · obtain ⟨j, x⟩ := q
    obtain ⟨w, -, h2, rfl⟩ := (aLs_in _ 0 j x).mp hq
    rw [Nat.sub_zero] at h2
    simp only [entL, List.getElem?_map, Option.map_eq_some_iff] at h2
    obtain ⟨k, hk, h3⟩ := h2
    obtain ⟨hk1, hk2⟩ := List.getElem?_eq_some_iff.mp hk
    have hkj : k = j := by simpa using hk2.symm
    subst hkj
    refine h0.2.2 _ ?_
    rw [alocs_cv]
    exact List.mem_map.mpr ⟨(k, w), lookup_in h3, rfl⟩
  · simp only [entL, List.getElem?_map, Option.map_eq_some_iff] at hi
    obtain ⟨k, -, h3⟩ := hi
    exact alocs_ok as 0 hok _ (lookup_in h3)
theorem tG_in {M : MT} (hM : MOK M) : GoodIn tG (.code (mY M) (mB M) (mL M) (mR M) :: tG) := fun w h => by
  rcases List.mem_cons.mp h with rfl | h
  · exact ⟨hM.2.1, tG_good hM.2.1⟩
  · exact ⟨h, tG_good h⟩
/-- the contract out of the walk of the body -/
theorem AM.of {M : MT} {d : Nat} {h : AH} {as : List AV} {Rp : RP} {L : List (Option AV)} (hM : MOK M) (hI : mI M = true → (mY M).name = "<init>") (hn : ∀ G : GD, (lg_sl (as.map (cv G))).length ≤ mL M) (hL : entL (mL M) as = L) (k : AW M d (mC M, mS M) 0 L [] h Rp) : AM M d h as Rp := by
  intro hok l G
  refine Met.ofW (cc := mB M) (maxL := mL M) (ret := mR M) hM.1 rfl ?_
  intro p e s m args below meth c s₁ B hml hv
  obtain ⟨rfl, hH, hK⟩ := hv
  have hts := atoms_spec (ws := Cond.code (mY M) (mB M) (mL M) (mR M) :: tG) B.pre
  have hown : s.vm.findClass (mY M).cls = some m.cls := findClass_of_methodNamed B.named
  have hlocks := B.notSynchronized
  have hname : meth.name = (mY M).name := (name_of_methodNamed B.named B.method).1
  have hr := B.returns
  have hx := B.exec
  have hb := B.bytes
  rw [lg_entry_eq]
  refine k p l e _ s m _ below meth c _ G ⟨⟨hx, hb, hml, hown, fun w hw => hts w (List.mem_cons_of_mem _ hw)⟩, ⟨hK, hlocks, fun q => by rw [hname]; exact hI q, rfl, Nat.le_refl _, hH.1.2⟩, ?_⟩ s.heap [] 0 0 _ hH va_S.rf (LR.entry (hn G) hok hL) (fun _ h => by cases h) (by rw [Nat.zero_add]; exact Nat.le_refl _) (by rw [Nat.zero_add]; exact Nat.le_refl _)
  intro v h' H locs cells slots pc ls hRp hvok hH' hS hc hs hret
  refine W.widen hc hs ?_
  have hq : ∀ t : State, t.heap = H → s.WarmedH t.vm → ∀ (w : Option AV), w = v → ((∃ (v : Option AV) (h' : AH), Outcome.returned (w.map (cv G)) = .returned (v.map (cv G)) ∧ Rp v h' ∧ (∀ x, v = some x → vok x) ∧ HR G h' t t.heap) ∧ va_F (gA G) s t) := fun t ht hW w e => ⟨⟨v, h', by rw [e], hRp, hvok, by rw [ht]; exact hH'.moved hW.alike⟩, hS.F ht⟩
  match v, hret with
  | none, hret =>
    obtain ⟨h1, h2⟩ := hret
    exact W.vret hx hb (by rw [hr]; exact h1) (fun t ht hW => hq t ht hW none rfl) hS.2.2 h2
  | some (.inl z), hret =>
    rcases hret with ⟨h1, h2⟩ | ⟨h1, h2, h3, h4⟩
    · exact W.iret hx hb (by rw [hr]; exact h1) (fun t ht hW => hq t ht hW (some (.inl z)) rfl) hS.2.2 h2
    · refine W.zret (ty := .boolean) hx hb (by rw [hr]; exact h1) ?_ (fun t ht hW => hq t ht hW (some (.inl z)) rfl) hS.2.2 h2
      rcases (by omega : z = 0 ∨ z = 1) with rfl | rfl <;> rfl
  | some (.inr (.inl r)), hret =>
    obtain ⟨⟨n, h1⟩, h2⟩ := hret
    exact W.aret (rt := .object n) hx hb (by rw [hr]; exact h1) (Or.inl ⟨n, rfl⟩) (by cases r with | none => exact Or.inl rfl | some a => exact Or.inr ⟨a, rfl⟩) (fun t ht hW => hq t ht hW (some (.inr (.inl r))) rfl) hS.2.2 h2
  | some (.inr (.inr (.inl x))), hret =>
    obtain ⟨h1, h2⟩ := hret
    exact W.lret hx hb (by rw [hr]; exact h1) (fun t ht hW => hq t ht hW (some (.inr (.inr (.inl x)))) rfl) hS.2.2 h2
  | some (.inr (.inr (.inr b))), hret => exact absurd hret (fun q => q)
end
section
/-! ===== the abstract machine's rows: stack, locals, numbers, branches ===== -/
def Dc (M : MT) (pc : Nat) (i : Instr) (len n : Nat) : Prop := decode (mB M) pc = .ok (i, len) ∧ pc + len = n
theorem of_i32 {z : Int} (h : -2147483648 ≤ z ∧ z ≤ 2147483647) : (Int32.ofInt z).toInt = z := Int32.toInt_ofInt_of_le (by omega) (by omega)
theorem i32_eq {a b : Int} (ha : -2147483648 ≤ a ∧ a ≤ 2147483647) (hb : -2147483648 ≤ b ∧ b ≤ 2147483647) : Int32.ofInt a = Int32.ofInt b ↔ a = b := by
  rw [← Int32.toInt_inj, of_i32 ha, of_i32 hb]
theorem i32_lt {a b : Int} (ha : -2147483648 ≤ a ∧ a ≤ 2147483647) (hb : -2147483648 ≤ b ∧ b ≤ 2147483647) : Int32.ofInt a < Int32.ofInt b ↔ a < b := by
  rw [Int32.lt_iff_toInt_lt, of_i32 ha, of_i32 hb]
theorem i32_le {a b : Int} (ha : -2147483648 ≤ a ∧ a ≤ 2147483647) (hb : -2147483648 ≤ b ∧ b ≤ 2147483647) : Int32.ofInt a ≤ Int32.ofInt b ↔ a ≤ b := by
  rw [Int32.le_iff_toInt_le, of_i32 ha, of_i32 hb]
theorem i32_0 : (0 : Int32) = Int32.ofInt 0 := rfl
theorem i32_cl {z : Int} (h : -2147483648 ≤ z ∧ z ≤ 2147483647) : (Int32.ofInt z).toNatClampNeg = z.toNat := by
  show (Int32.ofInt z).toInt.toNat = z.toNat
  rw [of_i32 h]
theorem i32_in {z : Int} {N : Nat} (h0 : 0 ≤ z) (h1 : z < N) (hN : N ≤ 2147483647) : vp_in (Int32.ofInt z) N := by
  have hz : -2147483648 ≤ z ∧ z ≤ 2147483647 := by omega
  intro q
  rcases q with q | q
  · rw [i32_0, i32_lt hz (by omega)] at q
    omega
  · rw [i32_cl hz] at q
    omega
section ROWS
variable {M : MT} {fr : Nat} {kb : Nat × Nat} {pc n : Nat} {L : List (Option AV)} {S S' : List AV} {h : AH} {Rp : RP}
theorem AW.go {L' : List (Option AV)} (hv : (∀ v ∈ S, vok v) → (∀ (i : Nat) (v : AV), L[i]? = some (some v) → vok v) → ∀ v ∈ S', vok v)
    (st : ∀ (p : Program) (l : Launch) (e : Env) (R : Room) (s : State) (m : MethodId) (args : Array Value) (below : List Frame) (meth : Method) (c : Code) (Q : State → Prop) (G : GD) (H : Heap) (locs : List Loc) (cells slots : Nat) (ls : Array Slot), p.tables.exec = Jvm.exec → c.code = mB M → s.vm.findClass (mY M).cls = some m.cls → (∀ w ∈ tG, w.before args s = true) → GK G s → (∀ v ∈ S, vok v) → LR G L ls (mL M) →
      (∀ ls' : Array Slot, LR G L' ls' (mL M) → W p l e R s m args below meth c H locs cells slots Q (F0 m n ls' (S'.map (cv G)))) → W p l e R s m args below meth c H locs cells slots Q (F0 m pc ls (S.map (cv G))))
    (k : AW M fr kb n L' S' h Rp) : AW M fr kb pc L S h Rp := by
  intro p l e R s m args below meth c Q G X H locs cells slots ls hH hS hL hV hc hs
  refine st p l e R s m args below meth c Q G H locs cells slots ls X.1.1 X.1.2.1 X.1.2.2.2.1 X.1.2.2.2.2 X.2.1.1 hV hL fun ls' hL' => ?_
  exact k p l e R s m args below meth c Q G X H locs cells slots ls' hH hS hL' (hv hV hL.2.2) hc hs
theorem vok_c {v : AV} {S : List AV} (h : vok v) (hS : ∀ w ∈ S, vok w) : ∀ w ∈ v :: S, vok w := fun w hw => by
  rcases List.mem_cons.mp hw with rfl | hw
  · exact h
  · exact hS w hw
theorem vok_ci {z : Int} {S : List AV} (h : -2147483648 ≤ z ∧ z ≤ 2147483647) (hS : ∀ w ∈ S, vok w) : ∀ w ∈ vI z :: S, vok w := vok_c h hS
theorem vok_cl {x : Int64} {S : List AV} (hS : ∀ w ∈ S, vok w) : ∀ w ∈ vL x :: S, vok w := vok_c trivial hS
theorem vok_t {v : AV} {S : List AV} (hS : ∀ w ∈ v :: S, vok w) : ∀ w ∈ S, vok w := fun w hw => hS w (List.mem_cons_of_mem _ hw)
theorem vok_h {v : AV} {S : List AV} (hS : ∀ w ∈ v :: S, vok w) : vok v := hS v List.mem_cons_self
theorem A.iconst {z : Int} (hd : Dc M pc (.iconst z) 1 n) (k : AW M fr kb n L (vI z :: S) h Rp) (hz : -2147483648 ≤ z ∧ z ≤ 2147483647 := by decide) : AW M fr kb pc L S h Rp :=
  AW.go (fun hV _ => vok_ci hz hV) (fun p l e R s m args below meth c Q G H locs cells slots ls hx hb _ _ _ _ hL kk => by
    obtain ⟨hd, rfl⟩ := hd
    exact lv_iconst hx hb hd rfl (kk ls hL)) k
theorem A.bipush {z : Int} (hd : Dc M pc (.bipush z) 2 n) (k : AW M fr kb n L (vI z :: S) h Rp) (hz : -2147483648 ≤ z ∧ z ≤ 2147483647 := by decide) (hv : (Int8.ofInt z).toInt32 = Int32.ofInt z := by decide) : AW M fr kb pc L S h Rp :=
  AW.go (fun hV _ => vok_ci hz hV) (fun p l e R s m args below meth c Q G H locs cells slots ls hx hb _ _ _ _ hL kk => by
    obtain ⟨hd, rfl⟩ := hd
    exact lv_bipush hx hb hd hv (kk ls hL)) k
theorem A.sipush {z : Int} (hd : Dc M pc (.sipush z) 3 n) (k : AW M fr kb n L (vI z :: S) h Rp) (hz : -2147483648 ≤ z ∧ z ≤ 2147483647 := by decide) (hv : (Int16.ofInt z).toInt32 = Int32.ofInt z := by decide) : AW M fr kb pc L S h Rp :=
  AW.go (fun hV _ => vok_ci hz hV) (fun p l e R s m args below meth c Q G H locs cells slots ls hx hb _ _ _ _ hL kk => by
    obtain ⟨hd, rfl⟩ := hd
    exact lv_sipush hx hb hd hv (kk ls hL)) k
/-! loads and stores: in either form -/
def Dil (M : MT) (pc i n : Nat) : Prop := (∃ k : Fin 4, decode (mB M) pc = .ok (.iload_n k, 1) ∧ (k : Nat) = i ∧ pc + 1 = n) ∨ (decode (mB M) pc = .ok (.iload i, 2) ∧ pc + 2 = n)
def Dal (M : MT) (pc i n : Nat) : Prop := (∃ k : Fin 4, decode (mB M) pc = .ok (.aload_n k, 1) ∧ (k : Nat) = i ∧ pc + 1 = n) ∨ (decode (mB M) pc = .ok (.aload i, 2) ∧ pc + 2 = n)
def Dll (M : MT) (pc i n : Nat) : Prop := (∃ k : Fin 4, decode (mB M) pc = .ok (.lload_n k, 1) ∧ (k : Nat) = i ∧ pc + 1 = n) ∨ (decode (mB M) pc = .ok (.lload i, 2) ∧ pc + 2 = n)
def Dis (M : MT) (pc i n : Nat) : Prop := (∃ k : Fin 4, decode (mB M) pc = .ok (.istore_n k, 1) ∧ (k : Nat) = i ∧ pc + 1 = n) ∨ (decode (mB M) pc = .ok (.istore i, 2) ∧ pc + 2 = n)
def Das (M : MT) (pc i n : Nat) : Prop := (∃ k : Fin 4, decode (mB M) pc = .ok (.astore_n k, 1) ∧ (k : Nat) = i ∧ pc + 1 = n) ∨ (decode (mB M) pc = .ok (.astore i, 2) ∧ pc + 2 = n)
def Dls (M : MT) (pc i n : Nat) : Prop := (∃ k : Fin 4, decode (mB M) pc = .ok (.lstore_n k, 1) ∧ (k : Nat) = i ∧ pc + 1 = n) ∨ (decode (mB M) pc = .ok (.lstore i, 2) ∧ pc + 2 = n)
theorem A.iload {i : Nat} {z : Int} (hd : Dil M pc i n) (hl : L[i]? = some (some (vI z))) (k : AW M fr kb n L (vI z :: S) h Rp) : AW M fr kb pc L S h Rp :=
  AW.go (fun hV hv => vok_c (hv i _ hl) hV) (fun p l e R s m args below meth c Q G H locs cells slots ls hx hb _ _ _ _ hL kk => by
    rcases hd with ⟨q, hd, hq, rfl⟩ | ⟨hd, rfl⟩
    · exact lv_iload_n hx hb hd hq (hL.get hl).1 (kk ls hL)
    · exact lv_iload hx hb hd (hL.get hl).1 (kk ls hL)) k
theorem A.aload {i a : Nat} (hd : Dal M pc i n) (hl : L[i]? = some (some (vR a))) (k : AW M fr kb n L (vR a :: S) h Rp) : AW M fr kb pc L S h Rp :=
  AW.go (fun hV hv => vok_c (hv i _ hl) hV) (fun p l e R s m args below meth c Q G H locs cells slots ls hx hb _ _ _ _ hL kk => by
    rcases hd with ⟨q, hd, hq, rfl⟩ | ⟨hd, rfl⟩
    · exact lv_aload_n hx hb hd hq (hL.get hl).1 (kk ls hL)
    · exact lv_aload hx hb hd (hL.get hl).1 (kk ls hL)) k
theorem A.aloadX {i : Nat} {b : Bool} (hd : Dal M pc i n) (hl : L[i]? = some (some (.inr (.inr (.inr b))))) (k : AW M fr kb n L ((.inr (.inr (.inr b))) :: S) h Rp) : AW M fr kb pc L S h Rp :=
  AW.go (fun hV hv => vok_c (hv i _ hl) hV) (fun p l e R s m args below meth c Q G H locs cells slots ls hx hb _ _ _ _ hL kk => by
    rcases hd with ⟨q, hd, hq, rfl⟩ | ⟨hd, rfl⟩
    · exact lv_aload_n hx hb hd hq (hL.get hl).1 (kk ls hL)
    · exact lv_aload hx hb hd (hL.get hl).1 (kk ls hL)) k
theorem A.lload {i : Nat} {x : Int64} (hd : Dll M pc i n) (hl : L[i]? = some (some (vL x))) (k : AW M fr kb n L (vL x :: S) h Rp) : AW M fr kb pc L S h Rp :=
  AW.go (fun hV hv => vok_c (hv i _ hl) hV) (fun p l e R s m args below meth c Q G H locs cells slots ls hx hb _ _ _ _ hL kk => by
    rcases hd with ⟨q, hd, hq, rfl⟩ | ⟨hd, rfl⟩
    · exact lv_lload_n hx hb hd hq (hL.get hl).1 (kk ls hL)
    · exact lv_lload hx hb hd (hL.get hl).1 (kk ls hL)) k
theorem A.istore {i : Nat} {z : Int} {L' : List (Option AV)} (hd : Dis M pc i n) (hi : i < L.length) (hl : lset L i (vI z) = L') (k : AW M fr kb n L' S h Rp) : AW M fr kb pc L (vI z :: S) h Rp := by
  subst hl
  exact AW.go (fun hV _ => vok_t hV) (fun p l e R s m args below meth c Q G H locs cells slots ls hx hb _ _ _ hV hL kk => by
    have hi' : i < mL M := by rw [← hL.2.1]; exact hi
    rcases hd with ⟨q, hd, hq, rfl⟩ | ⟨hd, rfl⟩
    · exact lv_istore_n hx hb hd hq hL.1 hi' rfl (fun ls' h' => kk ls' (hL.set (v := vI z) (vok_h hV) h'))
    · exact lv_istore hx hb hd hL.1 hi' rfl (fun ls' h' => kk ls' (hL.set (v := vI z) (vok_h hV) h'))) k
theorem A.astore {i a : Nat} {L' : List (Option AV)} (hd : Das M pc i n) (hi : i < L.length) (hl : lset L i (vR a) = L') (k : AW M fr kb n L' S h Rp) : AW M fr kb pc L (vR a :: S) h Rp := by
  subst hl
  exact AW.go (fun hV _ => vok_t hV) (fun p l e R s m args below meth c Q G H locs cells slots ls hx hb _ _ _ hV hL kk => by
    have hi' : i < mL M := by rw [← hL.2.1]; exact hi
    rcases hd with ⟨q, hd, hq, rfl⟩ | ⟨hd, rfl⟩
    · exact lv_astore_n hx hb hd hq hL.1 hi' rfl (fun ls' h' => kk ls' (hL.set (v := vR a) (vok_h hV) h'))
    · exact lv_astore hx hb hd hL.1 hi' rfl (fun ls' h' => kk ls' (hL.set (v := vR a) (vok_h hV) h'))) k
theorem A.iinc {i : Nat} {z d : Int} {L' : List (Option AV)} (hd : Dc M pc (.iinc i d) 3 n) (hg : L[i]? = some (some (vI z))) (hl : lset L i (vI (z + d)) = L') (hr : -2147483648 ≤ z + d ∧ z + d ≤ 2147483647) (k : AW M fr kb n L' S h Rp) : AW M fr kb pc L S h Rp := by
  subst hl
  exact AW.go (fun hV _ => hV) (fun p l e R s m args below meth c Q G H locs cells slots ls hx hb _ _ _ hV hL kk => by
    obtain ⟨hd, rfl⟩ := hd
    have hi' : i < mL M := by rw [← hL.2.1]; exact (List.getElem?_eq_some_iff.mp hg).1
    have hm : (i, cv G (vI z)) ∈ aLs G 0 L := (aLs_in L 0 i _).mpr ⟨vI z, Nat.zero_le _, by simpa using hg, rfl⟩
    obtain ⟨q, hq⟩ := List.getElem?_of_mem hm
    exact lv_iinc hx hb hd hL.1 hq (Int32.ofInt_add z d).symm hi' rfl (fun ls' h' => kk ls' (hL.set (v := vI (z + d)) hr h'))) k
/-! numbers -/
theorem A.iadd {x y : Int} (hd : Dc M pc .iadd 1 n) (k : AW M fr kb n L (vI (x + y) :: S) h Rp) (hr : -2147483648 ≤ x + y ∧ x + y ≤ 2147483647 := by omega) : AW M fr kb pc L (vI y :: vI x :: S) h Rp :=
  AW.go (fun hV _ => vok_ci hr (vok_t (vok_t hV))) (fun p l e R s m args below meth c Q G H locs cells slots ls hx hb _ _ _ _ hL kk => by
    obtain ⟨hd, rfl⟩ := hd
    have h1 := kk ls hL
    simp only [List.map_cons, cv, Int32.ofInt_add] at h1
    exact lv_iadd hx hb hd h1) k
theorem A.isub {x y : Int} (hd : Dc M pc .isub 1 n) (k : AW M fr kb n L (vI (x - y) :: S) h Rp) (hr : -2147483648 ≤ x - y ∧ x - y ≤ 2147483647 := by omega) : AW M fr kb pc L (vI y :: vI x :: S) h Rp :=
  AW.go (fun hV _ => vok_ci hr (vok_t (vok_t hV))) (fun p l e R s m args below meth c Q G H locs cells slots ls hx hb _ _ _ _ hL kk => by
    obtain ⟨hd, rfl⟩ := hd
    have h1 := kk ls hL
    simp only [List.map_cons, cv, Int32.ofInt_sub] at h1
    exact lv_isub hx hb hd h1) k
theorem A.imul {x y : Int} (hd : Dc M pc .imul 1 n) (k : AW M fr kb n L (vI (x * y) :: S) h Rp) (hr : -2147483648 ≤ x * y ∧ x * y ≤ 2147483647 := by omega) : AW M fr kb pc L (vI y :: vI x :: S) h Rp :=
  AW.go (fun hV _ => vok_ci hr (vok_t (vok_t hV))) (fun p l e R s m args below meth c Q G H locs cells slots ls hx hb _ _ _ _ hL kk => by
    obtain ⟨hd, rfl⟩ := hd
    have h1 := kk ls hL
    simp only [List.map_cons, cv, Int32.ofInt_mul] at h1
    exact lv_imul hx hb hd h1) k
/-- an int of the machine, read back -/
theorem i32_back (w : Int32) : Int32.ofInt w.toInt = w := Int32.ofInt_toInt w
theorem i32_rng (w : Int32) : -2147483648 ≤ w.toInt ∧ w.toInt ≤ 2147483647 := by
  have h1 := Int32.le_toInt w
  have h2 := Int32.toInt_lt w
  omega
def bAnd (x y : Int) : Int := (Int32.ofInt x &&& Int32.ofInt y).toInt
def bOr (x y : Int) : Int := (Int32.ofInt x ||| Int32.ofInt y).toInt
def bXor (x y : Int) : Int := (Int32.ofInt x ^^^ Int32.ofInt y).toInt
def bShl (x y : Int) : Int := (Int32.ofInt x <<< (Int32.ofInt y &&& 31)).toInt
def bShr (x y : Int) : Int := (Int32.ofInt x >>> (Int32.ofInt y &&& 31)).toInt
theorem A.iand {x y : Int} (hd : Dc M pc .iand 1 n) (k : AW M fr kb n L (vI (bAnd x y) :: S) h Rp) : AW M fr kb pc L (vI y :: vI x :: S) h Rp :=
  AW.go (fun hV _ => vok_ci (i32_rng _) (vok_t (vok_t hV))) (fun p l e R s m args below meth c Q G H locs cells slots ls hx hb _ _ _ _ hL kk => by
    obtain ⟨hd, rfl⟩ := hd
    have h1 := kk ls hL
    simp only [List.map_cons, cv, bAnd, i32_back] at h1
    exact lv_iand hx hb hd h1) k
theorem A.ior {x y : Int} (hd : Dc M pc .ior 1 n) (k : AW M fr kb n L (vI (bOr x y) :: S) h Rp) : AW M fr kb pc L (vI y :: vI x :: S) h Rp :=
  AW.go (fun hV _ => vok_ci (i32_rng _) (vok_t (vok_t hV))) (fun p l e R s m args below meth c Q G H locs cells slots ls hx hb _ _ _ _ hL kk => by
    obtain ⟨hd, rfl⟩ := hd
    have h1 := kk ls hL
    simp only [List.map_cons, cv, bOr, i32_back] at h1
    exact lv_ior hx hb hd h1) k
theorem A.ixor {x y : Int} (hd : Dc M pc .ixor 1 n) (k : AW M fr kb n L (vI (bXor x y) :: S) h Rp) : AW M fr kb pc L (vI y :: vI x :: S) h Rp :=
  AW.go (fun hV _ => vok_ci (i32_rng _) (vok_t (vok_t hV))) (fun p l e R s m args below meth c Q G H locs cells slots ls hx hb _ _ _ _ hL kk => by
    obtain ⟨hd, rfl⟩ := hd
    have h1 := kk ls hL
    simp only [List.map_cons, cv, bXor, i32_back] at h1
    exact lv_ixor hx hb hd h1) k
theorem A.ishl {x y : Int} (hd : Dc M pc .ishl 1 n) (k : AW M fr kb n L (vI (bShl x y) :: S) h Rp) : AW M fr kb pc L (vI y :: vI x :: S) h Rp :=
  AW.go (fun hV _ => vok_ci (i32_rng _) (vok_t (vok_t hV))) (fun p l e R s m args below meth c Q G H locs cells slots ls hx hb _ _ _ _ hL kk => by
    obtain ⟨hd, rfl⟩ := hd
    have h1 := kk ls hL
    simp only [List.map_cons, cv, bShl, i32_back] at h1
    exact lv_ishl hx hb hd h1) k
theorem A.ishr {x y : Int} (hd : Dc M pc .ishr 1 n) (k : AW M fr kb n L (vI (bShr x y) :: S) h Rp) : AW M fr kb pc L (vI y :: vI x :: S) h Rp :=
  AW.go (fun hV _ => vok_ci (i32_rng _) (vok_t (vok_t hV))) (fun p l e R s m args below meth c Q G H locs cells slots ls hx hb _ _ _ _ hL kk => by
    obtain ⟨hd, rfl⟩ := hd
    have h1 := kk ls hL
    simp only [List.map_cons, cv, bShr, i32_back] at h1
    exact lv_ishr hx hb hd h1) k
/-- division and rest, of what isn't negative by what is positive -/
theorem i32_div {x y : Int} (hx : 0 ≤ x) (hx2 : x ≤ 2147483647) (hy : 0 < y) (hy2 : y ≤ 2147483647) : Int32.ofInt x / Int32.ofInt y = Int32.ofInt (x / y) := by
  have h0 : 0 ≤ x / y := Int.ediv_nonneg hx (by omega)
  have h1 : x / y ≤ x := Int.ediv_le_self y hx
  rw [← Int32.toInt_inj, Int32.toInt_div, of_i32 (by omega), of_i32 (by omega), of_i32 (by omega), Int.tdiv_eq_ediv_of_nonneg hx]
  exact Int.bmod_eq_of_le (by omega) (by omega)
theorem A.idiv {x y : Int} (hd : Dc M pc .idiv 1 n) (k : AW M fr kb n L (vI (x / y) :: S) h Rp) (h0 : 0 ≤ x := by omega) (h1 : 0 < y := by omega) : AW M fr kb pc L (vI y :: vI x :: S) h Rp :=
  AW.go (fun hV _ => vok_ci (by
      have h2 := vok_h (vok_t hV)
      have h3 : 0 ≤ x / y := Int.ediv_nonneg h0 (by omega)
      have h4 : x / y ≤ x := Int.ediv_le_self y h0
      exact ⟨by omega, Int.le_trans h4 h2.2⟩) (vok_t (vok_t hV))) (fun p l e R s m args below meth c Q G H locs cells slots ls hx hb _ _ _ hV hL kk => by
    obtain ⟨hd, rfl⟩ := hd
    have h2 := vok_h (vok_t hV)
    have h3 := vok_h hV
    have h4 := kk ls hL
    simp only [List.map_cons, cv] at h4
    rw [← i32_div h0 h2.2 h1 h3.2] at h4
    exact lv_idiv hx hb hd (by rw [i32_0, i32_eq h3 (by omega)]; omega) h4) k
theorem A.irem {x y : Int} (hd : Dc M pc .irem 1 n) (k : AW M fr kb n L (vI (x % y) :: S) h Rp) (h0 : 0 ≤ x := by omega) (h1 : 0 < y := by omega) : AW M fr kb pc L (vI y :: vI x :: S) h Rp :=
  AW.go (fun hV _ => vok_ci (by
      have h2 := vok_h hV
      have h3 : 0 ≤ x % y := Int.emod_nonneg x (by omega)
      have h4 : x % y < y := Int.emod_lt_of_pos x h1
      exact ⟨by omega, Int.le_trans (Int.le_of_lt h4) h2.2⟩) (vok_t (vok_t hV))) (fun p l e R s m args below meth c Q G H locs cells slots ls hx hb _ _ _ hV hL kk => by
    obtain ⟨hd, rfl⟩ := hd
    have h2 := vok_h (vok_t hV)
    have h3 := vok_h hV
    have h4 := kk ls hL
    simp only [List.map_cons, cv] at h4
    have e : Int32.ofInt (x % y) = Int32.ofInt x - Int32.ofInt x / Int32.ofInt y * Int32.ofInt y := by
      rw [i32_div h0 h2.2 h1 h3.2, ← Int32.ofInt_mul, ← Int32.ofInt_sub]
      congr 1
      rw [Int.emod_def, Int.mul_comm]
    rw [e] at h4
    exact lv_irem hx hb hd (by rw [i32_0, i32_eq h3 (by omega)]; omega) h4) k
theorem A.i2b {x : Int} (hd : Dc M pc .i2b 1 n) (k : AW M fr kb n L (vI x :: S) h Rp) (h0 : -128 ≤ x ∧ x ≤ 127 := by omega) : AW M fr kb pc L (vI x :: S) h Rp :=
  AW.go (fun hV _ => hV) (fun p l e R s m args below meth c Q G H locs cells slots ls hx hb _ _ _ _ hL kk => by
    obtain ⟨hd, rfl⟩ := hd
    refine lv_i2b hx hb hd ?_ (kk ls hL)
    rw [← Int32.toInt_inj]
    rw [Int8.toInt_toInt32, Int32.toInt_toInt8, of_i32 (by omega)]
    exact Int.bmod_eq_of_le (by omega) (by omega)) k
theorem A.i2c {x : Int} (hd : Dc M pc .i2c 1 n) (k : AW M fr kb n L (vI x :: S) h Rp) (h0 : 0 ≤ x ∧ x ≤ 65535 := by omega) : AW M fr kb pc L (vI x :: S) h Rp :=
  AW.go (fun hV _ => hV) (fun p l e R s m args below meth c Q G H locs cells slots ls hx hb _ _ _ _ hL kk => by
    obtain ⟨hd, rfl⟩ := hd
    refine lv_i2c hx hb hd ?_ (kk ls hL)
    obtain ⟨w, rfl⟩ : ∃ w : Nat, x = (w : Int) := ⟨x.toNat, by omega⟩
    have e : Int32.ofInt (w : Int) = nI w := Int32.ofInt_eq_ofNat
    rw [e, pk_char, pk_tn (by omega), Nat.mod_eq_of_lt (by omega)]) k
theorem A.i2l {x : Int} (hd : Dc M pc .i2l 1 n) (k : AW M fr kb n L (vL (Int32.ofInt x).toInt64 :: S) h Rp) : AW M fr kb pc L (vI x :: S) h Rp :=
  AW.go (fun hV _ => vok_cl (vok_t hV)) (fun p l e R s m args below meth c Q G H locs cells slots ls hx hb _ _ _ _ hL kk => by
    obtain ⟨hd, rfl⟩ := hd
    exact lv_i2l hx hb hd rfl (kk ls hL)) k
theorem A.ladd {x y : Int64} (hd : Dc M pc .ladd 1 n) (k : AW M fr kb n L (vL (x + y) :: S) h Rp) : AW M fr kb pc L (vL y :: vL x :: S) h Rp :=
  AW.go (fun hV _ => vok_cl (vok_t (vok_t hV))) (fun p l e R s m args below meth c Q G H locs cells slots ls hx hb _ _ _ _ hL kk => by
    obtain ⟨hd, rfl⟩ := hd
    exact lv_ladd hx hb hd (kk ls hL)) k
theorem A.lmul {x y : Int64} (hd : Dc M pc .lmul 1 n) (k : AW M fr kb n L (vL (x * y) :: S) h Rp) : AW M fr kb pc L (vL y :: vL x :: S) h Rp :=
  AW.go (fun hV _ => vok_cl (vok_t (vok_t hV))) (fun p l e R s m args below meth c Q G H locs cells slots ls hx hb _ _ _ _ hL kk => by
    obtain ⟨hd, rfl⟩ := hd
    exact lv_lmul hx hb hd (kk ls hL)) k
theorem A.dup {v : AV} (hd : Dc M pc .dup 1 n) (k : AW M fr kb n L (v :: v :: S) h Rp) (hv : isL v = false := by rfl) : AW M fr kb pc L (v :: S) h Rp :=
  AW.go (fun hV _ => vok_c (vok_h hV) hV) (fun p l e R s m args below meth c Q G H locs cells slots ls hx hb _ _ _ _ hL kk => by
    obtain ⟨hd, rfl⟩ := hd
    have hc : (cv G v).category = 1 := by
      rcases lv_cat (cv G v) with q | q
      · exact q
      · rw [(isL_cat G v).mp q] at hv; cases hv
    exact lv_dup hx hb hd hc (kk ls hL)) k
theorem A.dup2 {v w : AV} (hd : Dc M pc .dup2 1 n) (k : AW M fr kb n L (v :: w :: v :: w :: S) h Rp) (hv : isL v = false := by rfl) (hw : isL w = false := by rfl) : AW M fr kb pc L (v :: w :: S) h Rp :=
  AW.go (fun hV _ => vok_c (vok_h hV) (vok_c (vok_h (vok_t hV)) hV)) (fun p l e R s m args below meth c Q G H locs cells slots ls hx hb _ _ _ _ hL kk => by
    obtain ⟨hd, rfl⟩ := hd
    have hc : ∀ v : AV, isL v = false → (cv G v).category = 1 := fun v hv => by
      rcases lv_cat (cv G v) with q | q
      · exact q
      · rw [(isL_cat G v).mp q] at hv; cases hv
    exact lv_dup2_11 hx hb hd (hc v hv) (hc w hw) (kk ls hL)) k
theorem A.pop {v : AV} (hd : Dc M pc .pop 1 n) (k : AW M fr kb n L S h Rp) (hv : isL v = false := by rfl) : AW M fr kb pc L (v :: S) h Rp :=
  AW.go (fun hV _ => vok_t hV) (fun p l e R s m args below meth c Q G H locs cells slots ls hx hb _ _ _ _ hL kk => by
    obtain ⟨hd, rfl⟩ := hd
    have hc : (cv G v).category = 1 := by
      rcases lv_cat (cv G v) with q | q
      · exact q
      · rw [(isL_cat G v).mp q] at hv; cases hv
    exact lv_pop hx hb hd hc (kk ls hL)) k
/-! jumps and branches -/
def Dgo (M : MT) (pc t : Nat) : Prop := ∃ off : Int, decode (mB M) pc = .ok (.goto off, 3) ∧ (pc : Int) + off = (t : Int)
def Dif (M : MT) (pc : Nat) (cd : ClassFile.Cond) (t n : Nat) : Prop := ∃ off : Int, decode (mB M) pc = .ok (.ifCond cd off, 3) ∧ (pc : Int) + off = (t : Int) ∧ pc + 3 = n
def Dic (M : MT) (pc : Nat) (cd : ClassFile.Cond) (t n : Nat) : Prop := ∃ off : Int, decode (mB M) pc = .ok (.if_icmp cd off, 3) ∧ (pc : Int) + off = (t : Int) ∧ pc + 3 = n
theorem A.if_eq {x : Int} {t : Nat} (hd : Dif M pc .eq t n) (kt : x = 0 → AW M fr kb t L S h Rp) (kf : ¬ x = 0 → AW M fr kb n L S h Rp) : AW M fr kb pc L (vI x :: S) h Rp := by
  intro p l e R s m args below meth c Q G X H locs cells slots ls hH hS hL hV hc hs
  obtain ⟨off, hd, ht, rfl⟩ := hd
  have r1 := vok_h hV
  exact lv_if_eq X.1.1 X.1.2.1 hd ht (fun q => kt (by rw [i32_0] at q; (first | rw [i32_eq r1 (by omega)] at q | rw [i32_lt r1 (by omega)] at q | rw [i32_lt (by omega) r1] at q | rw [i32_le r1 (by omega)] at q | rw [i32_le (by omega) r1] at q); omega) p l e R s m args below meth c Q G X H locs cells slots ls hH hS hL (vok_t hV) hc hs)
    (fun q => kf (by rw [i32_0] at q; (first | rw [i32_eq r1 (by omega)] at q | rw [i32_lt r1 (by omega)] at q | rw [i32_lt (by omega) r1] at q | rw [i32_le r1 (by omega)] at q | rw [i32_le (by omega) r1] at q); omega) p l e R s m args below meth c Q G X H locs cells slots ls hH hS hL (vok_t hV) hc hs)
theorem A.ic_eq {x y : Int} {t : Nat} (hd : Dic M pc .eq t n) (kt : x = y → AW M fr kb t L S h Rp) (kf : ¬ x = y → AW M fr kb n L S h Rp) : AW M fr kb pc L (vI y :: vI x :: S) h Rp := by
  intro p l e R s m args below meth c Q G X H locs cells slots ls hH hS hL hV hc hs
  obtain ⟨off, hd, ht, rfl⟩ := hd
  have r1 := vok_h hV
  have r2 := vok_h (vok_t hV)
  exact lv_icmp_eq X.1.1 X.1.2.1 hd ht (fun q => kt (by (first | rw [i32_eq r2 r1] at q | rw [i32_lt r2 r1] at q | rw [i32_lt r1 r2] at q | rw [i32_le r2 r1] at q | rw [i32_le r1 r2] at q); omega) p l e R s m args below meth c Q G X H locs cells slots ls hH hS hL (vok_t (vok_t hV)) hc hs)
    (fun q => kf (by (first | rw [i32_eq r2 r1] at q | rw [i32_lt r2 r1] at q | rw [i32_lt r1 r2] at q | rw [i32_le r2 r1] at q | rw [i32_le r1 r2] at q); omega) p l e R s m args below meth c Q G X H locs cells slots ls hH hS hL (vok_t (vok_t hV)) hc hs)
theorem A.if_ne {x : Int} {t : Nat} (hd : Dif M pc .ne t n) (kt : ¬ x = 0 → AW M fr kb t L S h Rp) (kf : x = 0 → AW M fr kb n L S h Rp) : AW M fr kb pc L (vI x :: S) h Rp := by
  intro p l e R s m args below meth c Q G X H locs cells slots ls hH hS hL hV hc hs
  obtain ⟨off, hd, ht, rfl⟩ := hd
  have r1 := vok_h hV
  exact lv_if_ne X.1.1 X.1.2.1 hd ht (fun q => kt (by rw [i32_0] at q; (first | rw [i32_eq r1 (by omega)] at q | rw [i32_lt r1 (by omega)] at q | rw [i32_lt (by omega) r1] at q | rw [i32_le r1 (by omega)] at q | rw [i32_le (by omega) r1] at q); omega) p l e R s m args below meth c Q G X H locs cells slots ls hH hS hL (vok_t hV) hc hs)
    (fun q => kf (by rw [i32_0] at q; (first | rw [i32_eq r1 (by omega)] at q | rw [i32_lt r1 (by omega)] at q | rw [i32_lt (by omega) r1] at q | rw [i32_le r1 (by omega)] at q | rw [i32_le (by omega) r1] at q); omega) p l e R s m args below meth c Q G X H locs cells slots ls hH hS hL (vok_t hV) hc hs)
theorem A.ic_ne {x y : Int} {t : Nat} (hd : Dic M pc .ne t n) (kt : ¬ x = y → AW M fr kb t L S h Rp) (kf : x = y → AW M fr kb n L S h Rp) : AW M fr kb pc L (vI y :: vI x :: S) h Rp := by
  intro p l e R s m args below meth c Q G X H locs cells slots ls hH hS hL hV hc hs
  obtain ⟨off, hd, ht, rfl⟩ := hd
  have r1 := vok_h hV
  have r2 := vok_h (vok_t hV)
  exact lv_icmp_ne X.1.1 X.1.2.1 hd ht (fun q => kt (by (first | rw [i32_eq r2 r1] at q | rw [i32_lt r2 r1] at q | rw [i32_lt r1 r2] at q | rw [i32_le r2 r1] at q | rw [i32_le r1 r2] at q); omega) p l e R s m args below meth c Q G X H locs cells slots ls hH hS hL (vok_t (vok_t hV)) hc hs)
    (fun q => kf (by (first | rw [i32_eq r2 r1] at q | rw [i32_lt r2 r1] at q | rw [i32_lt r1 r2] at q | rw [i32_le r2 r1] at q | rw [i32_le r1 r2] at q); omega) p l e R s m args below meth c Q G X H locs cells slots ls hH hS hL (vok_t (vok_t hV)) hc hs)
theorem A.if_lt {x : Int} {t : Nat} (hd : Dif M pc .lt t n) (kt : x < 0 → AW M fr kb t L S h Rp) (kf : 0 ≤ x → AW M fr kb n L S h Rp) : AW M fr kb pc L (vI x :: S) h Rp := by
  intro p l e R s m args below meth c Q G X H locs cells slots ls hH hS hL hV hc hs
  obtain ⟨off, hd, ht, rfl⟩ := hd
  have r1 := vok_h hV
  exact lv_if_lt X.1.1 X.1.2.1 hd ht (fun q => kt (by rw [i32_0] at q; (first | rw [i32_eq r1 (by omega)] at q | rw [i32_lt r1 (by omega)] at q | rw [i32_lt (by omega) r1] at q | rw [i32_le r1 (by omega)] at q | rw [i32_le (by omega) r1] at q); omega) p l e R s m args below meth c Q G X H locs cells slots ls hH hS hL (vok_t hV) hc hs)
    (fun q => kf (by rw [i32_0] at q; (first | rw [i32_eq r1 (by omega)] at q | rw [i32_lt r1 (by omega)] at q | rw [i32_lt (by omega) r1] at q | rw [i32_le r1 (by omega)] at q | rw [i32_le (by omega) r1] at q); omega) p l e R s m args below meth c Q G X H locs cells slots ls hH hS hL (vok_t hV) hc hs)
theorem A.ic_lt {x y : Int} {t : Nat} (hd : Dic M pc .lt t n) (kt : x < y → AW M fr kb t L S h Rp) (kf : y ≤ x → AW M fr kb n L S h Rp) : AW M fr kb pc L (vI y :: vI x :: S) h Rp := by
  intro p l e R s m args below meth c Q G X H locs cells slots ls hH hS hL hV hc hs
  obtain ⟨off, hd, ht, rfl⟩ := hd
  have r1 := vok_h hV
  have r2 := vok_h (vok_t hV)
  exact lv_icmp_lt X.1.1 X.1.2.1 hd ht (fun q => kt (by (first | rw [i32_eq r2 r1] at q | rw [i32_lt r2 r1] at q | rw [i32_lt r1 r2] at q | rw [i32_le r2 r1] at q | rw [i32_le r1 r2] at q); omega) p l e R s m args below meth c Q G X H locs cells slots ls hH hS hL (vok_t (vok_t hV)) hc hs)
    (fun q => kf (by (first | rw [i32_eq r2 r1] at q | rw [i32_lt r2 r1] at q | rw [i32_lt r1 r2] at q | rw [i32_le r2 r1] at q | rw [i32_le r1 r2] at q); omega) p l e R s m args below meth c Q G X H locs cells slots ls hH hS hL (vok_t (vok_t hV)) hc hs)
theorem A.if_ge {x : Int} {t : Nat} (hd : Dif M pc .ge t n) (kt : 0 ≤ x → AW M fr kb t L S h Rp) (kf : x < 0 → AW M fr kb n L S h Rp) : AW M fr kb pc L (vI x :: S) h Rp := by
  intro p l e R s m args below meth c Q G X H locs cells slots ls hH hS hL hV hc hs
  obtain ⟨off, hd, ht, rfl⟩ := hd
  have r1 := vok_h hV
  exact lv_if_ge X.1.1 X.1.2.1 hd ht (fun q => kt (by rw [i32_0] at q; (first | rw [i32_eq r1 (by omega)] at q | rw [i32_lt r1 (by omega)] at q | rw [i32_lt (by omega) r1] at q | rw [i32_le r1 (by omega)] at q | rw [i32_le (by omega) r1] at q); omega) p l e R s m args below meth c Q G X H locs cells slots ls hH hS hL (vok_t hV) hc hs)
    (fun q => kf (by rw [i32_0] at q; (first | rw [i32_eq r1 (by omega)] at q | rw [i32_lt r1 (by omega)] at q | rw [i32_lt (by omega) r1] at q | rw [i32_le r1 (by omega)] at q | rw [i32_le (by omega) r1] at q); omega) p l e R s m args below meth c Q G X H locs cells slots ls hH hS hL (vok_t hV) hc hs)
theorem A.ic_ge {x y : Int} {t : Nat} (hd : Dic M pc .ge t n) (kt : y ≤ x → AW M fr kb t L S h Rp) (kf : x < y → AW M fr kb n L S h Rp) : AW M fr kb pc L (vI y :: vI x :: S) h Rp := by
  intro p l e R s m args below meth c Q G X H locs cells slots ls hH hS hL hV hc hs
  obtain ⟨off, hd, ht, rfl⟩ := hd
  have r1 := vok_h hV
  have r2 := vok_h (vok_t hV)
  exact lv_icmp_ge X.1.1 X.1.2.1 hd ht (fun q => kt (by (first | rw [i32_eq r2 r1] at q | rw [i32_lt r2 r1] at q | rw [i32_lt r1 r2] at q | rw [i32_le r2 r1] at q | rw [i32_le r1 r2] at q); omega) p l e R s m args below meth c Q G X H locs cells slots ls hH hS hL (vok_t (vok_t hV)) hc hs)
    (fun q => kf (by (first | rw [i32_eq r2 r1] at q | rw [i32_lt r2 r1] at q | rw [i32_lt r1 r2] at q | rw [i32_le r2 r1] at q | rw [i32_le r1 r2] at q); omega) p l e R s m args below meth c Q G X H locs cells slots ls hH hS hL (vok_t (vok_t hV)) hc hs)
theorem A.if_gt {x : Int} {t : Nat} (hd : Dif M pc .gt t n) (kt : 0 < x → AW M fr kb t L S h Rp) (kf : x ≤ 0 → AW M fr kb n L S h Rp) : AW M fr kb pc L (vI x :: S) h Rp := by
  intro p l e R s m args below meth c Q G X H locs cells slots ls hH hS hL hV hc hs
  obtain ⟨off, hd, ht, rfl⟩ := hd
  have r1 := vok_h hV
  exact lv_if_gt X.1.1 X.1.2.1 hd ht (fun q => kt (by rw [i32_0] at q; (first | rw [i32_eq r1 (by omega)] at q | rw [i32_lt r1 (by omega)] at q | rw [i32_lt (by omega) r1] at q | rw [i32_le r1 (by omega)] at q | rw [i32_le (by omega) r1] at q); omega) p l e R s m args below meth c Q G X H locs cells slots ls hH hS hL (vok_t hV) hc hs)
    (fun q => kf (by rw [i32_0] at q; (first | rw [i32_eq r1 (by omega)] at q | rw [i32_lt r1 (by omega)] at q | rw [i32_lt (by omega) r1] at q | rw [i32_le r1 (by omega)] at q | rw [i32_le (by omega) r1] at q); omega) p l e R s m args below meth c Q G X H locs cells slots ls hH hS hL (vok_t hV) hc hs)
theorem A.ic_gt {x y : Int} {t : Nat} (hd : Dic M pc .gt t n) (kt : y < x → AW M fr kb t L S h Rp) (kf : x ≤ y → AW M fr kb n L S h Rp) : AW M fr kb pc L (vI y :: vI x :: S) h Rp := by
  intro p l e R s m args below meth c Q G X H locs cells slots ls hH hS hL hV hc hs
  obtain ⟨off, hd, ht, rfl⟩ := hd
  have r1 := vok_h hV
  have r2 := vok_h (vok_t hV)
  exact lv_icmp_gt X.1.1 X.1.2.1 hd ht (fun q => kt (by (first | rw [i32_eq r2 r1] at q | rw [i32_lt r2 r1] at q | rw [i32_lt r1 r2] at q | rw [i32_le r2 r1] at q | rw [i32_le r1 r2] at q); omega) p l e R s m args below meth c Q G X H locs cells slots ls hH hS hL (vok_t (vok_t hV)) hc hs)
    (fun q => kf (by (first | rw [i32_eq r2 r1] at q | rw [i32_lt r2 r1] at q | rw [i32_lt r1 r2] at q | rw [i32_le r2 r1] at q | rw [i32_le r1 r2] at q); omega) p l e R s m args below meth c Q G X H locs cells slots ls hH hS hL (vok_t (vok_t hV)) hc hs)
theorem A.if_le {x : Int} {t : Nat} (hd : Dif M pc .le t n) (kt : x ≤ 0 → AW M fr kb t L S h Rp) (kf : 0 < x → AW M fr kb n L S h Rp) : AW M fr kb pc L (vI x :: S) h Rp := by
  intro p l e R s m args below meth c Q G X H locs cells slots ls hH hS hL hV hc hs
  obtain ⟨off, hd, ht, rfl⟩ := hd
  have r1 := vok_h hV
  exact lv_if_le X.1.1 X.1.2.1 hd ht (fun q => kt (by rw [i32_0] at q; (first | rw [i32_eq r1 (by omega)] at q | rw [i32_lt r1 (by omega)] at q | rw [i32_lt (by omega) r1] at q | rw [i32_le r1 (by omega)] at q | rw [i32_le (by omega) r1] at q); omega) p l e R s m args below meth c Q G X H locs cells slots ls hH hS hL (vok_t hV) hc hs)
    (fun q => kf (by rw [i32_0] at q; (first | rw [i32_eq r1 (by omega)] at q | rw [i32_lt r1 (by omega)] at q | rw [i32_lt (by omega) r1] at q | rw [i32_le r1 (by omega)] at q | rw [i32_le (by omega) r1] at q); omega) p l e R s m args below meth c Q G X H locs cells slots ls hH hS hL (vok_t hV) hc hs)
theorem A.ic_le {x y : Int} {t : Nat} (hd : Dic M pc .le t n) (kt : x ≤ y → AW M fr kb t L S h Rp) (kf : y < x → AW M fr kb n L S h Rp) : AW M fr kb pc L (vI y :: vI x :: S) h Rp := by
  intro p l e R s m args below meth c Q G X H locs cells slots ls hH hS hL hV hc hs
  obtain ⟨off, hd, ht, rfl⟩ := hd
  have r1 := vok_h hV
  have r2 := vok_h (vok_t hV)
  exact lv_icmp_le X.1.1 X.1.2.1 hd ht (fun q => kt (by (first | rw [i32_eq r2 r1] at q | rw [i32_lt r2 r1] at q | rw [i32_lt r1 r2] at q | rw [i32_le r2 r1] at q | rw [i32_le r1 r2] at q); omega) p l e R s m args below meth c Q G X H locs cells slots ls hH hS hL (vok_t (vok_t hV)) hc hs)
    (fun q => kf (by (first | rw [i32_eq r2 r1] at q | rw [i32_lt r2 r1] at q | rw [i32_lt r1 r2] at q | rw [i32_le r2 r1] at q | rw [i32_le r1 r2] at q); omega) p l e R s m args below meth c Q G X H locs cells slots ls hH hS hL (vok_t (vok_t hV)) hc hs)
theorem A.goto {t : Nat} (hd : Dgo M pc t) (k : AW M fr kb t L S h Rp) : AW M fr kb pc L S h Rp := by
  obtain ⟨off, hd, ht⟩ := hd
  exact AW.go (fun hV _ => hV) (fun p l e R s m args below meth c Q G H locs cells slots ls hx hb _ _ _ _ hL kk => lv_goto hx hb hd ht (kk ls hL)) k
/-- a switch over lo, lo + 1 .. : its targets, in their order -/
def TSW (M : MT) (fr : Nat) (kb : Nat × Nat) (L : List (Option AV)) (S : List AV) (h : AH) (Rp : RP) (x : Int) : Int → List Nat → Prop
  | _, [] => True
  | lo, t :: ts => (x = lo → AW M fr kb t L S h Rp) ∧ TSW M fr kb L S h Rp x (lo + 1) ts
theorem TSW.get {x : Int} : ∀ (ts : List Nat) (lo : Int) (i t : Nat), TSW M fr kb L S h Rp x lo ts → ts[i]? = some t → x = lo + i → AW M fr kb t L S h Rp := by
  intro ts
  induction ts with
  | nil => intro lo i t _ h1; simp at h1
  | cons a ts ih =>
    intro lo i t hT h1 h2
    cases i with
    | zero =>
      have : a = t := by simpa using h1
      subst this
      exact hT.1 (by omega)
    | succ i => exact ih (lo + 1) i t hT.2 (by simpa using h1) (by omega)
def Dts (M : MT) (pc : Nat) (lo : Int) (ts : List Nat) (td : Nat) : Prop := ∃ (dflt hi : Int) (offs : Array Int) (len : Nat), decode (mB M) pc = .ok (.tableswitch dflt lo hi offs, len) ∧ (pc : Int) + dflt = (td : Int) ∧ hi + 1 = lo + ts.length ∧ offs.size = ts.length ∧ ∀ i : Fin ts.length, offs[(i : Nat)]?.map (fun o => (pc : Int) + o) = some (ts[i] : Int)
theorem A.tsw {x lo : Int} {ts : List Nat} {td : Nat} (hd : Dts M pc lo ts td) (kt : TSW M fr kb L S h Rp x lo ts) (kd : x < lo ∨ lo + ts.length ≤ x → AW M fr kb td L S h Rp) : AW M fr kb pc L (vI x :: S) h Rp := by
  intro p l e R s m args below meth c Q G X H locs cells slots ls hH hS hL hV hc hs
  obtain ⟨dflt, hi, offs, len, hd, htd, hhi, hsz, hto⟩ := hd
  have r1 : (Int32.ofInt x).toInt = x := of_i32 (vok_h hV)
  by_cases hin : x < lo ∨ hi < x
  · exact lv_tableOut X.1.1 X.1.2.1 hd (by rw [r1]; exact hin) htd (kd (by omega) p l e R s m args below meth c Q G X H locs cells slots ls hH hS hL (vok_t hV) hc hs)
  · have hlt : (x - lo).toNat < ts.length := by omega
    have h1 := hto ⟨(x - lo).toNat, hlt⟩
    obtain ⟨o, ho, hoe⟩ := Option.map_eq_some_iff.mp h1
    exact lv_tableIn X.1.1 X.1.2.1 hd (by rw [r1]; omega) (by rw [r1]; omega) (by rw [r1]; exact ho) hoe (TSW.get ts lo (x - lo).toNat _ kt (by simp [hlt]) (by omega) p l e R s m args below meth c Q G X H locs cells slots ls hH hS hL (vok_t hV) hc hs)
/-! a truth of a call, as an int -/
noncomputable def bi (P : Prop) : Int := @ite Int P (Classical.propDecidable P) 1 0
theorem bi_t {P : Prop} (h : P) : bi P = 1 := @if_pos P (Classical.propDecidable P) h Int 1 0
theorem bi_f {P : Prop} (h : ¬ P) : bi P = 0 := @if_neg P (Classical.propDecidable P) h Int 1 0
theorem bi_1 {P : Prop} : bi P = 1 ↔ P := by
  rcases Classical.em P with h | h
  · rw [bi_t h]; exact ⟨fun _ => h, fun _ => rfl⟩
  · rw [bi_f h]; exact ⟨fun q => absurd q (by decide), fun q => absurd q h⟩
theorem bi_0 {P : Prop} : bi P = 0 ↔ ¬ P := by
  rcases Classical.em P with h | h
  · rw [bi_t h]; exact ⟨fun q => absurd q (by decide), fun q => absurd h q⟩
  · rw [bi_f h]; exact ⟨fun _ => h, fun _ => rfl⟩
theorem bi_rng (P : Prop) : 0 ≤ bi P ∧ bi P ≤ 1 := by
  rcases Classical.em P with h | h
  · rw [bi_t h]; decide
  · rw [bi_f h]; decide
theorem A.bz_eq {P : Prop} {t : Nat} (hd : Dif M pc .eq t n) (kt : ¬ P → AW M fr kb t L S h Rp) (kf : P → AW M fr kb n L S h Rp) : AW M fr kb pc L (vI (bi P) :: S) h Rp :=
  A.if_eq hd (fun q => kt (bi_0.mp q)) (fun q => kf (Classical.byContradiction fun z => q (bi_f z)))
theorem A.bz_ne {P : Prop} {t : Nat} (hd : Dif M pc .ne t n) (kt : P → AW M fr kb t L S h Rp) (kf : ¬ P → AW M fr kb n L S h Rp) : AW M fr kb pc L (vI (bi P) :: S) h Rp :=
  A.if_ne hd (fun q => kt (Classical.byContradiction fun z => q (bi_f z))) (fun q => kf (bi_0.mp q))
end ROWS
end
section
/-! ===== the abstract machine's rows: fields, arrays, new cells, returns ===== -/
def FL (own : String) (idx ci k : Nat) : Prop := ∃ (C : String) (T : u_T) (N : Nat), vwCl[ci]? = some (C, T, N) ∧ k < N ∧ (∀ w ∈ u_ws C T N, w ∈ tG) ∧ Jvm.Cond.fieldLink own idx (T k).1 (T k).2.1 (T k).2.2.1 ∈ tG
/-- what a store needs to know of a field, beside its link: type, final or not, whose it is -/
def FP (own : String) (ci k : Nat) (ty : FieldType) (fin : Bool) : Prop := ∃ (C : String) (T : u_T) (N : Nat) (ty0 : Nat → FieldType), vwCl[ci]? = some (C, T, N) ∧ (∀ j, j < N → parseFieldDescriptor (T j).2.2.1 = some (ty0 j)) ∧ (∀ a, a < N → ∀ b, b < N → a ≠ b → (T a).2.1 ≠ (T b).2.1) ∧ parseFieldDescriptor (T k).2.2.1 = some ty ∧ (T k).2.2.2 = fin ∧ (fin = true → (T k).1 = own)
def tyOK (ty : FieldType) (v : AV) : Prop := match ty, v with
  | .int, .inl _ => True
  | .long, .inr (.inr (.inl _)) => True
  | .object _, .inr (.inl _) => True
  | .array _, .inr (.inl _) => True
  | _, _ => False
theorem tyOK.fits {ty : FieldType} {v : AV} (G : GD) (h : tyOK ty v) : narrow ty (cv G v) = cv G v ∧ fits ty (cv G v) = true := by
  cases ty <;> rcases v with z | r | x | b <;> first | exact absurd h (fun q => q) | exact ⟨rfl, rfl⟩ | (cases r <;> exact ⟨rfl, rfl⟩)
theorem P1 {D : va_G} {q : Nat × va_E} {H : Heap} (h : va_at D vwCl q H) : va_P D vwCl [q] H := fun k x hx => by
  match k, hx with
  | 0, hx => cases hx; exact h
  | k + 1, hx => simp at hx
theorem GK.arr {G : GD} {s : State} (hK : GK G s) (ty : Nat) : ArrOfT s (gC G ty) (tyF ty) ∧ va_RA s (gC G ty) (tyF ty) := by
  match ty with
  | 0 => exact hK.1.2 0 _ rfl
  | 1 => exact hK.1.2 1 _ rfl
  | ty + 2 => exact hK.1.2 2 _ rfl
theorem GK.arq {G : GD} {s : State} (hK : GK G s) : ArrOfT s (gQ G) (.object RX1) ∧ va_RA s (gQ G) (.object RX1) := hK.1.2 3 _ rfl
theorem map_get (G : GD) {fs : List AV} {k : Nat} {v : AV} (h : fs[k]? = some v) : (fs.map (cv G))[k]? = some (cv G v) := by rw [List.getElem?_map, h]; rfl
theorem cell_set (cA : ClassId) (N : Nat) (f : Int → Int) {i v : Int} {x : Value} (h0 : 0 ≤ i) (h1 : i < N) (hi : -2147483648 ≤ i ∧ i ≤ 2147483647) (hx : x = .int (Int32.ofInt v)) :
    (vp_cell cA (N, .inl (fun j : Nat => Int32.ofInt (f j)))).setSlot (Int32.ofInt i).toNatClampNeg x = vp_cell cA (N, .inl (fun j : Nat => Int32.ofInt (fset f i v j))) := by
  subst hx
  rw [vp_cell_i, vp_cell_i, arrV_store, i32_cl hi]
  congr 1
  funext q
  by_cases hq : q = i.toNat
  · have e : (q : Int) = i := by omega
    simp only [updV, fset, if_pos hq, if_pos e]
  · have e : ¬ (q : Int) = i := by omega
    simp [updV, fset, hq, e]
theorem cell_setq (cA : ClassId) (N : Nat) (g : Int → Option Nat) {i : Int} {r : Option Nat} (h0 : 0 ≤ i) (h1 : i < N) (hi : -2147483648 ≤ i ∧ i ≤ 2147483647) :
    (vp_cell cA (N, .inr (.inr (.inr (.inr (fun j : Nat => g j)))))).setSlot (Int32.ofInt i).toNatClampNeg (va_rf r) = vp_cell cA (N, .inr (.inr (.inr (.inr (fun j : Nat => gset g i r j))))) := by
  rw [vp_cell_q, vp_cell_q, arrV_store, i32_cl hi]
  congr 1
  funext q
  by_cases hq : q = i.toNat
  · have e : (q : Int) = i := by omega
    simp only [updV, gset, if_pos hq, if_pos e]
  · have e : ¬ (q : Int) = i := by omega
    simp [updV, gset, hq, e]
theorem Fr.put {h : AH} {a : Nat} {c : AC} : Fr h (hput h a c) a 1 := ⟨rfl, fun q hq => by
  have e : ¬ q = a := fun e => hq ⟨by omega, by omega⟩
  simp [hput, e]⟩
theorem hput_at {h : AH} {a : Nat} {c : AC} : (hput h a c).2 a = some c := by simp [hput]
section CELLS
variable {M : MT} {fr : Nat} {kb : Nat × Nat} {pc n : Nat} {L : List (Option AV)} {S : List AV} {h : AH} {Rp : RP}
def Dgf (M : MT) (pc ci k n : Nat) : Prop := ∃ idx : Nat, decode (mB M) pc = .ok (.getfield idx, 3) ∧ FL (mY M).cls idx ci k ∧ pc + 3 = n
def Dpf (M : MT) (pc ci k : Nat) (ty : FieldType) (fin : Bool) (n : Nat) : Prop := ∃ idx : Nat, decode (mB M) pc = .ok (.putfield idx, 3) ∧ FL (mY M).cls idx ci k ∧ FP (mY M).cls ci k ty fin ∧ pc + 3 = n
theorem A.getf {a ci k : Nat} {fs : List AV} {v : AV} (hd : Dgf M pc ci k n) (kk : AW M fr kb n L (v :: S) h Rp) (hc : h.2 a = some (kO ci fs) := by assumption) (hv : fs[k]? = some v := by rfl) : AW M fr kb pc L (vR a :: S) h Rp := by
  intro p l e R s m args below meth c Q G X H locs cells slots ls hH hS hL hV hcl hsl
  obtain ⟨idx, hd, ⟨C, T, N, h1, h2, h3, h4⟩, rfl⟩ := hd
  obtain ⟨g1, g2, g3⟩ := hH.2.1 a _ hc
  exact va_get (D := G.1) (ci := ci) (v := cv G v) (C := C) (T := T) (N := N) X.1.1 X.1.2.1 X.1.2.2.2.2 h3 X.1.2.2.2.1 X.2.1.1.1 (P1 g1) 0 rfl h1 k h2 (X.1.2.2.2.2 _ h4) (fun _ q => q) (map_get G hv) hd (kk p l e R s m args below meth c Q G X H locs cells slots ls hH hS hL (vok_c (g2 v (List.mem_of_getElem? hv)) (vok_t hV)) hcl hsl)
theorem vok_set {fs : List AV} {k : Nat} {v : AV} (h : ∀ w ∈ fs, vok w) (hv : vok v) : ∀ w ∈ fs.set k v, vok w := fun w hw => by
  rcases List.mem_or_eq_of_mem_set hw with q | q
  · exact h w q
  · rw [q]; exact hv
theorem A.putf {a ci k : Nat} {fs : List AV} {v : AV} {ty : FieldType} (hd : Dpf M pc ci k ty false n) (kk : ∀ h' : AH, h'.2 a = some (kO ci (fs.set k v)) → Fr h h' a 1 → AW M fr kb n L S h' Rp) (hc : h.2 a = some (kO ci fs) := by assumption) (hk : k < fs.length := by decide) (ht : tyOK ty v := by trivial) : AW M fr kb pc L (v :: vR a :: S) h Rp := by
  intro p l e R s m args below meth c Q G X H locs cells slots ls hH hS hL hV hcl hsl
  obtain ⟨idx, hd, ⟨C, T, N, h1, h2, h3, h4⟩, ⟨C', T', N', ty0, f1, f2, f3, f4, f5, -⟩, rfl⟩ := hd
  cases h1.symm.trans f1
  obtain ⟨g1, g2, g3⟩ := hH.2.1 a _ hc
  have hts := X.1.2.2.2.2
  have hap := va_apart (own := (mY M).cls) hts h3 ty0 f2 f3 X.2.1.1.1 h1
  obtain ⟨r, q0, cell, q1, q2, q3, q4⟩ := id g1
  have hr : r = (C, T, N) := Option.some.inj (q0.symm.trans h1)
  subst hr
  obtain ⟨hSl, hfc, kC, hkC, hkind⟩ := X.2.1.1.1.1 ci _ h1
  obtain ⟨cf, kf, fi, f, hi, hsl'⟩ := hSl k h2
  have hlay := hts _ (h3 _ (u_in_lay h2))
  unfold u_lay at hlay
  rw [if_neg (by rw [f5]; decide)] at hlay
  have hst := (u_facts hfc hkC (u_lays hts h3 h2) hi).1
  have h6 := u_store hfc hkC hkind hlay hi f4 (ht.fits G).1 (ht.fits G).2
  refine W.putK X.1.1 X.1.2.1 (f := f) ⟨X.1.2.2.2.1, hts _ h4, ⟨_, _, _, hi⟩, hst⟩ (by rw [q2]; exact h6) q1 q3 (by rw [hsl']; exact k2_hasslot (q4 k h2)) rfl rfl hd fun H' e1 e2 e3 => ?_
  rw [hsl'] at e1 ⊢
  have hat : va_at G.1 vwCl (a, enc G (kO ci (fs.set k v))) H' := by
    refine ⟨_, h1, t_OB.to (V := updV (vp_V (fs.map (cv G))) k (cv G v)) ⟨_, e1, q2, q3, t_set q4 hap h2 _⟩ (fun j _ => ?_)⟩
    rw [vp_updV_set (by simpa using hk)]
    show vp_V ((fs.map (cv G)).set k (cv G v)) j = vp_V ((fs.set k v).map (cv G)) j
    rw [List.map_set]
  exact kk (hput h a (kO ci (fs.set k v))) hput_at Fr.put p l e R s m args below meth c Q G X H' _ cells slots ls (hH.store hc e2 e3 hat (vok_set g2 (vok_h hV))) (hS.put e2 e3 g3) hL (vok_t (vok_t hV)) hcl hsl
theorem A.putF {a ci k : Nat} {fs : List AV} {v : AV} {ty : FieldType} (hd : Dpf M pc ci k ty true n) (kk : ∀ h' : AH, h'.2 a = some (kO ci (fs.set k v)) → Fr h h' a 1 → AW M fr kb n L S h' Rp) (hI : mI M = true := by rfl) (hc : h.2 a = some (kO ci fs) := by assumption) (hk : k < fs.length := by decide) (ht : tyOK ty v := by trivial) : AW M fr kb pc L (v :: vR a :: S) h Rp := by
  intro p l e R s m args below meth c Q G X H locs cells slots ls hH hS hL hV hcl hsl
  obtain ⟨idx, hd, ⟨C, T, N, h1, h2, h3, h4⟩, ⟨C', T', N', ty0, f1, f2, f3, f4, f5, f6⟩, rfl⟩ := hd
  cases h1.symm.trans f1
  obtain ⟨g1, g2, g3⟩ := hH.2.1 a _ hc
  have hts := X.1.2.2.2.2
  have hap := va_apart (own := (mY M).cls) hts h3 ty0 f2 f3 X.2.1.1.1 h1
  obtain ⟨r, q0, cell, q1, q2, q3, q4⟩ := id g1
  have hr : r = (C, T, N) := Option.some.inj (q0.symm.trans h1)
  subst hr
  obtain ⟨hSl, hfc, kC, hkC, hkind⟩ := X.2.1.1.1.1 ci _ h1
  obtain ⟨cf, kf, fi, f, hi, hsl'⟩ := hSl k h2
  have hlay := hts _ (h3 _ (u_in_lay h2))
  unfold u_lay at hlay
  rw [if_pos f5] at hlay
  have hst := (u_facts hfc hkC (u_lays hts h3 h2) hi).1
  have hcf : m.cls = cf := by
    obtain ⟨_, _, c', _, _, _, -, -, hf', -, -, -, hown2, -⟩ := Cond.laysFinal_spec hlay
    have e1 : c' = cf := by have := hi.symm.trans hf'; simp at this; exact this.1.symm
    rw [f6 rfl] at hown2
    rw [← e1]; exact Option.some.inj (X.1.2.2.2.1.symm.trans hown2)
  have h6 := u_fits hfc hkC hkind (Or.inr hlay) hi f4 (ht.fits G).1 (ht.fits G).2
  refine W.putFinK X.1.1 X.1.2.1 X.1.2.2.2.1 (hts _ h4) hi hst hcf (X.2.1.2.2.1 hI) (by rw [q2]; exact h6) q1 q3 (by rw [hsl']; exact k2_hasslot (q4 k h2)) rfl rfl hd fun H' e1 e2 e3 => ?_
  rw [hsl'] at e1 ⊢
  have hat : va_at G.1 vwCl (a, enc G (kO ci (fs.set k v))) H' := by
    refine ⟨_, h1, t_OB.to (V := updV (vp_V (fs.map (cv G))) k (cv G v)) ⟨_, e1, q2, q3, t_set q4 hap h2 _⟩ (fun j _ => ?_)⟩
    rw [vp_updV_set (by simpa using hk)]
    show vp_V ((fs.map (cv G)).set k (cv G v)) j = vp_V ((fs.set k v).map (cv G)) j
    rw [List.map_set]
  exact kk (hput h a (kO ci (fs.set k v))) hput_at Fr.put p l e R s m args below meth c Q G X H' _ cells slots ls (hH.store hc e2 e3 hat (vok_set g2 (vok_h hV))) (hS.put e2 e3 g3) hL (vok_t (vok_t hV)) hcl hsl
/-! arrays -/
theorem i32_idx {i : Int} (h0 : 0 ≤ i) (hi : -2147483648 ≤ i ∧ i ≤ 2147483647) : (((Int32.ofInt i).toNatClampNeg : Nat) : Int) = i := by
  rw [i32_cl hi]; omega
theorem vin_vok {ty : Nat} {z : Int} (h : vin ty z) : vok (vI z) := by
  match ty, h with
  | 0, h => exact h
  | 1, h => exact ⟨by have := h.1; omega, by have := h.2; omega⟩
  | ty + 2, h => exact ⟨by have := h.1; omega, by have := h.2; omega⟩
theorem cok_at {ty N : Nat} {f : Int → Int} {i : Int} (h : cok (kA ty N f)) (h0 : 0 ≤ i) (h1 : i < N) : vok (vI (f i)) := by
  have := h.2 i.toNat (by omega)
  rw [show ((i.toNat : Nat) : Int) = i by omega] at this
  exact vin_vok this
theorem A.iald {a N : Nat} {f : Int → Int} {i : Int} (hd : Dc M pc .iaload 1 n) (kk : AW M fr kb n L (vI (f i) :: S) h Rp) (hc : h.2 a = some (kA 0 N f) := by assumption) (h0 : 0 ≤ i := by omega) (h1 : i < N := by omega) : AW M fr kb pc L (vI i :: vR a :: S) h Rp := by
  intro p l e R s m args below meth c Q G X H locs cells slots ls hH hS hL hV hcl hsl
  obtain ⟨hd, rfl⟩ := hd
  obtain ⟨g1, g2, g3⟩ := hH.2.1 a _ hc
  have k1 := kk p l e R s m args below meth c Q G X H locs cells slots ls hH hS hL (vok_c (cok_at g2 h0 h1) (vok_t (vok_t hV))) hcl hsl
  refine va_iald X.1.1 X.1.2.1 X.2.1.1.1 (P1 g1) 0 0 rfl rfl (i32_in h0 h1 g2.1) hd ?_
  rw [i32_idx h0 (vok_h hV)]
  exact k1
theorem A.bald {a N ty : Nat} {f : Int → Int} {i : Int} (hd : Dc M pc .baload 1 n) (kk : AW M fr kb n L (vI (f i) :: S) h Rp) (hc : h.2 a = some (kA ty N f) := by assumption) (h0 : 0 ≤ i := by omega) (h1 : i < N := by omega) (hty : ty = 1 ∨ ty = 2 := by decide) : AW M fr kb pc L (vI i :: vR a :: S) h Rp := by
  intro p l e R s m args below meth c Q G X H locs cells slots ls hH hS hL hV hcl hsl
  obtain ⟨hd, rfl⟩ := hd
  obtain ⟨g1, g2, g3⟩ := hH.2.1 a _ hc
  have k1 := kk p l e R s m args below meth c Q G X H locs cells slots ls hH hS hL (vok_c (cok_at g2 h0 h1) (vok_t (vok_t hV))) hcl hsl
  rcases hty with rfl | rfl
  · refine va_bald X.1.1 X.1.2.1 X.2.1.1.1 (P1 g1) 0 1 rfl rfl (i32_in h0 h1 g2.1) hd ?_
    rw [i32_idx h0 (vok_h hV)]
    exact k1
  · refine va_zald X.1.1 X.1.2.1 X.2.1.1.1 (P1 g1) 0 2 rfl rfl (i32_in h0 h1 g2.1) hd ?_
    rw [i32_idx h0 (vok_h hV)]
    exact k1
theorem A.qald {a N : Nat} {g : Int → Option Nat} {i : Int} {b : Nat} (hd : Dc M pc .aaload 1 n) (hg : g i = some b) (kk : AW M fr kb n L (vR b :: S) h Rp) (hc : h.2 a = some (kQ N g) := by assumption) (h0 : 0 ≤ i := by omega) (h1 : i < N := by omega) : AW M fr kb pc L (vI i :: vR a :: S) h Rp := by
  intro p l e R s m args below meth c Q G X H locs cells slots ls hH hS hL hV hcl hsl
  obtain ⟨hd, rfl⟩ := hd
  obtain ⟨g1, g2, g3⟩ := hH.2.1 a _ hc
  have k1 := kk p l e R s m args below meth c Q G X H locs cells slots ls hH hS hL (vok_c (v := vR b) trivial (vok_t (vok_t hV))) hcl hsl
  refine va_aldq X.1.1 X.1.2.1 X.2.1.1.1 (P1 g1) 0 3 rfl rfl (i32_in h0 h1 g2) hd ?_
  rw [i32_idx h0 (vok_h hV), hg]
  exact k1
theorem A.alen {a N : Nat} {ty : Nat} {f : Int → Int} (hd : Dc M pc .arraylength 1 n) (kk : AW M fr kb n L (vI N :: S) h Rp) (hc : h.2 a = some (kA ty N f) := by assumption) : AW M fr kb pc L (vR a :: S) h Rp := by
  intro p l e R s m args below meth c Q G X H locs cells slots ls hH hS hL hV hcl hsl
  obtain ⟨hd, rfl⟩ := hd
  obtain ⟨g1, g2, g3⟩ := hH.2.1 a _ hc
  have hN := g2.1
  have k1 := kk p l e R s m args below meth c Q G X H locs cells slots ls hH hS hL (vok_ci (by omega) (vok_t hV)) hcl hsl
  have hv : Int32.ofNat N = Int32.ofInt (N : Int) := Int32.ofInt_eq_ofNat.symm
  match ty, g1 with
  | 0, g1 => exact va_alen X.1.1 X.1.2.1 X.2.1.1.1 (P1 g1) 0 0 rfl rfl hv hd k1
  | 1, g1 => exact va_alen X.1.1 X.1.2.1 X.2.1.1.1 (P1 g1) 0 1 rfl rfl hv hd k1
  | ty + 2, g1 => exact va_alen X.1.1 X.1.2.1 X.2.1.1.1 (P1 g1) 0 2 rfl rfl hv hd k1
theorem fset_in {ty N : Nat} {f : Int → Int} {i v : Int} (h : ∀ j : Nat, j < N → vin ty (f j)) (hv : vin ty v) : ∀ j : Nat, j < N → vin ty (fset f i v j) := fun j hj => by
  unfold fset
  by_cases e : (j : Int) = i
  · rw [if_pos e]; exact hv
  · rw [if_neg e]; exact h j hj
theorem A.iast {a N : Nat} {f : Int → Int} {i v : Int} (hd : Dc M pc .iastore 1 n) (kk : ∀ h' : AH, h'.2 a = some (kA 0 N (fset f i v)) → Fr h h' a 1 → AW M fr kb n L S h' Rp) (hc : h.2 a = some (kA 0 N f) := by assumption) (h0 : 0 ≤ i := by omega) (h1 : i < N := by omega) : AW M fr kb pc L (vI v :: vI i :: vR a :: S) h Rp := by
  intro p l e R s m args below meth c Q G X H locs cells slots ls hH hS hL hV hcl hsl
  obtain ⟨hd, rfl⟩ := hd
  obtain ⟨g1, g2, g3⟩ := hH.2.1 a _ hc
  have hv := vok_h hV
  have hi := vok_h (vok_t hV)
  refine W.iast X.1.1 X.1.2.1 g1 ((X.2.1.1.arr 0).1 N _) (fun q => by cases q) (by show ¬ (_ ∨ (arrV _ _ _).slots.size ≤ _); rw [arrV_size]; exact i32_in h0 h1 g2.1) rfl rfl hd fun H1 e1 z oq => ?_
  exact kk _ hput_at Fr.put p l e R s m args below meth c Q G X H1 _ cells slots ls (hH.store hc z oq (by show H1[a]? = _; rw [e1, cell_set _ _ _ h0 h1 hi rfl]) ⟨g2.1, fset_in g2.2 hv⟩) (hS.put z oq g3) hL (vok_t (vok_t (vok_t hV))) hcl hsl
theorem nar_byte {v : Int} (h : -128 ≤ v ∧ v ≤ 127) : narrow .byte (.int (Int32.ofInt v)) = .int (Int32.ofInt v) := by
  show Value.int (Int32.ofInt v).toInt8.toInt32 = _
  congr 1
  rw [← Int32.toInt_inj, Int8.toInt_toInt32, Int32.toInt_toInt8, of_i32 (by omega)]
  exact Int.bmod_eq_of_le (by omega) (by omega)
theorem nar_bool {v : Int} (h : 0 ≤ v ∧ v ≤ 1) : narrow .boolean (.int (Int32.ofInt v)) = .int (Int32.ofInt v) := by
  rcases (by omega : v = 0 ∨ v = 1) with rfl | rfl <;> rfl
theorem A.bast {a N ty : Nat} {f : Int → Int} {i v : Int} (hd : Dc M pc .bastore 1 n) (kk : ∀ h' : AH, h'.2 a = some (kA ty N (fset f i v)) → Fr h h' a 1 → AW M fr kb n L S h' Rp) (hc : h.2 a = some (kA ty N f) := by assumption) (h0 : 0 ≤ i := by omega) (h1 : i < N := by omega) (hv : (ty = 1 ∧ -128 ≤ v ∧ v ≤ 127) ∨ (ty = 2 ∧ 0 ≤ v ∧ v ≤ 1) := by omega) : AW M fr kb pc L (vI v :: vI i :: vR a :: S) h Rp := by
  intro p l e R s m args below meth c Q G X H locs cells slots ls hH hS hL hV hcl hsl
  obtain ⟨hd, rfl⟩ := hd
  obtain ⟨g1, g2, g3⟩ := hH.2.1 a _ hc
  have hi := vok_h (vok_t hV)
  rcases hv with ⟨rfl, hv⟩ | ⟨rfl, hv⟩
  · refine W.bast X.1.1 X.1.2.1 g1 ((X.2.1.1.arr 1).1 N _) (fun q => by cases q) (by show ¬ (_ ∨ (arrV _ _ _).slots.size ≤ _); rw [arrV_size]; exact i32_in h0 h1 g2.1) rfl rfl hd fun H1 e1 z oq => ?_
    exact kk _ hput_at Fr.put p l e R s m args below meth c Q G X H1 _ cells slots ls (hH.store hc z oq (by show H1[a]? = _; rw [e1, cell_set _ _ _ h0 h1 hi (nar_byte hv)]) ⟨g2.1, fset_in g2.2 hv⟩) (hS.put z oq g3) hL (vok_t (vok_t (vok_t hV))) hcl hsl
  · refine W.zast X.1.1 X.1.2.1 g1 ((X.2.1.1.arr 2).1 N _) (fun q => by cases q) (by show ¬ (_ ∨ (arrV _ _ _).slots.size ≤ _); rw [arrV_size]; exact i32_in h0 h1 g2.1) rfl rfl hd fun H1 e1 z oq => ?_
    exact kk _ hput_at Fr.put p l e R s m args below meth c Q G X H1 _ cells slots ls (hH.store hc z oq (by show H1[a]? = _; rw [e1, cell_set _ _ _ h0 h1 hi (nar_bool hv)]) ⟨g2.1, fset_in g2.2 hv⟩) (hS.put z oq g3) hL (vok_t (vok_t (vok_t hV))) hcl hsl
/-- a Moment is put into an array of Moments -/
theorem A.qast {a b N : Nat} {g : Int → Option Nat} {i : Int} {fs : List AV} (hd : Dc M pc .aastore 1 n) (hb : h.2 b = some (kO 1 fs)) (kk : ∀ h' : AH, h'.2 a = some (kQ N (gset g i (some b))) → Fr h h' a 1 → AW M fr kb n L S h' Rp) (hc : h.2 a = some (kQ N g) := by assumption) (h0 : 0 ≤ i := by omega) (h1 : i < N := by omega) : AW M fr kb pc L (vR b :: vI i :: vR a :: S) h Rp := by
  intro p l e R s m args below meth c Q G X H locs cells slots ls hH hS hL hV hcl hsl
  obtain ⟨hd, rfl⟩ := hd
  obtain ⟨g1, g2, g3⟩ := hH.2.1 a _ hc
  obtain ⟨b1, b2, b3⟩ := hH.2.1 b _ hb
  have hi := vok_h (vok_t hV)
  have hK := X.2.1.1
  obtain ⟨r', hr', cellV, v1, v2, v3, -⟩ := b1
  have hcls := (hK.1.1 1 (RX1, TX1, 4) rfl).2
  obtain ⟨kA, comp, k1, k2, k3, -⟩ := hK.arq.2
  have hcomp : comp = G.1.1 1 := Option.some.inj (k3.symm.trans hcls.1)
  subst hcomp
  obtain ⟨kC, hkC, -⟩ := hcls.2
  have hin := i32_in h0 h1 g2
  refine W.aast X.1.1 X.1.2.1 g1 (fun q h => by cases h) (fun h => by cases h) k1 k2 rfl hkC ⟨fun q => hin (Or.inl q), by show _ < (arrV _ _ _).slots.size; rw [arrV_size]; exact Nat.not_le.mp fun q => hin (Or.inr q)⟩ v1 (fun q h => by rw [v3] at h; cases h) (by rw [v2]; exact hkC) (by rw [v2]; exact va_assign hcls) rfl rfl hd fun H1 e1 z oq => ?_
  exact kk _ hput_at Fr.put p l e R s m args below meth c Q G X H1 _ cells slots ls (hH.store hc z oq (by show H1[a]? = _; rw [e1]; exact congrArg some (cell_setq _ _ _ (r := some b) h0 h1 hi)) g2) (hS.put z oq g3) hL (vok_t (vok_t (vok_t hV))) hcl hsl
/-! the script -/
theorem A.xlen (hd : Dc M pc .arraylength 1 n) (kk : AW M fr kb n L (vI (h.1.2.1 : Int) :: S) h Rp) : AW M fr kb pc L (vX :: S) h Rp := by
  intro p l e R s m args below meth c Q G X H locs cells slots ls hH hS hL hV hcl hsl
  obtain ⟨hd, rfl⟩ := hd
  have hX := hH.2.2.1
  have k1 := kk p l e R s m args below meth c Q G X H locs cells slots ls hH hS hL (vok_ci (by have := hX.2.2.1; omega) (vok_t hV)) hcl hsl
  obtain ⟨scr, x1, x2, x3, x4, x5⟩ := hX.1
  exact W.alen (n := Int32.ofInt (h.1.2.1 : Int)) X.1.1 X.1.2.1 x1 x2 (by rw [x4]; exact Int32.ofInt_eq_ofNat.symm) rfl rfl hd k1
theorem A.xld {i : Int} (hd : Dc M pc .iaload 1 n) (kk : AW M fr kb n L (vI (h.1.2.2 i) :: S) h Rp) (h0 : 0 ≤ i := by omega) (h1 : i < h.1.2.1 := by omega) : AW M fr kb pc L (vI i :: vX :: S) h Rp := by
  intro p l e R s m args below meth c Q G X H locs cells slots ls hH hS hL hV hcl hsl
  obtain ⟨hd, rfl⟩ := hd
  have hX := hH.2.2.1
  have hv : vok (vI (h.1.2.2 i)) := by
    have := hX.2.2.2 i.toNat (by omega)
    rw [show ((i.toNat : Nat) : Int) = i by omega] at this
    exact this
  have k1 := kk p l e R s m args below meth c Q G X H locs cells slots ls hH hS hL (vok_c hv (vok_t (vok_t hV))) hcl hsl
  obtain ⟨scr, x1, x2, x3, x4, x5⟩ := hX.1
  have hi := vok_h hV
  refine W.iald (v := .int (Int32.ofInt (h.1.2.2 i))) X.1.1 X.1.2.1 x1 x2 x3 (by rw [x4]; exact i32_in h0 h1 hX.2.2.1) ?_ rfl rfl hd k1
  rw [i32_cl hi, x5 i.toNat (by omega)]
  show some (Value.int (Int32.ofInt (h.1.2.2 ((i.toNat : Nat) : Int)))) = _
  rw [show ((i.toNat : Nat) : Int) = i by omega]
/-! returns -/
theorem AW.end {v : Option AV} (k : Rp v h) (st : ∀ v', v = some v' → vok v' → True) (hS : S = v.toList) (hr : RetAt M v pc) : AW M fr kb pc L S h Rp := by
  intro p l e R s m args below meth c Q G X H locs cells slots ls hH hS' hL hV hcl hsl
  subst hS
  have h1 := X.2.2 v h H locs cells slots pc ls k (fun x e => hV x (by rw [e]; exact List.mem_cons_self)) hH hS' (by omega) (by omega) hr
  cases v with
  | none => exact h1
  | some x => exact h1
theorem A.iret {z : Int} (hd : mR M = some .int ∧ decode (mB M) pc = .ok (.ireturn, 1)) (k : Rp (some (vI z)) h) : AW M fr kb pc L [vI z] h Rp := AW.end k (fun _ _ _ => trivial) rfl (Or.inl hd)
theorem A.zret {z : Int} (hd : mR M = some .boolean ∧ decode (mB M) pc = .ok (.ireturn, 1)) (k : Rp (some (vI z)) h) (hz : 0 ≤ z ∧ z ≤ 1 := by first | decide | exact bi_rng _ | omega) : AW M fr kb pc L [vI z] h Rp := AW.end k (fun _ _ _ => trivial) rfl (Or.inr ⟨hd.1, hd.2, hz⟩)
theorem A.vret (hd : mR M = none ∧ decode (mB M) pc = .ok (.return_, 1)) (k : Rp none h) : AW M fr kb pc L [] h Rp := AW.end k (fun _ _ _ => trivial) rfl hd
theorem A.lret {x : Int64} (hd : mR M = some .long ∧ decode (mB M) pc = .ok (.lreturn, 1)) (k : Rp (some (vL x)) h) : AW M fr kb pc L [vL x] h Rp := AW.end k (fun _ _ _ => trivial) rfl hd
theorem A.aret {a : Nat} (hd : (∃ n, mR M = some (.object n)) ∧ decode (mB M) pc = .ok (.areturn, 1)) (k : Rp (some (vR a)) h) : AW M fr kb pc L [vR a] h Rp := AW.end k (fun _ _ _ => trivial) rfl hd
end CELLS
end
section
/-! ===== the abstract machine's rows: calls, new cells, constants, a copy ===== -/
theorem blt_ok {k n : Nat} (h : Nat.ble (k + 1) n = true) : k < n := Nat.le_of_ble_eq_true h
def kont (M : MT) (fr : Nat) (kb : Nat × Nat) (n : Nat) (L : List (Option AV)) (S : List AV) (Rp : RP) : RP := fun v h' => match v with
  | some x => AW M fr kb n L (x :: S) h' Rp
  | none => AW M fr kb n L S h' Rp
section CALLS
variable {M M' : MT} {fr d : Nat} {kb : Nat × Nat} {pc n : Nat} {L : List (Option AV)} {S : List AV} {h : AH} {Rp : RP}
theorem kS {x : AV} (k : AW M fr kb n L (x :: S) h Rp) : kont M fr kb n L S Rp (some x) h := k
theorem kN (k : AW M fr kb n L S h Rp) : kont M fr kb n L S Rp none h := k
def qM (G : GD) (Rp' : RP) : State → Outcome → State → Prop := fun st o t => (∃ (v : Option AV) (h' : AH), o = .returned (v.map (cv G)) ∧ Rp' v h' ∧ (∀ x, v = some x → vok x) ∧ HR G h' t t.heap) ∧ va_F (gA G) st t
theorem AW.called {kb' : Nat × Nat} {mc ms : Nat} (h1 : kb'.1 + mc = kb.1) (h2 : kb'.2 + ms = kb.2) {p : Program} {l : Launch} {e : Env} {R : Room} {s : State} {m : MethodId} {args : Array Value} {below : List Frame} {meth : Method} {c : Code} {Q : State → Prop} {G : GD} (X : Cx M fr p l e R s m args below meth c Q G Rp) {H : Heap} {locs : List Loc} {cells slots : Nat} {ls : Array Slot} {st0 : List Value}
    (hS : va_S (gA G) s.heap H locs) (hL : LR G L ls (mL M)) (hV : ∀ v ∈ S, vok v) (hc : cells + kb.1 ≤ R.cells) (hs : slots + kb.2 ≤ R.slots)
    (hr : va_Run p l e R s m args below meth c H locs cells slots mc ms (F0 m pc ls st0) (S.map (cv G)) (qM G (kont M fr kb' (pc + 3) L S Rp)) (gA G)) : W p l e R s m args below meth c H locs cells slots Q (F0 m pc ls st0) := by
  intro T hT X0
  obtain ⟨v, st₀, t, T', Lc, e0, X', hLc, e1, e2, ⟨⟨v', h', hv, hp, hvk, hHt⟩, hz, hk⟩, st⟩ := hr T hT X0
  have hv' : v = v'.map (cv G) := Outcome.returned.inj hv
  subst hv'
  rw [e0] at hz hk
  have hal : t.vm.Alike s.vm := by rw [← e2]; exact X'.warmed.alike.symm
  have hH1 : HR G h' s T'.heap := by rw [e1]; exact hHt.moved hal
  have hS1 : va_S (gA G) s.heap T'.heap (locs ++ Lc) := ⟨Nat.le_trans hS.1 (by rw [e1]; exact hz), fun q g1 g2 => by rw [e1, hk q (Nat.lt_of_lt_of_le g1 hS.1) g2]; exact hS.2.1 q g1 g2, fun q hq => by
      rcases List.mem_append.mp hq with z | z
      · exact hS.2.2 q z
      · exact hLc q z⟩
  cases v' with
  | none =>
    obtain ⟨t2, a1, b1⟩ := hp p l e R s m args below meth c Q G X T'.heap _ (cells + mc) (slots + ms) ls hH1 hS1 hL hV (by omega) (by omega) T' rfl X'
    exact ⟨t2, st t2 a1, b1⟩
  | some x =>
    obtain ⟨t2, a1, b1⟩ := hp p l e R s m args below meth c Q G X T'.heap _ (cells + mc) (slots + ms) ls hH1 hS1 hL (vok_c (hvk x rfl) hV) (by omega) (by omega) T' rfl X'
    exact ⟨t2, st t2 a1, b1⟩
theorem pc_blind {G : GD} {as : List AV} : FrameBlind (va_Pc (as.map (cv G)) (fun U => HR G h U U.heap ∧ GK G U)) := fun a U g mk q => ⟨q.1, HR.moved (u := U) (U := U.calling g mk a) (Vm.Alike.refl U.vm) q.2.1, GK.same (s := U) (U := U.calling g mk a) rfl q.2.2⟩
theorem pc_here {G : GD} {as : List AV} {s : State} {H : Heap} (hH : HR G h s H) (hK : GK G s) (U : State) (hU : U.heap = H) (hW : s.WarmedH U.vm) : va_Pc (as.map (cv G)) (fun U => HR G h U U.heap ∧ GK G U) (as.map (cv G)).toArray U := ⟨rfl, by rw [hU]; exact hH.moved hW.alike, hK.warm hW⟩
theorem cat_sum (G : GD) : ∀ S : List AV, ((S.map (cv G)).map fun v => v.category).sum ≤ 2 * S.length := by
  intro S
  induction S with
  | nil => exact Nat.le_refl _
  | cons v S ih =>
    have h1 : (cv G v).category ≤ 2 := by rcases lv_cat (cv G v) with q | q <;> omega
    simp only [List.map_cons, List.sum_cons, List.length_cons]
    omega
/-- what a call of M' needs of the tables -/
def Lk (own : String) (idx : Nat) (M' : MT) (na : Nat) : Prop := MOK M' ∧ Jvm.Cond.methodLink own idx (mY M') ∈ tG ∧ (parseMethodDescriptor (mY M').desc).map (fun d => d.parameters.length) = some na ∧ mL M' ≤ 17
def Div (M : MT) (pc : Nat) (M' : MT) (na n : Nat) : Prop := ∃ idx : Nat, decode (mB M) pc = .ok (.invokevirtual idx, 3) ∧ Lk (mY M).cls idx M' na ∧ (Jvm.Cond.instanceMethod (mY M') ∈ tG ∧ Jvm.Cond.selects (mY M').cls (mY M') (mY M') ∈ tG) ∧ pc + 3 = n
def Dis' (M : MT) (pc : Nat) (M' : MT) (na n : Nat) : Prop := ∃ idx : Nat, decode (mB M) pc = .ok (.invokestatic idx, 3) ∧ Lk (mY M).cls idx M' na ∧ Jvm.Cond.static (mY M') ∈ tG ∧ pc + 3 = n
theorem A.invV {as : List AV} {a ci na : Nat} {fs : List AV} {S0 : List AV} {C : String} {T : u_T} {N : Nat} (hd : Div M pc M' na n) (hM : AM M' d h (vR a :: as) (kont M fr kb n L S Rp)) (hst : S0 = as.reverse ++ vR a :: S) (hna : as.length = na) (hc : h.2 a = some (kO ci fs)) (hcl : vwCl[ci]? = some (C, T, N)) (hC : C = (mY M').cls) (hz : mC M' = 0 ∧ mS M' = 0) (hdf : d + 1 ≤ fr) (hS4 : S.length ≤ 4) : AW M fr kb pc L S0 h Rp := by
  subst hst
  intro p l e R s m args below meth c Q G X H locs cells slots ls hH hS hL hV hcl' hsl
  obtain ⟨idx, hd, ⟨hOK, hlk, hpa, hml⟩, ⟨hin, hsel⟩, rfl⟩ := hd
  obtain ⟨g1, g2, g3⟩ := hH.2.1 a _ hc
  have hVa : ∀ v ∈ vR a :: as, vok v := fun v hv => by
    rcases List.mem_cons.mp hv with rfl | hv
    · trivial
    · exact hV v (List.mem_append_left _ (List.mem_reverse.mpr hv))
  have hVs : ∀ v ∈ S, vok v := fun v hv => hV v (List.mem_append_right _ (List.mem_cons_of_mem _ hv))
  obtain ⟨cellB, r1, r2, r3⟩ := va_recv (q0 := 0) (ci := ci) X.2.1.1.1 (P1 g1) hcl rfl
  have hgood : GoodIn tG (wsV (mY M).cls idx (mY M').cls (mY M') (.code (mY M') (mB M') (mL M') (mR M') :: tG)) := fun w hw => by
    simp only [wsV, List.mem_append, List.mem_cons, List.not_mem_nil, or_false] at hw
    rcases hw with (rfl | rfl | rfl | rfl) | rfl | hw
    · exact ⟨hlk, tG_good hlk⟩
    · exact ⟨hin, tG_good hin⟩
    · exact ⟨hsel, tG_good hsel⟩
    · exact ⟨hOK.2.2.1, tG_good hOK.2.2.1⟩
    · exact ⟨hOK.2.1, tG_good hOK.2.1⟩
    · exact ⟨hw, tG_good hw⟩
  have hcs := cat_sum G S
  have hrun := va_runV (S := ⟨X.1.1, X.1.2.1, X.1.2.2.1, X.1.2.2.2.1, X.1.2.2.2.2⟩) (hM hVa l G)
    (cwV (C := (mY M').cls) na X.1.2.2.2.2 hgood rfl rfl rfl ⟨rfl, hOK.2.2.2.1, hOK.2.2.2.2, hpa⟩ ⟨by rw [X.2.1.2.2.2.1]; exact hdf, by have := X.2.1.2.2.2.2.1; show 8 + (mL M' + 11) + 36 * d ≤ R.locals; omega⟩)
    ⟨pc_blind, ⟨cellB, r1, r2, by rw [← hC]; exact r3⟩, pc_here hH X.2.1.1⟩
    (g := F0 m pc ls ((as.reverse ++ vR a :: S).map (cv G))) (As := as.map (cv G)) (rest := S.map (cv G)) (locs := locs) (cells := cells) (slots := slots) (p := p) (e := e) (below := below) (meth := meth) rfl (by rw [List.length_map]; exact hna) hL.1.1 (by show List.map (cv G) (as.reverse ++ vR a :: S) = _; rw [List.map_append, List.map_reverse]; rfl) (by show 2 * 0 + _ ≤ 8; omega) hd ⟨by rw [hz.1]; omega, by rw [hz.2]; omega⟩
  exact AW.called (by rw [hz.1]; rfl) (by rw [hz.2]; rfl) X hS hL hVs hcl' hsl hrun
theorem A.invS {as : List AV} {na : Nat} {S0 : List AV} (hd : Dis' M pc M' na n) (hM : AM M' d h as (kont M fr kb n L S Rp)) (hst : S0 = as.reverse ++ S) (hna : as.length = na) (hz : mC M' = 0 ∧ mS M' = 0) (hdf : d + 1 ≤ fr) (hS4 : S.length ≤ 4) : AW M fr kb pc L S0 h Rp := by
  subst hst
  intro p l e R s m args below meth c Q G X H locs cells slots ls hH hS hL hV hcl' hsl
  obtain ⟨idx, hd, ⟨hOK, hlk, hpa, hml⟩, hsta, rfl⟩ := hd
  have hVa : ∀ v ∈ as, vok v := fun v hv => hV v (List.mem_append_left _ (List.mem_reverse.mpr hv))
  have hVs : ∀ v ∈ S, vok v := fun v hv => hV v (List.mem_append_right _ hv)
  have hcs := cat_sum G S
  have hts := X.1.2.2.2.2
  have hrun := va_runS (S := ⟨X.1.1, X.1.2.1, X.1.2.2.1, X.1.2.2.2.1, hts⟩) (hM hVa l G)
    ⟨callB_of na hts (tG_in hOK) rfl rfl rfl (hts _ hOK.2.2.1) (hts _ hlk) ⟨hOK.2.2.2.1, hOK.2.2.2.2, hpa⟩ ⟨by rw [X.2.1.2.2.2.1]; exact hdf, by have := X.2.1.2.2.2.2.1; show 8 + (mL M' + 11) + 36 * d ≤ R.locals; omega⟩, hts _ hsta⟩
    ⟨pc_blind, pc_here hH X.2.1.1⟩
    (g := F0 m pc ls ((as.reverse ++ S).map (cv G))) (As := as.map (cv G)) (rest := S.map (cv G)) (locs := locs) (cells := cells) (slots := slots) (p := p) (e := e) (below := below) (meth := meth) rfl (by rw [List.length_map]; exact hna) hL.1.1 (by show List.map (cv G) (as.reverse ++ S) = _; rw [List.map_append, List.map_reverse]) (by show 2 * 0 + _ ≤ 8; omega) hd ⟨by rw [hz.1]; omega, by rw [hz.2]; omega⟩
  exact AW.called (by rw [hz.1]; rfl) (by rw [hz.2]; rfl) X hS hL hVs hcl' hsl hrun
/-- a static method of a nest mate, by a link of the nest's -/
def DisN (M : MT) (pc : Nat) (M' : MT) (na n : Nat) : Prop := ∃ (idx : Nat) (host : String), decode (mB M) pc = .ok (.invokestatic idx, 3) ∧ MOK M' ∧ Jvm.Cond.methodLinkNest (mY M).cls idx (mY M') host ∈ nestW ∧ (parseMethodDescriptor (mY M').desc).map (fun d => d.parameters.length) = some na ∧ mL M' ≤ 17 ∧ Jvm.Cond.static (mY M') ∈ tG ∧ pc + 3 = n
theorem A.invSN {as : List AV} {na : Nat} {S0 : List AV} (hd : DisN M pc M' na n) (hM : AM M' d h as (kont M fr kb n L S Rp)) (hst : S0 = as.reverse ++ S) (hna : as.length = na) (hz : mC M' = 0 ∧ mS M' = 0) (hdf : d + 1 ≤ fr) (hS4 : S.length ≤ 4) : AW M fr kb pc L S0 h Rp := by
  subst hst
  intro p l e R s m args below meth c Q G X H locs cells slots ls hH hS hL hV hcl' hsl
  obtain ⟨idx, host, hd, hOK, hlk, hpa, hml, hsta, rfl⟩ := hd
  have hVa : ∀ v ∈ as, vok v := fun v hv => hV v (List.mem_append_left _ (List.mem_reverse.mpr hv))
  have hVs : ∀ v ∈ S, vok v := fun v hv => hV v (List.mem_append_right _ hv)
  have hcs := cat_sum G S
  have hts := X.1.2.2.2.2
  have hrun := va_runSN (S := ⟨X.1.1, X.1.2.1, X.1.2.2.1, X.1.2.2.2.1, hts⟩) (hM hVa l G)
    ⟨va_cnB na hts (tG_in hOK) rfl rfl rfl (X.2.1.1.2.1 _ hlk) (hts _ hOK.2.2.1) ⟨hOK.2.2.2.1, hOK.2.2.2.2, hpa⟩ ⟨by rw [X.2.1.2.2.2.1]; exact hdf, by have := X.2.1.2.2.2.2.1; show 8 + (mL M' + 11) + 36 * d ≤ R.locals; omega⟩, hts _ hsta, trivial⟩
    ⟨pc_blind, pc_here hH X.2.1.1⟩
    (g := F0 m pc ls ((as.reverse ++ S).map (cv G))) (As := as.map (cv G)) (rest := S.map (cv G)) (locs := locs) (cells := cells) (slots := slots) (p := p) (e := e) (below := below) (meth := meth) rfl (by rw [List.length_map]; exact hna) hL.1.1 (by show List.map (cv G) (as.reverse ++ S) = _; rw [List.map_append, List.map_reverse]) (by show 2 * 0 + _ ≤ 8; omega) hd ⟨by rw [hz.1]; omega, by rw [hz.2]; omega⟩
  exact AW.called (by rw [hz.1]; rfl) (by rw [hz.2]; rfl) X hS hL hVs hcl' hsl hrun
/-- a constructor without arguments: by an ordinary link, or by one of the nest's -/
def Dii (M : MT) (pc : Nat) (M' : MT) (n : Nat) : Prop := ∃ idx : Nat, decode (mB M) pc = .ok (.invokespecial idx, 3) ∧ MOK M' ∧ (Jvm.Cond.methodLink (mY M).cls idx (mY M') ∈ tG ∨ ∃ host : String, Jvm.Cond.methodLinkNest (mY M).cls idx (mY M') host ∈ nestW) ∧ (parseMethodDescriptor (mY M').desc).map (fun d => d.parameters.length) = some 0 ∧ mL M' ≤ 17 ∧ (mY M').name = "<init>" ∧ Jvm.Cond.instanceMethod (mY M') ∈ tG ∧ mR M' = none ∧ pc + 3 = n
theorem A.invI {kb' : Nat × Nat} {a : Nat} (hd : Dii M pc M' n) (hM : AM M' d h [vR a] (kont M fr kb' n L S Rp)) (hz : kb'.1 + mC M' = kb.1 ∧ kb'.2 + mS M' = kb.2) (hdf : d + 1 ≤ fr) (hS4 : S.length ≤ 4) : AW M fr kb pc L (vR a :: S) h Rp := by
  intro p l e R s m args below meth c Q G X H locs cells slots ls hH hS hL hV hcl' hsl
  obtain ⟨idx, hd, hOK, hlk, hpa, hml, hnm, hins, hret, rfl⟩ := hd
  have hcs := cat_sum G S
  have hts := X.1.2.2.2.2
  have hM' := hM (fun v hv => by rw [List.mem_singleton.mp hv]; trivial) l G
  have hGI := tG_in hOK
  rw [hret] at hM' hGI
  have hrun : va_Run p l e R s m args below meth c H locs cells slots (mC M') (mS M') (F0 m pc ls ((vR a :: S).map (cv G))) (S.map (cv G)) (qM G (kont M fr kb' (pc + 3) L S Rp)) (gA G) := by
    rcases hlk with hlk | ⟨host, hlk⟩
    · exact va_runI (As := []) (n := 0) (S := ⟨X.1.1, X.1.2.1, X.1.2.2.1, X.1.2.2.2.1, hts⟩) hM'
        (cwI 0 hts hGI rfl rfl rfl (hts _ hOK.2.2.1) (hts _ hlk) (hts _ hins) hnm ⟨hOK.2.2.2.1, hOK.2.2.2.2, hpa⟩ ⟨by rw [X.2.1.2.2.2.1]; exact hdf, by have := X.2.1.2.2.2.2.1; show 8 + (mL M' + 11) + 36 * d ≤ R.locals; omega⟩)
        ⟨pc_blind, pc_here (as := [vR a]) hH X.2.1.1⟩
        (g := F0 m pc ls ((vR a :: S).map (cv G))) (rest := S.map (cv G)) rfl rfl hL.1.1 rfl (by show 2 * 0 + _ ≤ 8; omega) hd ⟨by omega, by omega⟩
    · exact va_runIN (As := []) (n := 0) (S := ⟨X.1.1, X.1.2.1, X.1.2.2.1, X.1.2.2.2.1, hts⟩) hM'
        ⟨va_cnB 0 hts hGI rfl rfl rfl (X.2.1.1.2.1 _ hlk) (hts _ hOK.2.2.1) ⟨hOK.2.2.2.1, hOK.2.2.2.2, hpa⟩ ⟨by rw [X.2.1.2.2.2.1]; exact hdf, by have := X.2.1.2.2.2.2.1; show 8 + (mL M' + 11) + 36 * d ≤ R.locals; omega⟩, hnm, hts _ hins⟩
        ⟨pc_blind, pc_here (as := [vR a]) hH X.2.1.1⟩
        (g := F0 m pc ls ((vR a :: S).map (cv G))) (rest := S.map (cv G)) rfl rfl hL.1.1 rfl (by show 2 * 0 + _ ≤ 8; omega) hd ⟨by omega, by omega⟩
  exact AW.called hz.1 hz.2 X hS hL (vok_t hV) hcl' hsl hrun
/-- Object's constructor -/
def Doi (M : MT) (pc n : Nat) : Prop := ∃ idx : Nat, decode (mB M) pc = .ok (.invokespecial idx, 3) ∧ Jvm.Cond.methodLink (mY M).cls idx objectInit ∈ tG ∧ Jvm.Cond.instanceMethod objectInit ∈ tG ∧ Jvm.Cond.code objectInit ⟨#[0xb1]⟩ 1 none ∈ tG ∧ pc + 3 = n
theorem A.oinit {a : Nat} (hd : Doi M pc n) (k : AW M fr kb n L S h Rp) (hf : 1 ≤ fr) (hS4 : S.length ≤ 4) : AW M fr kb pc L (vR a :: S) h Rp := by
  intro p l e R s m args below meth c Q G X H locs cells slots ls hH hS hL hV hcl hsl
  obtain ⟨idx, hd, h1, h2, h3, rfl⟩ := hd
  have hts := X.1.2.2.2.2
  have hcs := cat_sum G S
  have hlo := X.2.1.2.2.2.2.1
  have hfr := X.2.1.2.2.2.1
  refine W.objInit X.1.1 X.1.2.1 X.1.2.2.2.1 (hts _ h1) (hts _ h2) (hts _ h3) rfl (by rw [X.1.2.2.1]; exact hL.1.1) (rest := S.map (cv G)) rfl hd (by rw [hfr]; exact hf) (by show 2 * 0 + _ + 12 ≤ _; omega) ?_
  exact k p l e R s m args below meth c Q G X H locs cells slots ls hH hS hL (vok_t hV) hcl hsl
/-! new cells -/
def dfv (ty : FieldType) : AV := match ty with
  | .int => vI 0
  | .long => vL 0
  | _ => vN
def Dnew (M : MT) (pc ci N : Nat) (fs : List AV) (n : Nat) : Prop := ∃ (idx : Nat) (C : String) (T : u_T) (ty : Nat → FieldType), decode (mB M) pc = .ok (.new idx, 3) ∧ vwCl[ci]? = some (C, T, N) ∧ (∀ w ∈ u_ws C T N, w ∈ tG) ∧ (∀ k, k < N → parseFieldDescriptor (T k).2.2.1 = some (ty k)) ∧ Jvm.Cond.classLink (mY M).cls idx C ∈ tG ∧ Jvm.Cond.instantiable C N ∈ tG ∧ Jvm.Cond.initialized C ∈ tG ∧ (∀ j, j < N → fs[j]? = some (dfv (ty j)) ∧ ∀ G : GD, cv G (dfv (ty j)) = defaultValue (ty j)) ∧ (∀ v ∈ fs, vok v) ∧ pc + 3 = n
theorem A.new {ci N c s' : Nat} {fs : List AV} (hd : Dnew M pc ci N fs n) (kk : ∀ h' : AH, h'.1 = (h.1.1 + 1, h.1.2) → h'.2 h.1.1 = some (kO ci fs) → (∀ q, q ≠ h.1.1 → h'.2 q = h.2 q) → AW M fr (c, s') n L (vR h.1.1 :: S) h' Rp) : AW M fr (c + 1, s' + N) pc L S h Rp := by
  intro p l e R s m args below meth c0 Q G X H locs cells slots ls hH hS hL hV hcl hsl
  obtain ⟨idx, C, T, ty, hd, h1, h2, h3, h4, h5, h6, h7, h8, rfl⟩ := hd
  have hts := X.1.2.2.2.2
  have hKn := X.2.1.1.1.1 ci _ h1
  simp only at hcl hsl
  refine W.newcK X.1.1 X.1.2.1 X.1.2.2.2.1 (hts _ h4) (hts _ h5) (hts _ h6) rfl hd (by omega) (by omega) hKn.2.1 rfl fun H1 kC hkC e1 z1 o1 => ?_
  have hat : va_at G.1 vwCl (H.size, enc G (kO ci fs)) H1 := by
    refine ⟨_, h1, (u_born ty hts h2 hKn hkC e1 h3).to fun j hj => ?_⟩
    show defaultValue (ty j) = (fs.map (cv G)).getD j .null
    rw [List.getD_eq_getElem?_getD, List.getElem?_map, (h7 j hj).1]
    exact ((h7 j hj).2 G).symm
  have hb : gB G ≤ H.size := hH.1.2
  have hsz : H.size = h.1.1 := hH.1.1
  have k1 := kk ((h.1.1 + 1, h.1.2), fun q => if q = h.1.1 then some (kO ci fs) else h.2 q) rfl (by simp) (fun q hq => by simp [hq]) p l e R s m args below meth c0 Q G X H1 locs (cells + 1) (slots + N) ls (hH.push z1 o1 hat h8) ⟨Nat.le_trans hS.1 (by omega), fun x g1 g2 => (o1 x (Nat.lt_of_lt_of_le g1 hS.1)).trans (hS.2.1 x g1 g2), hS.2.2⟩ hL (vok_c (v := vR h.1.1) trivial hV) (by simp only; omega) (by simp only; omega)
  rw [← hsz] at k1
  exact k1
def Dna (M : MT) (pc ty n : Nat) : Prop := ∃ atype : ArrayType, decode (mB M) pc = .ok (.newarray atype, 2) ∧ newarray.typeOf atype = tyF ty ∧ Jvm.Cond.arrayClass (tyF ty) ∈ tG ∧ defaultValue (tyF ty) = .int (Int32.ofInt 0) ∧ componentBytes (tyF ty) ≤ 4 ∧ vin ty 0 ∧ pc + 2 = n
theorem A.newa {ty N c s' : Nat} {z : Int} (hd : Dna M pc ty n) (kk : ∀ h' : AH, h'.1 = (h.1.1 + 1, h.1.2) → h'.2 h.1.1 = some (kA ty N (fun _ => 0)) → (∀ q, q ≠ h.1.1 → h'.2 q = h.2 q) → AW M fr (c, s') n L (vR h.1.1 :: S) h' Rp) (hz : z = N := by rfl) (hN : N ≤ 100000 := by decide) : AW M fr (c + 1, s' + N) pc L (vI z :: S) h Rp := by
  subst hz
  intro p l e R s m args below meth c0 Q G X H locs cells slots ls hH hS hL hV hcl hsl
  obtain ⟨aty, hd, h1, h2, h3, h4, h5, rfl⟩ := hd
  have hts := X.1.2.2.2.2
  simp only at hcl hsl
  have hr : (-2147483648 : Int) ≤ (N : Int) ∧ (N : Int) ≤ 2147483647 := by omega
  refine va_newaK X.1.1 X.1.2.1 (by rw [h1]; exact hts _ h2) rfl hd rfl (N := N) (by rw [i32_0, i32_lt hr (by omega)]; omega) (by rw [i32_cl hr]; omega) (by rw [h1]; calc N * componentBytes (tyF ty) ≤ N * 4 := Nat.mul_le_mul_left _ h4
      _ ≤ 536870912 := by omega) (by omega) (by omega) rfl fun H1 cA e1 z1 o1 hAr hNm => ?_
  rw [h1] at e1 hNm
  have hcA : cA = gC G ty := by
    have hRA := (X.2.1.1.arr ty).2
    have : s.vm.findClass ("[" ++ (tyF ty).toString) = some (gC G ty) := by
      match ty, hRA with
      | 0, hRA => exact hRA
      | 1, hRA => exact hRA
      | ty + 2, hRA => exact hRA
    exact Option.some.inj (hNm.symm.trans this)
  subst hcA
  have hat : va_at G.1 vwCl (H.size, enc G (kA ty N (fun _ => 0))) H1 := by
    show H1[H.size]? = some (vp_cell _ _)
    rw [e1, h3]
    rfl
  have hsz : H.size = h.1.1 := hH.1.1
  have k1 := kk ((h.1.1 + 1, h.1.2), fun q => if q = h.1.1 then some (kA ty N (fun _ => 0)) else h.2 q) rfl (by simp) (fun q hq => by simp [hq]) p l e R s m args below meth c0 Q G X H1 locs (cells + 1) (slots + N) ls (hH.push z1 o1 hat ⟨by omega, fun _ _ => h5⟩) ⟨Nat.le_trans hS.1 (by omega), fun x g1 g2 => (o1 x (Nat.lt_of_lt_of_le g1 hS.1)).trans (hS.2.1 x g1 g2), hS.2.2⟩ hL (vok_c (v := vR h.1.1) trivial (vok_t hV)) (by simp only; omega) (by simp only; omega)
  rw [← hsz] at k1
  exact k1
def Dnq (M : MT) (pc n : Nat) : Prop := ∃ idx : Nat, decode (mB M) pc = .ok (.anewarray idx, 3) ∧ Jvm.Cond.classLink (mY M).cls idx RX1 ∈ tG ∧ pc + 3 = n
theorem A.newq {N c s' : Nat} {z : Int} (hd : Dnq M pc n) (kk : ∀ h' : AH, h'.1 = (h.1.1 + 1, h.1.2) → h'.2 h.1.1 = some (kQ N (fun _ => none)) → (∀ q, q ≠ h.1.1 → h'.2 q = h.2 q) → AW M fr (c, s') n L (vR h.1.1 :: S) h' Rp) (hz : z = N := by rfl) (hN : N ≤ 100000 := by decide) : AW M fr (c + 1, s' + N) pc L (vI z :: S) h Rp := by
  subst hz
  intro p l e R s m args below meth c0 Q G X H locs cells slots ls hH hS hL hV hcl hsl
  obtain ⟨idx, hd, h1, rfl⟩ := hd
  have hts := X.1.2.2.2.2
  simp only at hcl hsl
  have hr : (-2147483648 : Int) ≤ (N : Int) ∧ (N : Int) ≤ 2147483647 := by omega
  have hcl3 : (Int32.ofInt (N : Int)).toNatClampNeg = N := by rw [i32_cl hr]; omega
  refine W.anew X.1.1 X.1.2.1 X.1.2.2.2.1 (hts _ h1) (va_AO.use X.2.1.1.2.2.2) rfl hd rfl (by rw [i32_0, i32_lt hr (by omega)]; omega) (by rw [hcl3]; omega) (by omega) (by rw [hcl3]; omega) fun cA kA comp f1 f2 f3 f4 => ?_
  rw [hcl3]
  generalize hH1 : H.push ({ cls := cA, slots := Array.replicate N .null, vm := .none } : Cell) = H1
  have z1 : H1.size = H.size + 1 := by rw [← hH1, Array.size_push]
  have e1 : H1[H.size]? = some (arrV cA N (fun _ => .null)) := by rw [← hH1, Array.getElem?_push_size, ← arrV_new]
  have o1 : ∀ q : Nat, q < H.size → H1[q]? = H[q]? := fun q hq => by rw [← hH1, Array.getElem?_push, if_neg (Nat.ne_of_lt hq)]
  have hcA : cA = gQ G := by
    obtain ⟨kA', comp', g1, g2, g3, g4⟩ := X.2.1.1.arq.2
    exact Option.some.inj (f1.symm.trans g4)
  subst hcA
  have hat : va_at G.1 vwCl (H.size, enc G (kQ N (fun _ => none))) H1 := by
    show H1[H.size]? = some (vp_cell _ _)
    rw [e1]
    rfl
  have hsz : H.size = h.1.1 := hH.1.1
  have k1 := kk ((h.1.1 + 1, h.1.2), fun q => if q = h.1.1 then some (kQ N (fun _ => none)) else h.2 q) rfl (by simp) (fun q hq => by simp [hq]) p l e R s m args below meth c0 Q G X H1 locs (cells + 1) (slots + N) ls (hH.push z1 o1 hat (show N ≤ 2147483647 by omega)) ⟨Nat.le_trans hS.1 (by omega), fun x g1 g2 => (o1 x (Nat.lt_of_lt_of_le g1 hS.1)).trans (hS.2.1 x g1 g2), hS.2.2⟩ hL (vok_c (v := vR h.1.1) trivial (vok_t hV)) (by simp only; omega) (by simp only; omega)
  rw [← hsz] at k1
  exact k1
/-! constants -/
def Dl2 (M : MT) (pc : Nat) (x : Int64) (n : Nat) : Prop := ∃ idx : Nat, decode (mB M) pc = .ok (.ldc2_w idx, 3) ∧ Jvm.Cond.constantLong (mY M).cls idx x ∈ tG ∧ pc + 3 = n
theorem A.ldc2 {x : Int64} (hd : Dl2 M pc x n) (k : AW M fr kb n L (vL x :: S) h Rp) : AW M fr kb pc L S h Rp :=
  AW.go (fun hV _ => vok_cl hV) (fun p l e R s m args below meth c Q G H locs cells slots ls hx hb hown hts _ _ hL kk => by
    obtain ⟨idx, hd, h1, rfl⟩ := hd
    exact lv_ldc2 hx hb hown (hts _ h1) hd (kk ls hL)) k
theorem A.lcmp_ne {x y : Int64} {t n2 : Nat} (hd : Dc M pc .lcmp 1 n) (hd2 : Dif M n .ne t n2) (kt : x ≠ y → AW M fr kb t L S h Rp) (kf : x = y → AW M fr kb n2 L S h Rp) : AW M fr kb pc L (vL y :: vL x :: S) h Rp := by
  intro p l e R s m args below meth c Q G X H locs cells slots ls hH hS hL hV hcl hsl
  obtain ⟨hd, rfl⟩ := hd
  obtain ⟨off, hd2, ht, rfl⟩ := hd2
  have k1 := fun q => kt q p l e R s m args below meth c Q G X H locs cells slots ls hH hS hL (vok_t (vok_t hV)) hcl hsl
  have k2 := fun q => kf q p l e R s m args below meth c Q G X H locs cells slots ls hH hS hL (vok_t (vok_t hV)) hcl hsl
  refine W.lcmp X.1.1 X.1.2.1 hd ?_
  have h0 : lg_cmp x y = 0 ↔ x = y := by
    constructor
    · intro q
      by_cases h1 : y < x
      · simp [lg_cmp, h1] at q
      · by_cases h2 : x = y
        · exact h2
        · simp [lg_cmp, h1, h2] at q
    · intro q
      subst q
      have h1 : ¬ x < x := by rw [Int64.lt_iff_toInt_lt]; omega
      simp [lg_cmp]
  exact lv_if_ne X.1.1 X.1.2.1 hd2 ht (fun q => k1 fun e => q (h0.mpr e)) (fun q => k2 (h0.mp q))
/-! a copy of an array of ints into another of the same length -/
theorem arrV_congr (c : ClassId) {N : Nat} {f g : Nat → Value} (h : ∀ j, j < N → f j = g j) : arrV c N f = arrV c N g := by
  show ({ cls := c, slots := Array.ofFn (n := N) fun j => f j.val, vm := .none } : Cell) = { cls := c, slots := Array.ofFn (n := N) fun j => g j.val, vm := .none }
  congr 1
  congr 1
  funext j
  exact h j.val j.isLt
def Dac (M : MT) (pc n : Nat) : Prop := ∃ idx : Nat, decode (mB M) pc = .ok (.invokestatic idx, 3) ∧ Jvm.Cond.methodLink (mY M).cls idx arraycopyName ∈ tG ∧ Jvm.Cond.native arraycopyName ∈ tG ∧ Jvm.Cond.static arraycopyName ∈ tG ∧ Jvm.Cond.initialized "java/lang/System" ∈ tG ∧ pc + 3 = n
theorem A.acopy {a a0 N : Nat} {f g : Int → Int} {N' : Int} (hd : Dac M pc n) (hc0 : h.2 a0 = some (kA 0 N f)) (hc : h.2 a = some (kA 0 N g)) (kk : ∀ h' : AH, h'.2 a = some (kA 0 N f) → Fr h h' a 1 → AW M fr kb n L S h' Rp) (hN : N' = N) (hfr : 1 ≤ fr) (hS4 : S.length ≤ 4) : AW M fr kb pc L (vI N' :: vI 0 :: vR a :: vI 0 :: vR a0 :: S) h Rp := by
  subst hN
  intro p l e R s m args below meth c Q G X H locs cells slots ls hH hS hL hV hcl hsl
  obtain ⟨idx, hd, d1, d2, d3, d4, rfl⟩ := hd
  have hts := X.1.2.2.2.2
  have hcs := cat_sum G S
  obtain ⟨g1, g2, g3⟩ := hH.2.1 a _ hc
  obtain ⟨b1, b2, b3⟩ := hH.2.1 a0 _ hc0
  have hN1 := g2.1
  have hr : (-2147483648 : Int) ≤ (N : Int) ∧ (N : Int) ≤ 2147483647 := by omega
  have hcN : (Int32.ofInt (N : Int)).toNatClampNeg = N := by rw [i32_cl hr]; omega
  have hc00 : (Int32.ofInt (0 : Int)).toNatClampNeg = 0 := rfl
  obtain ⟨-, k0, hk0, cm0, hkk0⟩ := (X.2.1.1.arr 0).1 N (fun j => .int (Int32.ofInt (f j)))
  intro T hT X0
  obtain ⟨vm', X', step⟩ := X0.arraycopy X.1.1 X.1.2.2.2.1 (hts _ d1) (hts _ d2) (hts _ d3) (hts _ d4) (src := a0) (dst := a) (cs := vp_cell (gC G 0) (N, .inl (fun j : Nat => Int32.ofInt (f j)))) (cd := vp_cell (gC G 0) (N, .inl (fun j : Nat => Int32.ofInt (g j)))) (srcPos := Int32.ofInt 0) (destPos := Int32.ofInt 0) (n := Int32.ofInt (N : Int)) (by rw [hT]; exact b1) (by rw [hT]; exact g1)
    (fun _ h => by cases h) (fun _ h => by cases h) (fun h => by cases h) (fun h => by cases h) hk0 hk0 hkk0 hkk0 (by simp [tyF, refKind]) (by decide) (by decide) (by rw [i32_0, i32_lt hr (by omega)]; omega)
    (by rw [of_i32 hr]; show ¬ _ > ((arrV (gC G 0) N _).slots.size : Int); rw [arrV_size]; show ¬ (0 : Int) + (N : Int) > (N : Int); omega)
    (by rw [of_i32 hr]; show ¬ _ > ((arrV (gC G 0) N _).slots.size : Int); rw [arrV_size]; show ¬ (0 : Int) + (N : Int) > (N : Int); omega)
    (fun vm₁ _ i hi => by
      rw [hcN] at hi
      have e : (vp_cell (gC G 0) (N, .inl (fun j : Nat => Int32.ofInt (f j)))).slots.getD ((Int32.ofInt 0).toNatClampNeg + i) .null = .int (Int32.ofInt (f i)) := by
        show (arrV (gC G 0) N _).slots.getD _ _ = _
        rw [hc00, Nat.zero_add, Array.getD_eq_getD_getElem?, arrV_read _ _ hi]
        rfl
      rw [e]
      exact ⟨rfl, trivial⟩)
    (g := F0 m pc ls ((vI (N : Int) :: vI 0 :: vR a :: vI 0 :: vR a0 :: S).map (cv G))) rfl (by rw [X.1.2.2.1]; exact hL.1.1) (rest := S.map (cv G)) rfl (by rw [X.1.2.1]; exact hd) (by rw [X.2.1.2.2.2.1]; exact hfr) (by
      have h1 := X.2.1.2.2.2.2.1
      show 2 * 0 + _ + (nativeFrameWords "java/lang/System" "arraycopy" 5 + 11) ≤ _
      have h2 : nativeFrameWords "java/lang/System" "arraycopy" 5 = 7 := by decide
      rw [h2]
      omega)
  have e1 : copied (vp_cell (gC G 0) (N, .inl (fun j : Nat => Int32.ofInt (f j)))) (vp_cell (gC G 0) (N, .inl (fun j : Nat => Int32.ofInt (g j)))) (Int32.ofInt 0) (Int32.ofInt 0) (Int32.ofInt (N : Int)) = vp_cell (gC G 0) (N, .inl (fun j : Nat => Int32.ofInt (f j))) := by
    have := va_copied (fun z => Value.int z) (gC G 0) (gC G 0) (n0 := N) (n1 := N) (sp := 0) (dp := 0) (n := N) (fun j : Nat => Int32.ofInt (f j)) (fun j : Nat => Int32.ofInt (g j)) (by omega)
    show (vp_cell _ _).storeRun (Int32.ofInt 0).toNatClampNeg ((vp_cell _ _).stretch (Int32.ofInt 0).toNatClampNeg (Int32.ofInt (N : Int)).toNatClampNeg) = _
    rw [hcN, hc00, vp_cell_i, vp_cell_i, this]
    refine arrV_congr _ fun j hj => ?_
    simp [va_cpy, hj]
  rw [e1] at X' step
  have hl : a < H.size := (Array.getElem?_eq_some_iff.mp g1).1
  have hheap : ((T.setVm vm').setCell a (vp_cell (gC G 0) (N, .inl (fun j : Nat => Int32.ofInt (f j))))).heap = H.setIfInBounds a (vp_cell (gC G 0) (N, .inl (fun j : Nat => Int32.ofInt (f j)))) := by rw [← hT]; rfl
  have oq : ∀ q : Nat, q ≠ a → (H.setIfInBounds a (vp_cell (gC G 0) (N, .inl (fun j : Nat => Int32.ofInt (f j)))))[q]? = H[q]? := fun q hq => by simp [Array.getElem?_setIfInBounds, Ne.symm hq]
  obtain ⟨t, a1, w1⟩ := kk _ hput_at Fr.put p l e R s m args below meth c Q G X _ _ cells slots ls (hH.store hc (H1 := H.setIfInBounds a (vp_cell (gC G 0) (N, .inl (fun j : Nat => Int32.ofInt (f j))))) (by simp) oq (show (H.setIfInBounds a _)[a]? = some _ by simp [Array.getElem?_setIfInBounds, hl]) b2)
    ⟨by simp; exact hS.1, fun q q1 q2 => by
      rw [oq q (fun e => q2 (by rw [e]; exact g3))]
      exact hS.2.1 q q1 q2, fun q hq => by
      rcases List.mem_append.mp hq with z | z
      · exact hS.2.2 q z
      · obtain ⟨w, -, hw⟩ := List.mem_map.mp z
        rw [← hw]
        exact g3⟩ hL (vok_t (vok_t (vok_t (vok_t (vok_t hV))))) hcl hsl _ hheap X'
  exact ⟨t, step t a1, w1⟩
/-! a long into the locals -/
theorem lset2_len : ∀ (L : List (Option AV)) (i : Nat) (v : AV), (lset2 L i v).length = L.length := by
  intro L
  induction L with
  | nil => intro i v; match i with
    | 0 => rfl
    | 1 => rfl
    | i + 2 => rfl
  | cons x l ih =>
    intro i v
    match i with
    | 0 => cases l <;> rfl
    | 1 => simp [lset2, ih]
    | i + 2 => simp [lset2, ih]
theorem lset2_get : ∀ (L : List (Option AV)) (i j : Nat) (v w : AV), i + 1 < L.length → (lset2 L i v)[j]? = some (some w) → (j = i ∧ w = v) ∨ (j ≠ i ∧ j ≠ i + 1 ∧ L[j]? = some (some w) ∧ ¬ (j + 1 = i ∧ isL w = true)) := by
  intro L
  induction L with
  | nil => intro i j v w hi; simp at hi
  | cons x l ih =>
    intro i j v w hi h
    match i, l, ih, hi, h with
    | 0, [], _, hi, _ => simp at hi
    | 0, y :: l, _, _, h =>
      match j, h with
      | 0, h => left; simp [lset2] at h; exact ⟨rfl, h.symm⟩
      | 1, h => simp [lset2] at h
      | j + 2, h => right; refine ⟨by omega, by omega, by simpa [lset2] using h, by omega⟩
    | 1, l, ih, hi, h =>
      match j, h with
      | 0, h =>
        right
        have h2 : nlong x = some w := by simpa [lset2] using h
        obtain ⟨h3, h4⟩ := nlong_some h2
        exact ⟨by omega, by omega, by simp [h3], fun q => by rw [h4] at q; exact absurd q.2 (by decide)⟩
      | j + 1, h =>
        have h2 : (lset2 l 0 v)[j]? = some (some w) := by simpa [lset2] using h
        rcases ih 0 j v w (by simp at hi; omega) h2 with ⟨q1, q2⟩ | ⟨q1, q2, q3, q4⟩
        · left; exact ⟨by omega, q2⟩
        · right; exact ⟨by omega, by omega, by simpa using q3, by omega⟩
    | i + 2, l, ih, hi, h =>
      match j, h with
      | 0, h => right; exact ⟨by omega, by omega, by simpa [lset2] using h, by omega⟩
      | j + 1, h =>
        have h2 : (lset2 l (i + 1) v)[j]? = some (some w) := by simpa [lset2] using h
        rcases ih (i + 1) j v w (by simp at hi; omega) h2 with ⟨q1, q2⟩ | ⟨q1, q2, q3, q4⟩
        · left; exact ⟨by omega, q2⟩
        · right; exact ⟨by omega, by omega, by simpa using q3, fun q => q4 ⟨by omega, q.2⟩⟩
theorem LR.set2 {G : GD} {L : List (Option AV)} {ls ls' : Array Slot} {n i : Nat} {v : AV} (h : LR G L ls n) (hv : vok v) (hi : i + 1 < L.length)
    (h' : lv_has ls' n ((i, cv G v) :: (aLs G 0 L).filter (fun q => !(q.1 == i) && (!(q.1 == i + 1) && !(q.1 + 1 == i && q.2.category == 2))))) : LR G (lset2 L i v) ls' n := by
  refine ⟨⟨h'.1, h'.2.1, fun q hq => ?_⟩, by rw [lset2_len]; exact h.2.1, fun j w hj => ?_⟩
  · obtain ⟨j, x⟩ := q
    obtain ⟨w, -, h2, rfl⟩ := (aLs_in _ 0 j x).mp hq
    rw [Nat.sub_zero] at h2
    rcases lset2_get L i j v w hi h2 with ⟨rfl, rfl⟩ | ⟨q1, q2, q3, q4⟩
    · exact h'.2.2 _ List.mem_cons_self
    · refine h'.2.2 _ (List.mem_cons_of_mem _ (List.mem_filter.mpr ⟨(aLs_in L 0 j _).mpr ⟨w, Nat.zero_le _, by simpa using q3, rfl⟩, ?_⟩))
      simp only [Bool.and_eq_true, Bool.not_eq_true', beq_eq_false_iff_ne, ne_eq, Bool.and_eq_false_iff]
      refine ⟨q1, q2, ?_⟩
      by_cases e : j + 1 = i
      · right
        intro z
        exact q4 ⟨e, (isL_cat G w).mp z⟩
      · left; exact e
  · rcases lset2_get L i j v w hi hj with ⟨rfl, rfl⟩ | ⟨q1, q2, q3, q4⟩
    · exact hv
    · exact h.2.2 j w q3
theorem A.lstore {i : Nat} {x : Int64} {L' : List (Option AV)} (hd : Dls M pc i n) (hi : i + 1 < L.length) (hl : lset2 L i (vL x) = L') (k : AW M fr kb n L' S h Rp) : AW M fr kb pc L (vL x :: S) h Rp := by
  subst hl
  exact AW.go (fun hV _ => vok_t hV) (fun p l e R s m args below meth c Q G H locs cells slots ls hx hb _ _ _ hV hL kk => by
    have hi' : i + 1 < mL M := by rw [← hL.2.1]; exact hi
    rcases hd with ⟨q, hd, hq, rfl⟩ | ⟨hd, rfl⟩
    · exact lv_lstore_n hx hb hd hq hL.1 hi' rfl (fun ls' h' => kk ls' (hL.set2 (v := vL x) trivial hi h'))
    · exact lv_lstore hx hb hd hL.1 hi' rfl (fun ls' h' => kk ls' (hL.set2 (v := vL x) trivial hi h'))) k
/-! the constant of the letters -/
def Dst (M : MT) (pc n : Nat) : Prop := decode (mB M) pc = .ok (.ldc 46, 2) ∧ (mY M).cls = RX4 ∧ pc + 2 = n
theorem A.ldcS (hd : Dst M pc n) (k : AW M fr kb n L (vS :: S) h Rp) : AW M fr kb pc L S h Rp :=
  AW.go (fun hV _ => vok_c (v := vS) trivial hV) (fun p l e R s m args below meth c Q G H locs cells slots ls hx hb hown _ hK _ hL kk => by
    obtain ⟨hd, hcl, rfl⟩ := hd
    rw [hcl] at hown
    exact va_ldcS hx hb hown hK.2.2.1 hd (kk ls hL)) k
end CALLS
end
section
/-! ===== rows for locals by their number and place; calls by the number of arguments ===== -/
section SHAPES
variable {M M' : MT} {fr d : Nat} {kb : Nat × Nat} {pc n : Nat} {S : List AV} {h : AH} {Rp : RP}
theorem A.al1_0 {a : Nat} (hd : Dal M pc 0 n) (k : AW M fr kb n [some (vR a)] (vR a :: S) h Rp) : AW M fr kb pc [some (vR a)] S h Rp := A.aload hd rfl k
theorem A.al2_0 {x1 : Option AV} {a : Nat} (hd : Dal M pc 0 n) (k : AW M fr kb n [some (vR a), x1] (vR a :: S) h Rp) : AW M fr kb pc [some (vR a), x1] S h Rp := A.aload hd rfl k
theorem A.al2_1 {x0 : Option AV} {a : Nat} (hd : Dal M pc 1 n) (k : AW M fr kb n [x0, some (vR a)] (vR a :: S) h Rp) : AW M fr kb pc [x0, some (vR a)] S h Rp := A.aload hd rfl k
theorem A.al3_0 {x1 x2 : Option AV} {a : Nat} (hd : Dal M pc 0 n) (k : AW M fr kb n [some (vR a), x1, x2] (vR a :: S) h Rp) : AW M fr kb pc [some (vR a), x1, x2] S h Rp := A.aload hd rfl k
theorem A.al3_1 {x0 x2 : Option AV} {a : Nat} (hd : Dal M pc 1 n) (k : AW M fr kb n [x0, some (vR a), x2] (vR a :: S) h Rp) : AW M fr kb pc [x0, some (vR a), x2] S h Rp := A.aload hd rfl k
theorem A.al3_2 {x0 x1 : Option AV} {a : Nat} (hd : Dal M pc 2 n) (k : AW M fr kb n [x0, x1, some (vR a)] (vR a :: S) h Rp) : AW M fr kb pc [x0, x1, some (vR a)] S h Rp := A.aload hd rfl k
theorem A.al4_0 {x1 x2 x3 : Option AV} {a : Nat} (hd : Dal M pc 0 n) (k : AW M fr kb n [some (vR a), x1, x2, x3] (vR a :: S) h Rp) : AW M fr kb pc [some (vR a), x1, x2, x3] S h Rp := A.aload hd rfl k
theorem A.ax4_0 {x1 x2 x3 : Option AV} (hd : Dal M pc 0 n) (k : AW M fr kb n [some vX, x1, x2, x3] (vX :: S) h Rp) : AW M fr kb pc [some vX, x1, x2, x3] S h Rp := A.aloadX hd rfl k
theorem A.al4_1 {x0 x2 x3 : Option AV} {a : Nat} (hd : Dal M pc 1 n) (k : AW M fr kb n [x0, some (vR a), x2, x3] (vR a :: S) h Rp) : AW M fr kb pc [x0, some (vR a), x2, x3] S h Rp := A.aload hd rfl k
theorem A.ax4_1 {x0 x2 x3 : Option AV} (hd : Dal M pc 1 n) (k : AW M fr kb n [x0, some vX, x2, x3] (vX :: S) h Rp) : AW M fr kb pc [x0, some vX, x2, x3] S h Rp := A.aloadX hd rfl k
theorem A.al4_2 {x0 x1 x3 : Option AV} {a : Nat} (hd : Dal M pc 2 n) (k : AW M fr kb n [x0, x1, some (vR a), x3] (vR a :: S) h Rp) : AW M fr kb pc [x0, x1, some (vR a), x3] S h Rp := A.aload hd rfl k
theorem A.ax4_2 {x0 x1 x3 : Option AV} (hd : Dal M pc 2 n) (k : AW M fr kb n [x0, x1, some vX, x3] (vX :: S) h Rp) : AW M fr kb pc [x0, x1, some vX, x3] S h Rp := A.aloadX hd rfl k
theorem A.al4_3 {x0 x1 x2 : Option AV} {a : Nat} (hd : Dal M pc 3 n) (k : AW M fr kb n [x0, x1, x2, some (vR a)] (vR a :: S) h Rp) : AW M fr kb pc [x0, x1, x2, some (vR a)] S h Rp := A.aload hd rfl k
theorem A.ax4_3 {x0 x1 x2 : Option AV} (hd : Dal M pc 3 n) (k : AW M fr kb n [x0, x1, x2, some vX] (vX :: S) h Rp) : AW M fr kb pc [x0, x1, x2, some vX] S h Rp := A.aloadX hd rfl k
theorem A.al5_0 {x1 x2 x3 x4 : Option AV} {a : Nat} (hd : Dal M pc 0 n) (k : AW M fr kb n [some (vR a), x1, x2, x3, x4] (vR a :: S) h Rp) : AW M fr kb pc [some (vR a), x1, x2, x3, x4] S h Rp := A.aload hd rfl k
theorem A.al5_1 {x0 x2 x3 x4 : Option AV} {a : Nat} (hd : Dal M pc 1 n) (k : AW M fr kb n [x0, some (vR a), x2, x3, x4] (vR a :: S) h Rp) : AW M fr kb pc [x0, some (vR a), x2, x3, x4] S h Rp := A.aload hd rfl k
theorem A.al6_0 {x1 x2 x3 x4 x5 : Option AV} {a : Nat} (hd : Dal M pc 0 n) (k : AW M fr kb n [some (vR a), x1, x2, x3, x4, x5] (vR a :: S) h Rp) : AW M fr kb pc [some (vR a), x1, x2, x3, x4, x5] S h Rp := A.aload hd rfl k
theorem A.al6_1 {x0 x2 x3 x4 x5 : Option AV} {a : Nat} (hd : Dal M pc 1 n) (k : AW M fr kb n [x0, some (vR a), x2, x3, x4, x5] (vR a :: S) h Rp) : AW M fr kb pc [x0, some (vR a), x2, x3, x4, x5] S h Rp := A.aload hd rfl k
theorem A.al7_0 {x1 x2 x3 x4 x5 x6 : Option AV} {a : Nat} (hd : Dal M pc 0 n) (k : AW M fr kb n [some (vR a), x1, x2, x3, x4, x5, x6] (vR a :: S) h Rp) : AW M fr kb pc [some (vR a), x1, x2, x3, x4, x5, x6] S h Rp := A.aload hd rfl k
theorem A.al8_0 {x1 x2 x3 x4 x5 x6 x7 : Option AV} {a : Nat} (hd : Dal M pc 0 n) (k : AW M fr kb n [some (vR a), x1, x2, x3, x4, x5, x6, x7] (vR a :: S) h Rp) : AW M fr kb pc [some (vR a), x1, x2, x3, x4, x5, x6, x7] S h Rp := A.aload hd rfl k
theorem A.al9_0 {x1 x2 x3 x4 x5 x6 x7 x8 : Option AV} {a : Nat} (hd : Dal M pc 0 n) (k : AW M fr kb n [some (vR a), x1, x2, x3, x4, x5, x6, x7, x8] (vR a :: S) h Rp) : AW M fr kb pc [some (vR a), x1, x2, x3, x4, x5, x6, x7, x8] S h Rp := A.aload hd rfl k
theorem A.al9_1 {x0 x2 x3 x4 x5 x6 x7 x8 : Option AV} {a : Nat} (hd : Dal M pc 1 n) (k : AW M fr kb n [x0, some (vR a), x2, x3, x4, x5, x6, x7, x8] (vR a :: S) h Rp) : AW M fr kb pc [x0, some (vR a), x2, x3, x4, x5, x6, x7, x8] S h Rp := A.aload hd rfl k
theorem A.as2_1 {x0 x1 : Option AV} {z : Nat} (hd : Das M pc 1 n) (k : AW M fr kb n [x0, some (vR z)] S h Rp) (hx : nlong x0 = x0 := by rfl) : AW M fr kb pc [x0, x1] (vR z :: S) h Rp := A.astore hd (blt_ok rfl) (by show [nlong x0, some (vR z)] = _; rw [hx]) k
theorem A.as3_1 {x0 x1 x2 : Option AV} {z : Nat} (hd : Das M pc 1 n) (k : AW M fr kb n [x0, some (vR z), x2] S h Rp) (hx : nlong x0 = x0 := by rfl) : AW M fr kb pc [x0, x1, x2] (vR z :: S) h Rp := A.astore hd (blt_ok rfl) (by show [nlong x0, some (vR z), x2] = _; rw [hx]) k
theorem A.as3_2 {x0 x1 x2 : Option AV} {z : Nat} (hd : Das M pc 2 n) (k : AW M fr kb n [x0, x1, some (vR z)] S h Rp) (hx : nlong x1 = x1 := by rfl) : AW M fr kb pc [x0, x1, x2] (vR z :: S) h Rp := A.astore hd (blt_ok rfl) (by show [x0, nlong x1, some (vR z)] = _; rw [hx]) k
theorem A.as4_1 {x0 x1 x2 x3 : Option AV} {z : Nat} (hd : Das M pc 1 n) (k : AW M fr kb n [x0, some (vR z), x2, x3] S h Rp) (hx : nlong x0 = x0 := by rfl) : AW M fr kb pc [x0, x1, x2, x3] (vR z :: S) h Rp := A.astore hd (blt_ok rfl) (by show [nlong x0, some (vR z), x2, x3] = _; rw [hx]) k
theorem A.as4_2 {x0 x1 x2 x3 : Option AV} {z : Nat} (hd : Das M pc 2 n) (k : AW M fr kb n [x0, x1, some (vR z), x3] S h Rp) (hx : nlong x1 = x1 := by rfl) : AW M fr kb pc [x0, x1, x2, x3] (vR z :: S) h Rp := A.astore hd (blt_ok rfl) (by show [x0, nlong x1, some (vR z), x3] = _; rw [hx]) k
theorem A.as4_3 {x0 x1 x2 x3 : Option AV} {z : Nat} (hd : Das M pc 3 n) (k : AW M fr kb n [x0, x1, x2, some (vR z)] S h Rp) (hx : nlong x2 = x2 := by rfl) : AW M fr kb pc [x0, x1, x2, x3] (vR z :: S) h Rp := A.astore hd (blt_ok rfl) (by show [x0, x1, nlong x2, some (vR z)] = _; rw [hx]) k
theorem A.ii2_1 {x0 : Option AV} {z c : Int} (hd : Dc M pc (.iinc 1 c) 3 n) (k : AW M fr kb n [x0, some (vI (z + c))] S h Rp) (hr : -2147483648 ≤ z + c ∧ z + c ≤ 2147483647 := by omega) (hx : nlong x0 = x0 := by rfl) : AW M fr kb pc [x0, some (vI z)] S h Rp := A.iinc hd rfl (by show [nlong x0, some (vI (z + c))] = _; rw [hx]) hr k
theorem A.ii3_1 {x0 x2 : Option AV} {z c : Int} (hd : Dc M pc (.iinc 1 c) 3 n) (k : AW M fr kb n [x0, some (vI (z + c)), x2] S h Rp) (hr : -2147483648 ≤ z + c ∧ z + c ≤ 2147483647 := by omega) (hx : nlong x0 = x0 := by rfl) : AW M fr kb pc [x0, some (vI z), x2] S h Rp := A.iinc hd rfl (by show [nlong x0, some (vI (z + c)), x2] = _; rw [hx]) hr k
theorem A.ii3_2 {x0 x1 : Option AV} {z c : Int} (hd : Dc M pc (.iinc 2 c) 3 n) (k : AW M fr kb n [x0, x1, some (vI (z + c))] S h Rp) (hr : -2147483648 ≤ z + c ∧ z + c ≤ 2147483647 := by omega) (hx : nlong x1 = x1 := by rfl) : AW M fr kb pc [x0, x1, some (vI z)] S h Rp := A.iinc hd rfl (by show [x0, nlong x1, some (vI (z + c))] = _; rw [hx]) hr k
theorem A.ii4_1 {x0 x2 x3 : Option AV} {z c : Int} (hd : Dc M pc (.iinc 1 c) 3 n) (k : AW M fr kb n [x0, some (vI (z + c)), x2, x3] S h Rp) (hr : -2147483648 ≤ z + c ∧ z + c ≤ 2147483647 := by omega) (hx : nlong x0 = x0 := by rfl) : AW M fr kb pc [x0, some (vI z), x2, x3] S h Rp := A.iinc hd rfl (by show [nlong x0, some (vI (z + c)), x2, x3] = _; rw [hx]) hr k
theorem A.ii4_2 {x0 x1 x3 : Option AV} {z c : Int} (hd : Dc M pc (.iinc 2 c) 3 n) (k : AW M fr kb n [x0, x1, some (vI (z + c)), x3] S h Rp) (hr : -2147483648 ≤ z + c ∧ z + c ≤ 2147483647 := by omega) (hx : nlong x1 = x1 := by rfl) : AW M fr kb pc [x0, x1, some (vI z), x3] S h Rp := A.iinc hd rfl (by show [x0, nlong x1, some (vI (z + c)), x3] = _; rw [hx]) hr k
theorem A.ii4_3 {x0 x1 x2 : Option AV} {z c : Int} (hd : Dc M pc (.iinc 3 c) 3 n) (k : AW M fr kb n [x0, x1, x2, some (vI (z + c))] S h Rp) (hr : -2147483648 ≤ z + c ∧ z + c ≤ 2147483647 := by omega) (hx : nlong x2 = x2 := by rfl) : AW M fr kb pc [x0, x1, x2, some (vI z)] S h Rp := A.iinc hd rfl (by show [x0, x1, nlong x2, some (vI (z + c))] = _; rw [hx]) hr k
theorem A.ii5_2 {x0 x1 x3 x4 : Option AV} {z c : Int} (hd : Dc M pc (.iinc 2 c) 3 n) (k : AW M fr kb n [x0, x1, some (vI (z + c)), x3, x4] S h Rp) (hr : -2147483648 ≤ z + c ∧ z + c ≤ 2147483647 := by omega) (hx : nlong x1 = x1 := by rfl) : AW M fr kb pc [x0, x1, some (vI z), x3, x4] S h Rp := A.iinc hd rfl (by show [x0, nlong x1, some (vI (z + c)), x3, x4] = _; rw [hx]) hr k
theorem A.ii5_4 {x0 x1 x2 x3 : Option AV} {z c : Int} (hd : Dc M pc (.iinc 4 c) 3 n) (k : AW M fr kb n [x0, x1, x2, x3, some (vI (z + c))] S h Rp) (hr : -2147483648 ≤ z + c ∧ z + c ≤ 2147483647 := by omega) (hx : nlong x3 = x3 := by rfl) : AW M fr kb pc [x0, x1, x2, x3, some (vI z)] S h Rp := A.iinc hd rfl (by show [x0, x1, x2, nlong x3, some (vI (z + c))] = _; rw [hx]) hr k
theorem A.ii6_2 {x0 x1 x3 x4 x5 : Option AV} {z c : Int} (hd : Dc M pc (.iinc 2 c) 3 n) (k : AW M fr kb n [x0, x1, some (vI (z + c)), x3, x4, x5] S h Rp) (hr : -2147483648 ≤ z + c ∧ z + c ≤ 2147483647 := by omega) (hx : nlong x1 = x1 := by rfl) : AW M fr kb pc [x0, x1, some (vI z), x3, x4, x5] S h Rp := A.iinc hd rfl (by show [x0, nlong x1, some (vI (z + c)), x3, x4, x5] = _; rw [hx]) hr k
theorem A.ii6_5 {x0 x1 x2 x3 x4 : Option AV} {z c : Int} (hd : Dc M pc (.iinc 5 c) 3 n) (k : AW M fr kb n [x0, x1, x2, x3, x4, some (vI (z + c))] S h Rp) (hr : -2147483648 ≤ z + c ∧ z + c ≤ 2147483647 := by omega) (hx : nlong x4 = x4 := by rfl) : AW M fr kb pc [x0, x1, x2, x3, x4, some (vI z)] S h Rp := A.iinc hd rfl (by show [x0, x1, x2, x3, nlong x4, some (vI (z + c))] = _; rw [hx]) hr k
theorem A.ii7_6 {x0 x1 x2 x3 x4 x5 : Option AV} {z c : Int} (hd : Dc M pc (.iinc 6 c) 3 n) (k : AW M fr kb n [x0, x1, x2, x3, x4, x5, some (vI (z + c))] S h Rp) (hr : -2147483648 ≤ z + c ∧ z + c ≤ 2147483647 := by omega) (hx : nlong x5 = x5 := by rfl) : AW M fr kb pc [x0, x1, x2, x3, x4, x5, some (vI z)] S h Rp := A.iinc hd rfl (by show [x0, x1, x2, x3, x4, nlong x5, some (vI (z + c))] = _; rw [hx]) hr k
theorem A.ii8_6 {x0 x1 x2 x3 x4 x5 x7 : Option AV} {z c : Int} (hd : Dc M pc (.iinc 6 c) 3 n) (k : AW M fr kb n [x0, x1, x2, x3, x4, x5, some (vI (z + c)), x7] S h Rp) (hr : -2147483648 ≤ z + c ∧ z + c ≤ 2147483647 := by omega) (hx : nlong x5 = x5 := by rfl) : AW M fr kb pc [x0, x1, x2, x3, x4, x5, some (vI z), x7] S h Rp := A.iinc hd rfl (by show [x0, x1, x2, x3, x4, nlong x5, some (vI (z + c)), x7] = _; rw [hx]) hr k
theorem A.ii8_7 {x0 x1 x2 x3 x4 x5 x6 : Option AV} {z c : Int} (hd : Dc M pc (.iinc 7 c) 3 n) (k : AW M fr kb n [x0, x1, x2, x3, x4, x5, x6, some (vI (z + c))] S h Rp) (hr : -2147483648 ≤ z + c ∧ z + c ≤ 2147483647 := by omega) (hx : nlong x6 = x6 := by rfl) : AW M fr kb pc [x0, x1, x2, x3, x4, x5, x6, some (vI z)] S h Rp := A.iinc hd rfl (by show [x0, x1, x2, x3, x4, x5, nlong x6, some (vI (z + c))] = _; rw [hx]) hr k
theorem A.ii9_7 {x0 x1 x2 x3 x4 x5 x6 x8 : Option AV} {z c : Int} (hd : Dc M pc (.iinc 7 c) 3 n) (k : AW M fr kb n [x0, x1, x2, x3, x4, x5, x6, some (vI (z + c)), x8] S h Rp) (hr : -2147483648 ≤ z + c ∧ z + c ≤ 2147483647 := by omega) (hx : nlong x6 = x6 := by rfl) : AW M fr kb pc [x0, x1, x2, x3, x4, x5, x6, some (vI z), x8] S h Rp := A.iinc hd rfl (by show [x0, x1, x2, x3, x4, x5, nlong x6, some (vI (z + c)), x8] = _; rw [hx]) hr k
theorem A.il1_0 {z : Int} (hd : Dil M pc 0 n) (k : AW M fr kb n [some (vI z)] (vI z :: S) h Rp) : AW M fr kb pc [some (vI z)] S h Rp := A.iload hd rfl k
theorem A.il2_1 {x0 : Option AV} {z : Int} (hd : Dil M pc 1 n) (k : AW M fr kb n [x0, some (vI z)] (vI z :: S) h Rp) : AW M fr kb pc [x0, some (vI z)] S h Rp := A.iload hd rfl k
theorem A.il3_0 {x1 x2 : Option AV} {z : Int} (hd : Dil M pc 0 n) (k : AW M fr kb n [some (vI z), x1, x2] (vI z :: S) h Rp) : AW M fr kb pc [some (vI z), x1, x2] S h Rp := A.iload hd rfl k
theorem A.il3_1 {x0 x2 : Option AV} {z : Int} (hd : Dil M pc 1 n) (k : AW M fr kb n [x0, some (vI z), x2] (vI z :: S) h Rp) : AW M fr kb pc [x0, some (vI z), x2] S h Rp := A.iload hd rfl k
theorem A.il3_2 {x0 x1 : Option AV} {z : Int} (hd : Dil M pc 2 n) (k : AW M fr kb n [x0, x1, some (vI z)] (vI z :: S) h Rp) : AW M fr kb pc [x0, x1, some (vI z)] S h Rp := A.iload hd rfl k
theorem A.il4_1 {x0 x2 x3 : Option AV} {z : Int} (hd : Dil M pc 1 n) (k : AW M fr kb n [x0, some (vI z), x2, x3] (vI z :: S) h Rp) : AW M fr kb pc [x0, some (vI z), x2, x3] S h Rp := A.iload hd rfl k
theorem A.il4_2 {x0 x1 x3 : Option AV} {z : Int} (hd : Dil M pc 2 n) (k : AW M fr kb n [x0, x1, some (vI z), x3] (vI z :: S) h Rp) : AW M fr kb pc [x0, x1, some (vI z), x3] S h Rp := A.iload hd rfl k
theorem A.il4_3 {x0 x1 x2 : Option AV} {z : Int} (hd : Dil M pc 3 n) (k : AW M fr kb n [x0, x1, x2, some (vI z)] (vI z :: S) h Rp) : AW M fr kb pc [x0, x1, x2, some (vI z)] S h Rp := A.iload hd rfl k
theorem A.il5_1 {x0 x2 x3 x4 : Option AV} {z : Int} (hd : Dil M pc 1 n) (k : AW M fr kb n [x0, some (vI z), x2, x3, x4] (vI z :: S) h Rp) : AW M fr kb pc [x0, some (vI z), x2, x3, x4] S h Rp := A.iload hd rfl k
theorem A.il5_2 {x0 x1 x3 x4 : Option AV} {z : Int} (hd : Dil M pc 2 n) (k : AW M fr kb n [x0, x1, some (vI z), x3, x4] (vI z :: S) h Rp) : AW M fr kb pc [x0, x1, some (vI z), x3, x4] S h Rp := A.iload hd rfl k
theorem A.il5_3 {x0 x1 x2 x4 : Option AV} {z : Int} (hd : Dil M pc 3 n) (k : AW M fr kb n [x0, x1, x2, some (vI z), x4] (vI z :: S) h Rp) : AW M fr kb pc [x0, x1, x2, some (vI z), x4] S h Rp := A.iload hd rfl k
theorem A.il5_4 {x0 x1 x2 x3 : Option AV} {z : Int} (hd : Dil M pc 4 n) (k : AW M fr kb n [x0, x1, x2, x3, some (vI z)] (vI z :: S) h Rp) : AW M fr kb pc [x0, x1, x2, x3, some (vI z)] S h Rp := A.iload hd rfl k
theorem A.il6_1 {x0 x2 x3 x4 x5 : Option AV} {z : Int} (hd : Dil M pc 1 n) (k : AW M fr kb n [x0, some (vI z), x2, x3, x4, x5] (vI z :: S) h Rp) : AW M fr kb pc [x0, some (vI z), x2, x3, x4, x5] S h Rp := A.iload hd rfl k
theorem A.il6_2 {x0 x1 x3 x4 x5 : Option AV} {z : Int} (hd : Dil M pc 2 n) (k : AW M fr kb n [x0, x1, some (vI z), x3, x4, x5] (vI z :: S) h Rp) : AW M fr kb pc [x0, x1, some (vI z), x3, x4, x5] S h Rp := A.iload hd rfl k
theorem A.il6_3 {x0 x1 x2 x4 x5 : Option AV} {z : Int} (hd : Dil M pc 3 n) (k : AW M fr kb n [x0, x1, x2, some (vI z), x4, x5] (vI z :: S) h Rp) : AW M fr kb pc [x0, x1, x2, some (vI z), x4, x5] S h Rp := A.iload hd rfl k
theorem A.il6_4 {x0 x1 x2 x3 x5 : Option AV} {z : Int} (hd : Dil M pc 4 n) (k : AW M fr kb n [x0, x1, x2, x3, some (vI z), x5] (vI z :: S) h Rp) : AW M fr kb pc [x0, x1, x2, x3, some (vI z), x5] S h Rp := A.iload hd rfl k
theorem A.il6_5 {x0 x1 x2 x3 x4 : Option AV} {z : Int} (hd : Dil M pc 5 n) (k : AW M fr kb n [x0, x1, x2, x3, x4, some (vI z)] (vI z :: S) h Rp) : AW M fr kb pc [x0, x1, x2, x3, x4, some (vI z)] S h Rp := A.iload hd rfl k
theorem A.il7_1 {x0 x2 x3 x4 x5 x6 : Option AV} {z : Int} (hd : Dil M pc 1 n) (k : AW M fr kb n [x0, some (vI z), x2, x3, x4, x5, x6] (vI z :: S) h Rp) : AW M fr kb pc [x0, some (vI z), x2, x3, x4, x5, x6] S h Rp := A.iload hd rfl k
theorem A.il7_2 {x0 x1 x3 x4 x5 x6 : Option AV} {z : Int} (hd : Dil M pc 2 n) (k : AW M fr kb n [x0, x1, some (vI z), x3, x4, x5, x6] (vI z :: S) h Rp) : AW M fr kb pc [x0, x1, some (vI z), x3, x4, x5, x6] S h Rp := A.iload hd rfl k
theorem A.il7_3 {x0 x1 x2 x4 x5 x6 : Option AV} {z : Int} (hd : Dil M pc 3 n) (k : AW M fr kb n [x0, x1, x2, some (vI z), x4, x5, x6] (vI z :: S) h Rp) : AW M fr kb pc [x0, x1, x2, some (vI z), x4, x5, x6] S h Rp := A.iload hd rfl k
theorem A.il7_4 {x0 x1 x2 x3 x5 x6 : Option AV} {z : Int} (hd : Dil M pc 4 n) (k : AW M fr kb n [x0, x1, x2, x3, some (vI z), x5, x6] (vI z :: S) h Rp) : AW M fr kb pc [x0, x1, x2, x3, some (vI z), x5, x6] S h Rp := A.iload hd rfl k
theorem A.il7_5 {x0 x1 x2 x3 x4 x6 : Option AV} {z : Int} (hd : Dil M pc 5 n) (k : AW M fr kb n [x0, x1, x2, x3, x4, some (vI z), x6] (vI z :: S) h Rp) : AW M fr kb pc [x0, x1, x2, x3, x4, some (vI z), x6] S h Rp := A.iload hd rfl k
theorem A.il7_6 {x0 x1 x2 x3 x4 x5 : Option AV} {z : Int} (hd : Dil M pc 6 n) (k : AW M fr kb n [x0, x1, x2, x3, x4, x5, some (vI z)] (vI z :: S) h Rp) : AW M fr kb pc [x0, x1, x2, x3, x4, x5, some (vI z)] S h Rp := A.iload hd rfl k
theorem A.il8_3 {x0 x1 x2 x4 x5 x6 x7 : Option AV} {z : Int} (hd : Dil M pc 3 n) (k : AW M fr kb n [x0, x1, x2, some (vI z), x4, x5, x6, x7] (vI z :: S) h Rp) : AW M fr kb pc [x0, x1, x2, some (vI z), x4, x5, x6, x7] S h Rp := A.iload hd rfl k
theorem A.il8_6 {x0 x1 x2 x3 x4 x5 x7 : Option AV} {z : Int} (hd : Dil M pc 6 n) (k : AW M fr kb n [x0, x1, x2, x3, x4, x5, some (vI z), x7] (vI z :: S) h Rp) : AW M fr kb pc [x0, x1, x2, x3, x4, x5, some (vI z), x7] S h Rp := A.iload hd rfl k
theorem A.il8_7 {x0 x1 x2 x3 x4 x5 x6 : Option AV} {z : Int} (hd : Dil M pc 7 n) (k : AW M fr kb n [x0, x1, x2, x3, x4, x5, x6, some (vI z)] (vI z :: S) h Rp) : AW M fr kb pc [x0, x1, x2, x3, x4, x5, x6, some (vI z)] S h Rp := A.iload hd rfl k
theorem A.il9_2 {x0 x1 x3 x4 x5 x6 x7 x8 : Option AV} {z : Int} (hd : Dil M pc 2 n) (k : AW M fr kb n [x0, x1, some (vI z), x3, x4, x5, x6, x7, x8] (vI z :: S) h Rp) : AW M fr kb pc [x0, x1, some (vI z), x3, x4, x5, x6, x7, x8] S h Rp := A.iload hd rfl k
theorem A.il9_3 {x0 x1 x2 x4 x5 x6 x7 x8 : Option AV} {z : Int} (hd : Dil M pc 3 n) (k : AW M fr kb n [x0, x1, x2, some (vI z), x4, x5, x6, x7, x8] (vI z :: S) h Rp) : AW M fr kb pc [x0, x1, x2, some (vI z), x4, x5, x6, x7, x8] S h Rp := A.iload hd rfl k
theorem A.il9_4 {x0 x1 x2 x3 x5 x6 x7 x8 : Option AV} {z : Int} (hd : Dil M pc 4 n) (k : AW M fr kb n [x0, x1, x2, x3, some (vI z), x5, x6, x7, x8] (vI z :: S) h Rp) : AW M fr kb pc [x0, x1, x2, x3, some (vI z), x5, x6, x7, x8] S h Rp := A.iload hd rfl k
theorem A.il9_5 {x0 x1 x2 x3 x4 x6 x7 x8 : Option AV} {z : Int} (hd : Dil M pc 5 n) (k : AW M fr kb n [x0, x1, x2, x3, x4, some (vI z), x6, x7, x8] (vI z :: S) h Rp) : AW M fr kb pc [x0, x1, x2, x3, x4, some (vI z), x6, x7, x8] S h Rp := A.iload hd rfl k
theorem A.il9_6 {x0 x1 x2 x3 x4 x5 x7 x8 : Option AV} {z : Int} (hd : Dil M pc 6 n) (k : AW M fr kb n [x0, x1, x2, x3, x4, x5, some (vI z), x7, x8] (vI z :: S) h Rp) : AW M fr kb pc [x0, x1, x2, x3, x4, x5, some (vI z), x7, x8] S h Rp := A.iload hd rfl k
theorem A.il9_7 {x0 x1 x2 x3 x4 x5 x6 x8 : Option AV} {z : Int} (hd : Dil M pc 7 n) (k : AW M fr kb n [x0, x1, x2, x3, x4, x5, x6, some (vI z), x8] (vI z :: S) h Rp) : AW M fr kb pc [x0, x1, x2, x3, x4, x5, x6, some (vI z), x8] S h Rp := A.iload hd rfl k
theorem A.il9_8 {x0 x1 x2 x3 x4 x5 x6 x7 : Option AV} {z : Int} (hd : Dil M pc 8 n) (k : AW M fr kb n [x0, x1, x2, x3, x4, x5, x6, x7, some (vI z)] (vI z :: S) h Rp) : AW M fr kb pc [x0, x1, x2, x3, x4, x5, x6, x7, some (vI z)] S h Rp := A.iload hd rfl k
theorem A.is2_1 {x0 x1 : Option AV} {z : Int} (hd : Dis M pc 1 n) (k : AW M fr kb n [x0, some (vI z)] S h Rp) (hx : nlong x0 = x0 := by rfl) : AW M fr kb pc [x0, x1] (vI z :: S) h Rp := A.istore hd (blt_ok rfl) (by show [nlong x0, some (vI z)] = _; rw [hx]) k
theorem A.is3_1 {x0 x1 x2 : Option AV} {z : Int} (hd : Dis M pc 1 n) (k : AW M fr kb n [x0, some (vI z), x2] S h Rp) (hx : nlong x0 = x0 := by rfl) : AW M fr kb pc [x0, x1, x2] (vI z :: S) h Rp := A.istore hd (blt_ok rfl) (by show [nlong x0, some (vI z), x2] = _; rw [hx]) k
theorem A.is3_2 {x0 x1 x2 : Option AV} {z : Int} (hd : Dis M pc 2 n) (k : AW M fr kb n [x0, x1, some (vI z)] S h Rp) (hx : nlong x1 = x1 := by rfl) : AW M fr kb pc [x0, x1, x2] (vI z :: S) h Rp := A.istore hd (blt_ok rfl) (by show [x0, nlong x1, some (vI z)] = _; rw [hx]) k
theorem A.is4_1 {x0 x1 x2 x3 : Option AV} {z : Int} (hd : Dis M pc 1 n) (k : AW M fr kb n [x0, some (vI z), x2, x3] S h Rp) (hx : nlong x0 = x0 := by rfl) : AW M fr kb pc [x0, x1, x2, x3] (vI z :: S) h Rp := A.istore hd (blt_ok rfl) (by show [nlong x0, some (vI z), x2, x3] = _; rw [hx]) k
theorem A.is4_2 {x0 x1 x2 x3 : Option AV} {z : Int} (hd : Dis M pc 2 n) (k : AW M fr kb n [x0, x1, some (vI z), x3] S h Rp) (hx : nlong x1 = x1 := by rfl) : AW M fr kb pc [x0, x1, x2, x3] (vI z :: S) h Rp := A.istore hd (blt_ok rfl) (by show [x0, nlong x1, some (vI z), x3] = _; rw [hx]) k
theorem A.is4_3 {x0 x1 x2 x3 : Option AV} {z : Int} (hd : Dis M pc 3 n) (k : AW M fr kb n [x0, x1, x2, some (vI z)] S h Rp) (hx : nlong x2 = x2 := by rfl) : AW M fr kb pc [x0, x1, x2, x3] (vI z :: S) h Rp := A.istore hd (blt_ok rfl) (by show [x0, x1, nlong x2, some (vI z)] = _; rw [hx]) k
theorem A.is5_2 {x0 x1 x2 x3 x4 : Option AV} {z : Int} (hd : Dis M pc 2 n) (k : AW M fr kb n [x0, x1, some (vI z), x3, x4] S h Rp) (hx : nlong x1 = x1 := by rfl) : AW M fr kb pc [x0, x1, x2, x3, x4] (vI z :: S) h Rp := A.istore hd (blt_ok rfl) (by show [x0, nlong x1, some (vI z), x3, x4] = _; rw [hx]) k
theorem A.is5_3 {x0 x1 x2 x3 x4 : Option AV} {z : Int} (hd : Dis M pc 3 n) (k : AW M fr kb n [x0, x1, x2, some (vI z), x4] S h Rp) (hx : nlong x2 = x2 := by rfl) : AW M fr kb pc [x0, x1, x2, x3, x4] (vI z :: S) h Rp := A.istore hd (blt_ok rfl) (by show [x0, x1, nlong x2, some (vI z), x4] = _; rw [hx]) k
theorem A.is5_4 {x0 x1 x2 x3 x4 : Option AV} {z : Int} (hd : Dis M pc 4 n) (k : AW M fr kb n [x0, x1, x2, x3, some (vI z)] S h Rp) (hx : nlong x3 = x3 := by rfl) : AW M fr kb pc [x0, x1, x2, x3, x4] (vI z :: S) h Rp := A.istore hd (blt_ok rfl) (by show [x0, x1, x2, nlong x3, some (vI z)] = _; rw [hx]) k
theorem A.is6_2 {x0 x1 x2 x3 x4 x5 : Option AV} {z : Int} (hd : Dis M pc 2 n) (k : AW M fr kb n [x0, x1, some (vI z), x3, x4, x5] S h Rp) (hx : nlong x1 = x1 := by rfl) : AW M fr kb pc [x0, x1, x2, x3, x4, x5] (vI z :: S) h Rp := A.istore hd (blt_ok rfl) (by show [x0, nlong x1, some (vI z), x3, x4, x5] = _; rw [hx]) k
theorem A.is6_3 {x0 x1 x2 x3 x4 x5 : Option AV} {z : Int} (hd : Dis M pc 3 n) (k : AW M fr kb n [x0, x1, x2, some (vI z), x4, x5] S h Rp) (hx : nlong x2 = x2 := by rfl) : AW M fr kb pc [x0, x1, x2, x3, x4, x5] (vI z :: S) h Rp := A.istore hd (blt_ok rfl) (by show [x0, x1, nlong x2, some (vI z), x4, x5] = _; rw [hx]) k
theorem A.is6_4 {x0 x1 x2 x3 x4 x5 : Option AV} {z : Int} (hd : Dis M pc 4 n) (k : AW M fr kb n [x0, x1, x2, x3, some (vI z), x5] S h Rp) (hx : nlong x3 = x3 := by rfl) : AW M fr kb pc [x0, x1, x2, x3, x4, x5] (vI z :: S) h Rp := A.istore hd (blt_ok rfl) (by show [x0, x1, x2, nlong x3, some (vI z), x5] = _; rw [hx]) k
theorem A.is6_5 {x0 x1 x2 x3 x4 x5 : Option AV} {z : Int} (hd : Dis M pc 5 n) (k : AW M fr kb n [x0, x1, x2, x3, x4, some (vI z)] S h Rp) (hx : nlong x4 = x4 := by rfl) : AW M fr kb pc [x0, x1, x2, x3, x4, x5] (vI z :: S) h Rp := A.istore hd (blt_ok rfl) (by show [x0, x1, x2, x3, nlong x4, some (vI z)] = _; rw [hx]) k
theorem A.is7_3 {x0 x1 x2 x3 x4 x5 x6 : Option AV} {z : Int} (hd : Dis M pc 3 n) (k : AW M fr kb n [x0, x1, x2, some (vI z), x4, x5, x6] S h Rp) (hx : nlong x2 = x2 := by rfl) : AW M fr kb pc [x0, x1, x2, x3, x4, x5, x6] (vI z :: S) h Rp := A.istore hd (blt_ok rfl) (by show [x0, x1, nlong x2, some (vI z), x4, x5, x6] = _; rw [hx]) k
theorem A.is7_4 {x0 x1 x2 x3 x4 x5 x6 : Option AV} {z : Int} (hd : Dis M pc 4 n) (k : AW M fr kb n [x0, x1, x2, x3, some (vI z), x5, x6] S h Rp) (hx : nlong x3 = x3 := by rfl) : AW M fr kb pc [x0, x1, x2, x3, x4, x5, x6] (vI z :: S) h Rp := A.istore hd (blt_ok rfl) (by show [x0, x1, x2, nlong x3, some (vI z), x5, x6] = _; rw [hx]) k
theorem A.is7_5 {x0 x1 x2 x3 x4 x5 x6 : Option AV} {z : Int} (hd : Dis M pc 5 n) (k : AW M fr kb n [x0, x1, x2, x3, x4, some (vI z), x6] S h Rp) (hx : nlong x4 = x4 := by rfl) : AW M fr kb pc [x0, x1, x2, x3, x4, x5, x6] (vI z :: S) h Rp := A.istore hd (blt_ok rfl) (by show [x0, x1, x2, x3, nlong x4, some (vI z), x6] = _; rw [hx]) k
theorem A.is7_6 {x0 x1 x2 x3 x4 x5 x6 : Option AV} {z : Int} (hd : Dis M pc 6 n) (k : AW M fr kb n [x0, x1, x2, x3, x4, x5, some (vI z)] S h Rp) (hx : nlong x5 = x5 := by rfl) : AW M fr kb pc [x0, x1, x2, x3, x4, x5, x6] (vI z :: S) h Rp := A.istore hd (blt_ok rfl) (by show [x0, x1, x2, x3, x4, nlong x5, some (vI z)] = _; rw [hx]) k
theorem A.is8_6 {x0 x1 x2 x3 x4 x5 x6 x7 : Option AV} {z : Int} (hd : Dis M pc 6 n) (k : AW M fr kb n [x0, x1, x2, x3, x4, x5, some (vI z), x7] S h Rp) (hx : nlong x5 = x5 := by rfl) : AW M fr kb pc [x0, x1, x2, x3, x4, x5, x6, x7] (vI z :: S) h Rp := A.istore hd (blt_ok rfl) (by show [x0, x1, x2, x3, x4, nlong x5, some (vI z), x7] = _; rw [hx]) k
theorem A.is8_7 {x0 x1 x2 x3 x4 x5 x6 x7 : Option AV} {z : Int} (hd : Dis M pc 7 n) (k : AW M fr kb n [x0, x1, x2, x3, x4, x5, x6, some (vI z)] S h Rp) (hx : nlong x6 = x6 := by rfl) : AW M fr kb pc [x0, x1, x2, x3, x4, x5, x6, x7] (vI z :: S) h Rp := A.istore hd (blt_ok rfl) (by show [x0, x1, x2, x3, x4, x5, nlong x6, some (vI z)] = _; rw [hx]) k
theorem A.is9_5 {x0 x1 x2 x3 x4 x5 x6 x7 x8 : Option AV} {z : Int} (hd : Dis M pc 5 n) (k : AW M fr kb n [x0, x1, x2, x3, x4, some (vI z), x6, x7, x8] S h Rp) (hx : nlong x4 = x4 := by rfl) : AW M fr kb pc [x0, x1, x2, x3, x4, x5, x6, x7, x8] (vI z :: S) h Rp := A.istore hd (blt_ok rfl) (by show [x0, x1, x2, x3, nlong x4, some (vI z), x6, x7, x8] = _; rw [hx]) k
theorem A.is9_6 {x0 x1 x2 x3 x4 x5 x6 x7 x8 : Option AV} {z : Int} (hd : Dis M pc 6 n) (k : AW M fr kb n [x0, x1, x2, x3, x4, x5, some (vI z), x7, x8] S h Rp) (hx : nlong x5 = x5 := by rfl) : AW M fr kb pc [x0, x1, x2, x3, x4, x5, x6, x7, x8] (vI z :: S) h Rp := A.istore hd (blt_ok rfl) (by show [x0, x1, x2, x3, x4, nlong x5, some (vI z), x7, x8] = _; rw [hx]) k
theorem A.is9_7 {x0 x1 x2 x3 x4 x5 x6 x7 x8 : Option AV} {z : Int} (hd : Dis M pc 7 n) (k : AW M fr kb n [x0, x1, x2, x3, x4, x5, x6, some (vI z), x8] S h Rp) (hx : nlong x6 = x6 := by rfl) : AW M fr kb pc [x0, x1, x2, x3, x4, x5, x6, x7, x8] (vI z :: S) h Rp := A.istore hd (blt_ok rfl) (by show [x0, x1, x2, x3, x4, x5, nlong x6, some (vI z), x8] = _; rw [hx]) k
theorem A.is9_8 {x0 x1 x2 x3 x4 x5 x6 x7 x8 : Option AV} {z : Int} (hd : Dis M pc 8 n) (k : AW M fr kb n [x0, x1, x2, x3, x4, x5, x6, x7, some (vI z)] S h Rp) (hx : nlong x7 = x7 := by rfl) : AW M fr kb pc [x0, x1, x2, x3, x4, x5, x6, x7, x8] (vI z :: S) h Rp := A.istore hd (blt_ok rfl) (by show [x0, x1, x2, x3, x4, x5, x6, nlong x7, some (vI z)] = _; rw [hx]) k
theorem A.ll4_1 {x0 x2 x3 : Option AV} {x : Int64} (hd : Dll M pc 1 n) (k : AW M fr kb n [x0, some (vL x), x2, x3] (vL x :: S) h Rp) : AW M fr kb pc [x0, some (vL x), x2, x3] S h Rp := A.lload hd rfl k
theorem A.ll8_1 {x0 x2 x3 x4 x5 x6 x7 : Option AV} {x : Int64} (hd : Dll M pc 1 n) (k : AW M fr kb n [x0, some (vL x), x2, x3, x4, x5, x6, x7] (vL x :: S) h Rp) : AW M fr kb pc [x0, some (vL x), x2, x3, x4, x5, x6, x7] S h Rp := A.lload hd rfl k
theorem A.ll8_4 {x0 x1 x2 x3 x5 x6 x7 : Option AV} {x : Int64} (hd : Dll M pc 4 n) (k : AW M fr kb n [x0, x1, x2, x3, some (vL x), x5, x6, x7] (vL x :: S) h Rp) : AW M fr kb pc [x0, x1, x2, x3, some (vL x), x5, x6, x7] S h Rp := A.lload hd rfl k
theorem A.ls4_1 {x0 x1 x2 x3 : Option AV} {x : Int64} (hd : Dls M pc 1 n) (k : AW M fr kb n [x0, some (vL x), none, x3] S h Rp) (hx : nlong x0 = x0 := by rfl) : AW M fr kb pc [x0, x1, x2, x3] (vL x :: S) h Rp := A.lstore hd (blt_ok rfl) (by show [nlong x0, some (vL x), none, x3] = _; rw [hx]) k
theorem A.ls8_4 {x0 x1 x2 x3 x4 x5 x6 x7 : Option AV} {x : Int64} (hd : Dls M pc 4 n) (k : AW M fr kb n [x0, x1, x2, x3, some (vL x), none, x6, x7] S h Rp) (hx : nlong x3 = x3 := by rfl) : AW M fr kb pc [x0, x1, x2, x3, x4, x5, x6, x7] (vL x :: S) h Rp := A.lstore hd (blt_ok rfl) (by show [x0, x1, x2, nlong x3, some (vL x), none, x6, x7] = _; rw [hx]) k
theorem A.v0 {L : List (Option AV)} {a ci : Nat} {fs : List AV} {C : String} {T : u_T} {N : Nat} (hd : Div M pc M' 0 n) (hM : AM M' d h [vR a] (kont M (d + 1) kb n L S Rp)) (hc : h.2 a = some (kO ci fs) := by assumption) (hcl : vwCl[ci]? = some (C, T, N) := by rfl) (hC : C = (mY M').cls := by rfl) (hz : mC M' = 0 ∧ mS M' = 0 := by exact ⟨rfl, rfl⟩) (hS4 : S.length ≤ 4 := by exact Nat.le_of_ble_eq_true rfl) : AW M (d + 1) kb pc L (vR a :: S) h Rp := A.invV (as := []) hd hM rfl rfl hc hcl hC hz (Nat.le_refl _) hS4
theorem A.s0 {L : List (Option AV)} (hd : Dis' M pc M' 0 n) (hM : AM M' d h [] (kont M (d + 1) kb n L S Rp)) (hz : mC M' = 0 ∧ mS M' = 0 := by exact ⟨rfl, rfl⟩) (hS4 : S.length ≤ 4 := by exact Nat.le_of_ble_eq_true rfl) : AW M (d + 1) kb pc L (S) h Rp := A.invS (as := []) hd hM rfl rfl hz (Nat.le_refl _) hS4
theorem A.n0 {L : List (Option AV)} (hd : DisN M pc M' 0 n) (hM : AM M' d h [] (kont M (d + 1) kb n L S Rp)) (hz : mC M' = 0 ∧ mS M' = 0 := by exact ⟨rfl, rfl⟩) (hS4 : S.length ≤ 4 := by exact Nat.le_of_ble_eq_true rfl) : AW M (d + 1) kb pc L (S) h Rp := A.invSN (as := []) hd hM rfl rfl hz (Nat.le_refl _) hS4
theorem A.v1 {y1 : AV} {L : List (Option AV)} {a ci : Nat} {fs : List AV} {C : String} {T : u_T} {N : Nat} (hd : Div M pc M' 1 n) (hM : AM M' d h [vR a, y1] (kont M (d + 1) kb n L S Rp)) (hc : h.2 a = some (kO ci fs) := by assumption) (hcl : vwCl[ci]? = some (C, T, N) := by rfl) (hC : C = (mY M').cls := by rfl) (hz : mC M' = 0 ∧ mS M' = 0 := by exact ⟨rfl, rfl⟩) (hS4 : S.length ≤ 4 := by exact Nat.le_of_ble_eq_true rfl) : AW M (d + 1) kb pc L (y1 :: vR a :: S) h Rp := A.invV (as := [y1]) hd hM rfl rfl hc hcl hC hz (Nat.le_refl _) hS4
theorem A.s1 {y1 : AV} {L : List (Option AV)} (hd : Dis' M pc M' 1 n) (hM : AM M' d h [y1] (kont M (d + 1) kb n L S Rp)) (hz : mC M' = 0 ∧ mS M' = 0 := by exact ⟨rfl, rfl⟩) (hS4 : S.length ≤ 4 := by exact Nat.le_of_ble_eq_true rfl) : AW M (d + 1) kb pc L (y1 :: S) h Rp := A.invS (as := [y1]) hd hM rfl rfl hz (Nat.le_refl _) hS4
theorem A.n1 {y1 : AV} {L : List (Option AV)} (hd : DisN M pc M' 1 n) (hM : AM M' d h [y1] (kont M (d + 1) kb n L S Rp)) (hz : mC M' = 0 ∧ mS M' = 0 := by exact ⟨rfl, rfl⟩) (hS4 : S.length ≤ 4 := by exact Nat.le_of_ble_eq_true rfl) : AW M (d + 1) kb pc L (y1 :: S) h Rp := A.invSN (as := [y1]) hd hM rfl rfl hz (Nat.le_refl _) hS4
theorem A.v2 {y1 y2 : AV} {L : List (Option AV)} {a ci : Nat} {fs : List AV} {C : String} {T : u_T} {N : Nat} (hd : Div M pc M' 2 n) (hM : AM M' d h [vR a, y1, y2] (kont M (d + 1) kb n L S Rp)) (hc : h.2 a = some (kO ci fs) := by assumption) (hcl : vwCl[ci]? = some (C, T, N) := by rfl) (hC : C = (mY M').cls := by rfl) (hz : mC M' = 0 ∧ mS M' = 0 := by exact ⟨rfl, rfl⟩) (hS4 : S.length ≤ 4 := by exact Nat.le_of_ble_eq_true rfl) : AW M (d + 1) kb pc L (y2 :: y1 :: vR a :: S) h Rp := A.invV (as := [y1, y2]) hd hM rfl rfl hc hcl hC hz (Nat.le_refl _) hS4
theorem A.s2 {y1 y2 : AV} {L : List (Option AV)} (hd : Dis' M pc M' 2 n) (hM : AM M' d h [y1, y2] (kont M (d + 1) kb n L S Rp)) (hz : mC M' = 0 ∧ mS M' = 0 := by exact ⟨rfl, rfl⟩) (hS4 : S.length ≤ 4 := by exact Nat.le_of_ble_eq_true rfl) : AW M (d + 1) kb pc L (y2 :: y1 :: S) h Rp := A.invS (as := [y1, y2]) hd hM rfl rfl hz (Nat.le_refl _) hS4
theorem A.n2 {y1 y2 : AV} {L : List (Option AV)} (hd : DisN M pc M' 2 n) (hM : AM M' d h [y1, y2] (kont M (d + 1) kb n L S Rp)) (hz : mC M' = 0 ∧ mS M' = 0 := by exact ⟨rfl, rfl⟩) (hS4 : S.length ≤ 4 := by exact Nat.le_of_ble_eq_true rfl) : AW M (d + 1) kb pc L (y2 :: y1 :: S) h Rp := A.invSN (as := [y1, y2]) hd hM rfl rfl hz (Nat.le_refl _) hS4
theorem A.v3 {y1 y2 y3 : AV} {L : List (Option AV)} {a ci : Nat} {fs : List AV} {C : String} {T : u_T} {N : Nat} (hd : Div M pc M' 3 n) (hM : AM M' d h [vR a, y1, y2, y3] (kont M (d + 1) kb n L S Rp)) (hc : h.2 a = some (kO ci fs) := by assumption) (hcl : vwCl[ci]? = some (C, T, N) := by rfl) (hC : C = (mY M').cls := by rfl) (hz : mC M' = 0 ∧ mS M' = 0 := by exact ⟨rfl, rfl⟩) (hS4 : S.length ≤ 4 := by exact Nat.le_of_ble_eq_true rfl) : AW M (d + 1) kb pc L (y3 :: y2 :: y1 :: vR a :: S) h Rp := A.invV (as := [y1, y2, y3]) hd hM rfl rfl hc hcl hC hz (Nat.le_refl _) hS4
theorem A.s3 {y1 y2 y3 : AV} {L : List (Option AV)} (hd : Dis' M pc M' 3 n) (hM : AM M' d h [y1, y2, y3] (kont M (d + 1) kb n L S Rp)) (hz : mC M' = 0 ∧ mS M' = 0 := by exact ⟨rfl, rfl⟩) (hS4 : S.length ≤ 4 := by exact Nat.le_of_ble_eq_true rfl) : AW M (d + 1) kb pc L (y3 :: y2 :: y1 :: S) h Rp := A.invS (as := [y1, y2, y3]) hd hM rfl rfl hz (Nat.le_refl _) hS4
theorem A.n3 {y1 y2 y3 : AV} {L : List (Option AV)} (hd : DisN M pc M' 3 n) (hM : AM M' d h [y1, y2, y3] (kont M (d + 1) kb n L S Rp)) (hz : mC M' = 0 ∧ mS M' = 0 := by exact ⟨rfl, rfl⟩) (hS4 : S.length ≤ 4 := by exact Nat.le_of_ble_eq_true rfl) : AW M (d + 1) kb pc L (y3 :: y2 :: y1 :: S) h Rp := A.invSN (as := [y1, y2, y3]) hd hM rfl rfl hz (Nat.le_refl _) hS4
theorem A.tsw4 {x lo : Int} {t0 t1 t2 t3 td : Nat} {L : List (Option AV)} (hd : Dts M pc lo [t0, t1, t2, t3] td) (k0 : x = lo + 0 → AW M fr kb t0 L S h Rp) (k1 : x = lo + 1 → AW M fr kb t1 L S h Rp) (k2 : x = lo + 2 → AW M fr kb t2 L S h Rp) (k3 : x = lo + 3 → AW M fr kb t3 L S h Rp) (kd : x < lo ∨ lo + 4 ≤ x → AW M fr kb td L S h Rp) : AW M fr kb pc L (vI x :: S) h Rp := A.tsw hd (And.intro (fun q => k0 (by omega)) (And.intro (fun q => k1 (by omega)) (And.intro (fun q => k2 (by omega)) (And.intro (fun q => k3 (by omega)) (trivial))))) (fun q => kd (by simp only [List.length_cons, List.length_nil] at q; omega))
theorem A.tsw5 {x lo : Int} {t0 t1 t2 t3 t4 td : Nat} {L : List (Option AV)} (hd : Dts M pc lo [t0, t1, t2, t3, t4] td) (k0 : x = lo + 0 → AW M fr kb t0 L S h Rp) (k1 : x = lo + 1 → AW M fr kb t1 L S h Rp) (k2 : x = lo + 2 → AW M fr kb t2 L S h Rp) (k3 : x = lo + 3 → AW M fr kb t3 L S h Rp) (k4 : x = lo + 4 → AW M fr kb t4 L S h Rp) (kd : x < lo ∨ lo + 5 ≤ x → AW M fr kb td L S h Rp) : AW M fr kb pc L (vI x :: S) h Rp := A.tsw hd (And.intro (fun q => k0 (by omega)) (And.intro (fun q => k1 (by omega)) (And.intro (fun q => k2 (by omega)) (And.intro (fun q => k3 (by omega)) (And.intro (fun q => k4 (by omega)) (trivial)))))) (fun q => kd (by simp only [List.length_cons, List.length_nil] at q; omega))
theorem A.tsw6 {x lo : Int} {t0 t1 t2 t3 t4 t5 td : Nat} {L : List (Option AV)} (hd : Dts M pc lo [t0, t1, t2, t3, t4, t5] td) (k0 : x = lo + 0 → AW M fr kb t0 L S h Rp) (k1 : x = lo + 1 → AW M fr kb t1 L S h Rp) (k2 : x = lo + 2 → AW M fr kb t2 L S h Rp) (k3 : x = lo + 3 → AW M fr kb t3 L S h Rp) (k4 : x = lo + 4 → AW M fr kb t4 L S h Rp) (k5 : x = lo + 5 → AW M fr kb t5 L S h Rp) (kd : x < lo ∨ lo + 6 ≤ x → AW M fr kb td L S h Rp) : AW M fr kb pc L (vI x :: S) h Rp := A.tsw hd (And.intro (fun q => k0 (by omega)) (And.intro (fun q => k1 (by omega)) (And.intro (fun q => k2 (by omega)) (And.intro (fun q => k3 (by omega)) (And.intro (fun q => k4 (by omega)) (And.intro (fun q => k5 (by omega)) (trivial))))))) (fun q => kd (by simp only [List.length_cons, List.length_nil] at q; omega))
theorem A.tsw7 {x lo : Int} {t0 t1 t2 t3 t4 t5 t6 td : Nat} {L : List (Option AV)} (hd : Dts M pc lo [t0, t1, t2, t3, t4, t5, t6] td) (k0 : x = lo + 0 → AW M fr kb t0 L S h Rp) (k1 : x = lo + 1 → AW M fr kb t1 L S h Rp) (k2 : x = lo + 2 → AW M fr kb t2 L S h Rp) (k3 : x = lo + 3 → AW M fr kb t3 L S h Rp) (k4 : x = lo + 4 → AW M fr kb t4 L S h Rp) (k5 : x = lo + 5 → AW M fr kb t5 L S h Rp) (k6 : x = lo + 6 → AW M fr kb t6 L S h Rp) (kd : x < lo ∨ lo + 7 ≤ x → AW M fr kb td L S h Rp) : AW M fr kb pc L (vI x :: S) h Rp := A.tsw hd (And.intro (fun q => k0 (by omega)) (And.intro (fun q => k1 (by omega)) (And.intro (fun q => k2 (by omega)) (And.intro (fun q => k3 (by omega)) (And.intro (fun q => k4 (by omega)) (And.intro (fun q => k5 (by omega)) (And.intro (fun q => k6 (by omega)) (trivial)))))))) (fun q => kd (by simp only [List.length_cons, List.length_nil] at q; omega))
theorem A.tsw18 {x lo : Int} {t0 t1 t2 t3 t4 t5 t6 t7 t8 t9 t10 t11 t12 t13 t14 t15 t16 t17 td : Nat} {L : List (Option AV)} (hd : Dts M pc lo [t0, t1, t2, t3, t4, t5, t6, t7, t8, t9, t10, t11, t12, t13, t14, t15, t16, t17] td) (k0 : x = lo + 0 → AW M fr kb t0 L S h Rp) (k1 : x = lo + 1 → AW M fr kb t1 L S h Rp) (k2 : x = lo + 2 → AW M fr kb t2 L S h Rp) (k3 : x = lo + 3 → AW M fr kb t3 L S h Rp) (k4 : x = lo + 4 → AW M fr kb t4 L S h Rp) (k5 : x = lo + 5 → AW M fr kb t5 L S h Rp) (k6 : x = lo + 6 → AW M fr kb t6 L S h Rp) (k7 : x = lo + 7 → AW M fr kb t7 L S h Rp) (k8 : x = lo + 8 → AW M fr kb t8 L S h Rp) (k9 : x = lo + 9 → AW M fr kb t9 L S h Rp) (k10 : x = lo + 10 → AW M fr kb t10 L S h Rp) (k11 : x = lo + 11 → AW M fr kb t11 L S h Rp) (k12 : x = lo + 12 → AW M fr kb t12 L S h Rp) (k13 : x = lo + 13 → AW M fr kb t13 L S h Rp) (k14 : x = lo + 14 → AW M fr kb t14 L S h Rp) (k15 : x = lo + 15 → AW M fr kb t15 L S h Rp) (k16 : x = lo + 16 → AW M fr kb t16 L S h Rp) (k17 : x = lo + 17 → AW M fr kb t17 L S h Rp) (kd : x < lo ∨ lo + 18 ≤ x → AW M fr kb td L S h Rp) : AW M fr kb pc L (vI x :: S) h Rp := A.tsw hd (And.intro (fun q => k0 (by omega)) (And.intro (fun q => k1 (by omega)) (And.intro (fun q => k2 (by omega)) (And.intro (fun q => k3 (by omega)) (And.intro (fun q => k4 (by omega)) (And.intro (fun q => k5 (by omega)) (And.intro (fun q => k6 (by omega)) (And.intro (fun q => k7 (by omega)) (And.intro (fun q => k8 (by omega)) (And.intro (fun q => k9 (by omega)) (And.intro (fun q => k10 (by omega)) (And.intro (fun q => k11 (by omega)) (And.intro (fun q => k12 (by omega)) (And.intro (fun q => k13 (by omega)) (And.intro (fun q => k14 (by omega)) (And.intro (fun q => k15 (by omega)) (And.intro (fun q => k16 (by omega)) (And.intro (fun q => k17 (by omega)) (trivial))))))))))))))))))) (fun q => kd (by simp only [List.length_cons, List.length_nil] at q; omega))
theorem A.tsw22 {x lo : Int} {t0 t1 t2 t3 t4 t5 t6 t7 t8 t9 t10 t11 t12 t13 t14 t15 t16 t17 t18 t19 t20 t21 td : Nat} {L : List (Option AV)} (hd : Dts M pc lo [t0, t1, t2, t3, t4, t5, t6, t7, t8, t9, t10, t11, t12, t13, t14, t15, t16, t17, t18, t19, t20, t21] td) (k0 : x = lo + 0 → AW M fr kb t0 L S h Rp) (k1 : x = lo + 1 → AW M fr kb t1 L S h Rp) (k2 : x = lo + 2 → AW M fr kb t2 L S h Rp) (k3 : x = lo + 3 → AW M fr kb t3 L S h Rp) (k4 : x = lo + 4 → AW M fr kb t4 L S h Rp) (k5 : x = lo + 5 → AW M fr kb t5 L S h Rp) (k6 : x = lo + 6 → AW M fr kb t6 L S h Rp) (k7 : x = lo + 7 → AW M fr kb t7 L S h Rp) (k8 : x = lo + 8 → AW M fr kb t8 L S h Rp) (k9 : x = lo + 9 → AW M fr kb t9 L S h Rp) (k10 : x = lo + 10 → AW M fr kb t10 L S h Rp) (k11 : x = lo + 11 → AW M fr kb t11 L S h Rp) (k12 : x = lo + 12 → AW M fr kb t12 L S h Rp) (k13 : x = lo + 13 → AW M fr kb t13 L S h Rp) (k14 : x = lo + 14 → AW M fr kb t14 L S h Rp) (k15 : x = lo + 15 → AW M fr kb t15 L S h Rp) (k16 : x = lo + 16 → AW M fr kb t16 L S h Rp) (k17 : x = lo + 17 → AW M fr kb t17 L S h Rp) (k18 : x = lo + 18 → AW M fr kb t18 L S h Rp) (k19 : x = lo + 19 → AW M fr kb t19 L S h Rp) (k20 : x = lo + 20 → AW M fr kb t20 L S h Rp) (k21 : x = lo + 21 → AW M fr kb t21 L S h Rp) (kd : x < lo ∨ lo + 22 ≤ x → AW M fr kb td L S h Rp) : AW M fr kb pc L (vI x :: S) h Rp := A.tsw hd (And.intro (fun q => k0 (by omega)) (And.intro (fun q => k1 (by omega)) (And.intro (fun q => k2 (by omega)) (And.intro (fun q => k3 (by omega)) (And.intro (fun q => k4 (by omega)) (And.intro (fun q => k5 (by omega)) (And.intro (fun q => k6 (by omega)) (And.intro (fun q => k7 (by omega)) (And.intro (fun q => k8 (by omega)) (And.intro (fun q => k9 (by omega)) (And.intro (fun q => k10 (by omega)) (And.intro (fun q => k11 (by omega)) (And.intro (fun q => k12 (by omega)) (And.intro (fun q => k13 (by omega)) (And.intro (fun q => k14 (by omega)) (And.intro (fun q => k15 (by omega)) (And.intro (fun q => k16 (by omega)) (And.intro (fun q => k17 (by omega)) (And.intro (fun q => k18 (by omega)) (And.intro (fun q => k19 (by omega)) (And.intro (fun q => k20 (by omega)) (And.intro (fun q => k21 (by omega)) (trivial))))))))))))))))))))))) (fun q => kd (by simp only [List.length_cons, List.length_nil] at q; omega))
end SHAPES
end
section
/-! ===== methods, and what their calls and fields need of the tables ===== -/
theorem inGX0 : ∀ w ∈ u_ws RX0 TX0 8, w ∈ tG := fun w h => tG_of (inX0 w h) (List.all_eq_true.mp (by decide +kernel : (u_ws RX0 TX0 8).all goodWord = true) w h)
theorem inGX1 : ∀ w ∈ u_ws RX1 TX1 4, w ∈ tG := fun w h => tG_of (inX1 w h) (List.all_eq_true.mp (by decide +kernel : (u_ws RX1 TX1 4).all goodWord = true) w h)
theorem inGX2 : ∀ w ∈ u_ws RX2 TX2 6, w ∈ tG := fun w h => tG_of (inX2 w h) (List.all_eq_true.mp (by decide +kernel : (u_ws RX2 TX2 6).all goodWord = true) w h)
theorem inGX3 : ∀ w ∈ u_ws RX3 TX3 6, w ∈ tG := fun w h => tG_of (inX3 w h) (List.all_eq_true.mp (by decide +kernel : (u_ws RX3 TX3 6).all goodWord = true) w h)
theorem inGX4 : ∀ w ∈ u_ws RX4 TX4 5, w ∈ tG := fun w h => tG_of (inX4 w h) (List.all_eq_true.mp (by decide +kernel : (u_ws RX4 TX4 5).all goodWord = true) w h)
theorem inGX5 : ∀ w ∈ u_ws RX5 TX5 4, w ∈ tG := fun w h => tG_of (inX5 w h) (List.all_eq_true.mp (by decide +kernel : (u_ws RX5 TX5 4).all goodWord = true) w h)
theorem inGX6 : ∀ w ∈ u_ws RX6 TX6 27, w ∈ tG := fun w h => tG_of (inX6 w h) (List.all_eq_true.mp (by decide +kernel : (u_ws RX6 TX6 27).all goodWord = true) w h)
def m0_init : MT := (yX0_init, cX0_init, 1, none, true, 8, 7958)
def m0_draw : MT := (yX0_draw, cX0_draw, 6, none, false, 0, 0)
def m0_reachedWith : MT := (yX0_reachedWith, cX0_reachedWith, 4, (some .int), false, 0, 0)
def m0_reachedEnds : MT := (yX0_reachedEnds, cX0_reachedEnds, 3, (some .int), false, 0, 0)
def m0_wayLength : MT := (yX0_wayLength, cX0_wayLength, 2, (some .int), false, 0, 0)
def m0_wayChoice : MT := (yX0_wayChoice, cX0_wayChoice, 6, (some .int), false, 0, 0)
def m0_canUse : MT := (yX0_canUse, cX0_canUse, 5, (some .boolean), false, 0, 0)
def m0_follow : MT := (yX0_follow, cX0_follow, 9, none, false, 0, 0)
def m0_arrive : MT := (yX0_arrive, cX0_arrive, 5, none, false, 0, 0)
def m0_isReached : MT := (yX0_isReached, cX0_isReached, 4, (some .boolean), false, 0, 0)
def m0_isSituation : MT := (yX0_isSituation, cX0_isSituation, 1, (some .boolean), false, 0, 0)
def m0_nodeOf : MT := (yX0_nodeOf, cX0_nodeOf, 1, (some .int), false, 0, 0)
def m0_flagsOf : MT := (yX0_flagsOf, cX0_flagsOf, 1, (some .int), false, 0, 0)
def m1_init : MT := (yX1_init, cX1_init, 1, none, true, 2, 6)
def m1_makeEmpty : MT := (yX1_makeEmpty, cX1_makeEmpty, 1, none, false, 0, 0)
def m1_makeLike : MT := (yX1_makeLike, cX1_makeLike, 2, none, false, 0, 0)
def m1_comeFrom : MT := (yX1_comeFrom, cX1_comeFrom, 5, none, false, 0, 0)
def m1_carryOut : MT := (yX1_carryOut, cX1_carryOut, 5, (some .int), false, 0, 0)
def m1_putAt : MT := (yX1_putAt, cX1_putAt, 4, none, false, 0, 0)
def m1_hide : MT := (yX1_hide, cX1_hide, 3, none, false, 0, 0)
def m2_init : MT := (yX2_init, cX2_init, 2, none, true, 73, 287)
def m2_now : MT := (yX2_now, cX2_now, 1, (some (.object "PictureScript$Moment")), false, 0, 0)
def m2_startScript : MT := (yX2_startScript, cX2_startScript, 3, none, false, 0, 0)
def m2_startAnew : MT := (yX2_startAnew, cX2_startAnew, 2, none, false, 0, 0)
def m2_goOn : MT := (yX2_goOn, cX2_goOn, 4, (some .boolean), false, 0, 0)
def m2_turnBack : MT := (yX2_turnBack, cX2_turnBack, 2, (some .boolean), false, 0, 0)
def m2_turnForth : MT := (yX2_turnForth, cX2_turnForth, 1, (some .boolean), false, 0, 0)
def m2_keepIn : MT := (yX2_keepIn, cX2_keepIn, 2, none, false, 0, 0)
def m2_takeFrom : MT := (yX2_takeFrom, cX2_takeFrom, 2, (some .boolean), false, 0, 0)
def m2_seenNodes : MT := (yX2_seenNodes, cX2_seenNodes, 3, (some .int), false, 0, 0)
def m2_usedSlots : MT := (yX2_usedSlots, cX2_usedSlots, 3, (some .int), false, 0, 0)
def m2_keepOneMoment : MT := (yX2_keepOneMoment, cX2_keepOneMoment, 1, none, false, 0, 0)
def m2_forgetEarliest : MT := (yX2_forgetEarliest, cX2_forgetEarliest, 3, none, false, 0, 0)
def m2_see : MT := (yX2_see, cX2_see, 3, (some .boolean), false, 0, 0)
def m3_init : MT := (yX3_init, cX3_init, 1, none, true, 5, 522)
def m3_clear : MT := (yX3_clear, cX3_clear, 1, none, false, 0, 0)
def m3_addNode : MT := (yX3_addNode, cX3_addNode, 2, none, false, 0, 0)
def m3_addNumber : MT := (yX3_addNumber, cX3_addNumber, 3, none, false, 0, 0)
def m3_addOption : MT := (yX3_addOption, cX3_addOption, 6, none, false, 0, 0)
def m3_has : MT := (yX3_has, cX3_has, 2, (some .boolean), false, 0, 0)
def m3_kindOf : MT := (yX3_kindOf, cX3_kindOf, 2, (some .int), false, 0, 0)
def m3_optionsOf : MT := (yX3_optionsOf, cX3_optionsOf, 2, (some .int), false, 0, 0)
def m3_numberOf : MT := (yX3_numberOf, cX3_numberOf, 3, (some .int), false, 0, 0)
def m3_optionPart : MT := (yX3_optionPart, cX3_optionPart, 4, (some .int), false, 0, 0)
def m3_isOpen : MT := (yX3_isOpen, cX3_isOpen, 6, (some .boolean), false, 0, 0)
def m3_openOptions : MT := (yX3_openOptions, cX3_openOptions, 5, (some .int), false, 0, 0)
def m3_isShown : MT := (yX3_isShown, cX3_isShown, 3, (some .boolean), false, 0, 0)
def m3_shownKind : MT := (yX3_shownKind, cX3_shownKind, 3, (some .int), false, 0, 0)
def m3_shownNumber : MT := (yX3_shownNumber, cX3_shownNumber, 2, (some .int), false, 0, 0)
def m4_init : MT := (yX4_init, cX4_init, 1, none, true, 7, 628)
def m4_append : MT := (yX4_append, cX4_append, 2, (some .boolean), false, 0, 0)
def m4_byteAt : MT := (yX4_byteAt, cX4_byteAt, 2, (some .int), false, 0, 0)
def m4_findFault : MT := (yX4_findFault, cX4_findFault, 2, (some .int), false, 0, 0)
def m4_takeNode : MT := (yX4_takeNode, cX4_takeNode, 2, (some .boolean), false, 0, 0)
def m4_takeOptions : MT := (yX4_takeOptions, cX4_takeOptions, 2, (some .boolean), false, 0, 0)
def m4_takeOption : MT := (yX4_takeOption, cX4_takeOption, 3, (some .boolean), false, 0, 0)
def m4_addVoice : MT := (yX4_addVoice, cX4_addVoice, 2, (some .boolean), false, 0, 0)
def m4_addPlusOrMinus : MT := (yX4_addPlusOrMinus, cX4_addPlusOrMinus, 2, (some .boolean), false, 0, 0)
def m4_addDigit : MT := (yX4_addDigit, cX4_addDigit, 2, (some .boolean), false, 0, 0)
def m4_addNumber : MT := (yX4_addNumber, cX4_addNumber, 2, (some .boolean), false, 0, 0)
def m4_takeDigit : MT := (yX4_takeDigit, cX4_takeDigit, 2, (some .boolean), false, 0, 0)
def m4_takeNumber : MT := (yX4_takeNumber, cX4_takeNumber, 3, (some .boolean), false, 0, 0)
def m4_takeSign : MT := (yX4_takeSign, cX4_takeSign, 2, (some .boolean), false, 0, 0)
def m4_skipBlanks : MT := (yX4_skipBlanks, cX4_skipBlanks, 1, none, false, 0, 0)
def m4_isAtDigit : MT := (yX4_isAtDigit, cX4_isAtDigit, 1, (some .boolean), false, 0, 0)
def m4_isAtEnd : MT := (yX4_isAtEnd, cX4_isAtEnd, 1, (some .boolean), false, 0, 0)
def m4_here : MT := (yX4_here, cX4_here, 1, (some .int), false, 0, 0)
def m5_init : MT := (yX5_init, cX5_init, 1, none, true, 97, 9420)
def m5_type : MT := (yX5_type, cX5_type, 2, (some .int), false, 0, 0)
def m5_clearText : MT := (yX5_clearText, cX5_clearText, 2, (some .int), false, 0, 0)
def m5_fault : MT := (yX5_fault, cX5_fault, 1, (some .int), false, 0, 0)
def m5_read : MT := (yX5_read, cX5_read, 2, (some .int), false, 0, 0)
def m5_begin : MT := (yX5_begin, cX5_begin, 1, (some .int), false, 0, 0)
def m5_go : MT := (yX5_go, cX5_go, 1, (some .int), false, 0, 0)
def m5_choose : MT := (yX5_choose, cX5_choose, 3, (some .int), false, 0, 0)
def m5_skip : MT := (yX5_skip, cX5_skip, 3, (some .int), false, 0, 0)
def m5_back : MT := (yX5_back, cX5_back, 2, (some .int), false, 0, 0)
def m5_again : MT := (yX5_again, cX5_again, 1, (some .int), false, 0, 0)
def m5_save : MT := (yX5_save, cX5_save, 2, (some .int), false, 0, 0)
def m5_restore : MT := (yX5_restore, cX5_restore, 2, (some .int), false, 0, 0)
def m5_shown : MT := (yX5_shown, cX5_shown, 3, (some .int), false, 0, 0)
def m5_portrait : MT := (yX5_portrait, cX5_portrait, 4, (some .int), false, 0, 0)
def m5_node : MT := (yX5_node, cX5_node, 3, (some .int), false, 0, 0)
def m5_option : MT := (yX5_option, cX5_option, 4, (some .int), false, 0, 0)
def m5_situations : MT := (yX5_situations, cX5_situations, 2, (some .int), false, 0, 0)
def m5_choicesTo : MT := (yX5_choicesTo, cX5_choicesTo, 3, (some .int), false, 0, 0)
def m5_wayTo : MT := (yX5_wayTo, cX5_wayTo, 4, (some .int), false, 0, 0)
def m5_usable : MT := (yX5_usable, cX5_usable, 3, (some .int), false, 0, 0)
def m5_count : MT := (yX5_count, cX5_count, 2, (some .int), false, 0, 0)
def m5_digest : MT := (yX5_digest, cX5_digest, 4, (some .long), false, 0, 0)
def m5_digestNode : MT := (yX5_digestNode, cX5_digestNode, 8, (some .long), false, 0, 0)
def m5_isLineShown : MT := (yX5_isLineShown, cX5_isLineShown, 1, (some .boolean), false, 0, 0)
def m5_goOnFromLine : MT := (yX5_goOnFromLine, cX5_goOnFromLine, 1, (some .boolean), false, 0, 0)
def m5_endIndex : MT := (yX5_endIndex, cX5_endIndex, 1, (some .int), false, 0, 0)
def m6_init : MT := (yX6_init, cX6_init, 1, none, true, 15, 8964)
def m6_in : MT := (yX6_in, cX6_in, 3, (some .boolean), false, 0, 0)
def m6_type : MT := (yX6_type, cX6_type, 2, (some .int), false, 0, 0)
def m6_clearText : MT := (yX6_clearText, cX6_clearText, 2, (some .int), false, 0, 0)
def m6_next : MT := (yX6_next, cX6_next, 1, (some .int), false, 0, 0)
def m6_isDigit : MT := (yX6_isDigit, cX6_isDigit, 1, (some .boolean), false, 0, 0)
def m6_blanks : MT := (yX6_blanks, cX6_blanks, 1, none, false, 0, 0)
def m6_fails : MT := (yX6_fails, cX6_fails, 2, none, false, 0, 0)
def m6_take : MT := (yX6_take, cX6_take, 3, (some .int), false, 0, 0)
def m6_voice : MT := (yX6_voice, cX6_voice, 1, (some .int), false, 0, 0)
def m6_digit : MT := (yX6_digit, cX6_digit, 3, (some .int), false, 0, 0)
def m6_number : MT := (yX6_number, cX6_number, 4, (some .int), false, 0, 0)
def m6_kindOf : MT := (yX6_kindOf, cX6_kindOf, 1, (some .int), false, 0, 0)
def m6_readsOptions : MT := (yX6_readsOptions, cX6_readsOptions, 5, none, false, 0, 0)
def m6_readsNode : MT := (yX6_readsNode, cX6_readsNode, 4, none, false, 0, 0)
def m6_reads : MT := (yX6_reads, cX6_reads, 1, none, false, 0, 0)
def m6_fault : MT := (yX6_fault, cX6_fault, 1, (some .int), false, 0, 0)
def m6_of : MT := (yX6_of, cX6_of, 3, (some .int), false, 0, 0)
def m6_shownKind : MT := (yX6_shownKind, cX6_shownKind, 3, (some .int), false, 0, 0)
def m6_endOf : MT := (yX6_endOf, cX6_endOf, 2, (some .int), false, 0, 0)
def m6_leaves : MT := (yX6_leaves, cX6_leaves, 3, none, false, 0, 0)
def m6_does : MT := (yX6_does, cX6_does, 4, (some .int), false, 0, 0)
def m6_carries : MT := (yX6_carries, cX6_carries, 4, (some .int), false, 0, 0)
def m6_isLocked : MT := (yX6_isLocked, cX6_isLocked, 6, (some .boolean), false, 0, 0)
def m6_placeOf : MT := (yX6_placeOf, cX6_placeOf, 2, (some .int), false, 0, 0)
def m6_present : MT := (yX6_present, cX6_present, 2, (some .int), false, 0, 0)
def m6_puts : MT := (yX6_puts, cX6_puts, 4, none, false, 0, 0)
def m6_takes : MT := (yX6_takes, cX6_takes, 2, none, false, 0, 0)
def m6_starts : MT := (yX6_starts, cX6_starts, 2, none, false, 0, 0)
def m6_goesOn : MT := (yX6_goesOn, cX6_goesOn, 3, none, false, 0, 0)
def m6_read : MT := (yX6_read, cX6_read, 2, (some .int), false, 0, 0)
def m6_begin : MT := (yX6_begin, cX6_begin, 1, (some .int), false, 0, 0)
def m6_go : MT := (yX6_go, cX6_go, 1, (some .int), false, 0, 0)
def m6_choose : MT := (yX6_choose, cX6_choose, 3, (some .int), false, 0, 0)
def m6_skip : MT := (yX6_skip, cX6_skip, 4, (some .int), false, 0, 0)
def m6_back : MT := (yX6_back, cX6_back, 2, (some .int), false, 0, 0)
def m6_again : MT := (yX6_again, cX6_again, 1, (some .int), false, 0, 0)
def m6_save : MT := (yX6_save, cX6_save, 3, (some .int), false, 0, 0)
def m6_restore : MT := (yX6_restore, cX6_restore, 3, (some .int), false, 0, 0)
def m6_open : MT := (yX6_open, cX6_open, 4, (some .int), false, 0, 0)
def m6_shown : MT := (yX6_shown, cX6_shown, 4, (some .int), false, 0, 0)
def m6_portrait : MT := (yX6_portrait, cX6_portrait, 3, (some .int), false, 0, 0)
def m6_isNode : MT := (yX6_isNode, cX6_isNode, 2, (some .boolean), false, 0, 0)
def m6_node : MT := (yX6_node, cX6_node, 3, (some .int), false, 0, 0)
def m6_isChoice : MT := (yX6_isChoice, cX6_isChoice, 2, (some .boolean), false, 0, 0)
def m6_option : MT := (yX6_option, cX6_option, 5, (some .int), false, 0, 0)
def m6_follows : MT := (yX6_follows, cX6_follows, 7, none, false, 0, 0)
def m6_charts : MT := (yX6_charts, cX6_charts, 4, none, false, 0, 0)
def m6_situationsOf : MT := (yX6_situationsOf, cX6_situationsOf, 4, (some .int), false, 0, 0)
def m6_situations : MT := (yX6_situations, cX6_situations, 2, (some .int), false, 0, 0)
def m6_isEndNumber : MT := (yX6_isEndNumber, cX6_isEndNumber, 1, (some .boolean), false, 0, 0)
def m6_stepsTo : MT := (yX6_stepsTo, cX6_stepsTo, 4, (some .int), false, 0, 0)
def m6_choicesTo : MT := (yX6_choicesTo, cX6_choicesTo, 2, (some .int), false, 0, 0)
def m6_wayTo : MT := (yX6_wayTo, cX6_wayTo, 7, (some .int), false, 0, 0)
def m6_isUsable : MT := (yX6_isUsable, cX6_isUsable, 4, (some .int), false, 0, 0)
def m6_usable : MT := (yX6_usable, cX6_usable, 3, (some .int), false, 0, 0)
def m6_seenNodes : MT := (yX6_seenNodes, cX6_seenNodes, 3, (some .int), false, 0, 0)
def m6_savedMoments : MT := (yX6_savedMoments, cX6_savedMoments, 3, (some .int), false, 0, 0)
def m6_ends : MT := (yX6_ends, cX6_ends, 3, (some .int), false, 0, 0)
def m6_count : MT := (yX6_count, cX6_count, 2, (some .int), false, 0, 0)
def m6_mixes : MT := (yX6_mixes, cX6_mixes, 2, none, false, 0, 0)
def m6_mixesNode : MT := (yX6_mixesNode, cX6_mixesNode, 4, none, false, 0, 0)
def m6_digest : MT := (yX6_digest, cX6_digest, 2, (some .long), false, 0, 0)
def mJ7_fill : MT := (yJ7_fill_53178, cJ7_fill_53178, 4, none, false, 0, 0)
def mL_law : MT := (yL_law, cL_law, 4, (some .boolean), false, 0, 0)
theorem oi_i : Jvm.Cond.instanceMethod objectInit ∈ tG := tG_of (List.mem_of_getElem? (i := 85) (by decide +kernel)) (by decide +kernel)
theorem oi_c : Jvm.Cond.code objectInit ⟨#[0xb1]⟩ 1 none ∈ tG := tG_of (List.mem_of_getElem? (i := 86) (by decide +kernel)) (by decide +kernel)
theorem ac_n : Jvm.Cond.native arraycopyName ∈ tG := tG_of (List.mem_of_getElem? (i := 568) (by decide +kernel)) (by decide +kernel)
theorem ac_s : Jvm.Cond.static arraycopyName ∈ tG := tG_of (List.mem_of_getElem? (i := 567) (by decide +kernel)) (by decide +kernel)
theorem ac_i : Jvm.Cond.initialized "java/lang/System" ∈ tG := tG_of (List.mem_of_getElem? (i := 78) (by decide +kernel)) (by decide +kernel)
theorem oi_X0_3 : Jvm.Cond.methodLink RX0 3 objectInit ∈ tG := tG_of (List.mem_of_getElem? (i := 201) (by decide +kernel)) (by decide +kernel)
theorem na_int : Jvm.Cond.arrayClass (tyF 0) ∈ tG := tG_of (List.mem_of_getElem? (i := 120) (by decide +kernel)) (by decide +kernel)
theorem f_X0_9 : FL RX0 9 0 1 := ⟨RX0, TX0, 8, rfl, by decide, inGX0, tG_of (List.mem_of_getElem? (i := 206) (by decide +kernel)) (by decide +kernel)⟩
theorem p_X0_X0_1 : FP RX0 0 1 (.array .int) true := ⟨RX0, TX0, 8, tyX0, rfl, tyX0_ok, nmX0, by decide +kernel, rfl, fun _ => rfl⟩
theorem f_X0_15 : FL RX0 15 0 2 := ⟨RX0, TX0, 8, rfl, by decide, inGX0, tG_of (List.mem_of_getElem? (i := 207) (by decide +kernel)) (by decide +kernel)⟩
theorem p_X0_X0_2 : FP RX0 0 2 (.array .int) true := ⟨RX0, TX0, 8, tyX0, rfl, tyX0_ok, nmX0, by decide +kernel, rfl, fun _ => rfl⟩
theorem f_X0_18 : FL RX0 18 0 3 := ⟨RX0, TX0, 8, rfl, by decide, inGX0, tG_of (List.mem_of_getElem? (i := 208) (by decide +kernel)) (by decide +kernel)⟩
theorem p_X0_X0_3 : FP RX0 0 3 (.array .int) true := ⟨RX0, TX0, 8, tyX0, rfl, tyX0_ok, nmX0, by decide +kernel, rfl, fun _ => rfl⟩
theorem f_X0_21 : FL RX0 21 0 4 := ⟨RX0, TX0, 8, rfl, by decide, inGX0, tG_of (List.mem_of_getElem? (i := 209) (by decide +kernel)) (by decide +kernel)⟩
theorem p_X0_X0_4 : FP RX0 0 4 (.array .int) true := ⟨RX0, TX0, 8, tyX0, rfl, tyX0_ok, nmX0, by decide +kernel, rfl, fun _ => rfl⟩
theorem f_X0_24 : FL RX0 24 0 6 := ⟨RX0, TX0, 8, rfl, by decide, inGX0, tG_of (List.mem_of_getElem? (i := 211) (by decide +kernel)) (by decide +kernel)⟩
theorem p_X0_X0_6 : FP RX0 0 6 (.array .int) true := ⟨RX0, TX0, 8, tyX0, rfl, tyX0_ok, nmX0, by decide +kernel, rfl, fun _ => rfl⟩
theorem nw_X1 : (∀ j, j < 4 → ([vI 0, vI 0, vN, vN] : List AV)[j]? = some (dfv (tyX1 j)) ∧ ∀ G : GD, cv G (dfv (tyX1 j)) = defaultValue (tyX1 j)) ∧ (∀ v ∈ ([vI 0, vI 0, vN, vN] : List AV), vok v) := by
  refine ⟨fun j hj => ?_, fun v hv => ?_⟩
  · rcases (by omega : j = 0 ∨ j = 1 ∨ j = 2 ∨ j = 3) with rfl | rfl | rfl | rfl <;> exact ⟨rfl, fun G => rfl⟩
  · simp only [List.mem_cons, List.not_mem_nil, or_false] at hv
    rcases hv with rfl | rfl | rfl | rfl <;> first | trivial | (exact ⟨by decide, by decide⟩)
theorem ok_1_init : MOK m1_init := ⟨by decide +kernel, tG_of (List.mem_of_getElem? (i := 152) (by decide +kernel)) (by decide +kernel), tG_of (List.mem_of_getElem? (i := 68) (by decide +kernel)) (by decide +kernel), by decide +kernel, by decide +kernel⟩
theorem i_1_init : Jvm.Cond.instanceMethod (mY m1_init) ∈ tG := tG_of (List.mem_of_getElem? (i := 151) (by decide +kernel)) (by decide +kernel)
theorem f_X0_30 : FL RX0 30 0 7 := ⟨RX0, TX0, 8, rfl, by decide, inGX0, tG_of (List.mem_of_getElem? (i := 212) (by decide +kernel)) (by decide +kernel)⟩
theorem p_X0_X0_7 : FP RX0 0 7 (.object "PictureScript$Moment") true := ⟨RX0, TX0, 8, tyX0, rfl, tyX0_ok, nmX0, by decide +kernel, rfl, fun _ => rfl⟩
theorem f_X0_34 : FL RX0 34 0 0 := ⟨RX0, TX0, 8, rfl, by decide, inGX0, tG_of (List.mem_of_getElem? (i := 204) (by decide +kernel)) (by decide +kernel)⟩
theorem p_X0_X0_0 : FP RX0 0 0 .int false := ⟨RX0, TX0, 8, tyX0, rfl, tyX0_ok, nmX0, by decide +kernel, rfl, fun q => by cases q⟩
theorem f_X0_38 : FL RX0 38 0 5 := ⟨RX0, TX0, 8, rfl, by decide, inGX0, tG_of (List.mem_of_getElem? (i := 210) (by decide +kernel)) (by decide +kernel)⟩
theorem p_X0_X0_5 : FP RX0 0 5 .int false := ⟨RX0, TX0, 8, tyX0, rfl, tyX0_ok, nmX0, by decide +kernel, rfl, fun q => by cases q⟩
theorem ok_J7_fill : MOK mJ7_fill := ⟨by decide +kernel, tG_of (List.mem_of_getElem? (i := 252) (by decide +kernel)) (by decide +kernel), tG_of (List.mem_of_getElem? (i := 70) (by decide +kernel)) (by decide +kernel), by decide +kernel, by decide +kernel⟩
theorem s_J7_fill : Jvm.Cond.static (mY mJ7_fill) ∈ tG := tG_of (List.mem_of_getElem? (i := 251) (by decide +kernel)) (by decide +kernel)
theorem lk_X0_41 : Lk RX0 41 mJ7_fill 2 := ⟨ok_J7_fill, tG_of (List.mem_of_getElem? (i := 294) (by decide +kernel)) (by decide +kernel), by decide +kernel, by decide⟩
theorem ok_1_makeEmpty : MOK m1_makeEmpty := ⟨by decide +kernel, tG_of (List.mem_of_getElem? (i := 249) (by decide +kernel)) (by decide +kernel), tG_of (List.mem_of_getElem? (i := 68) (by decide +kernel)) (by decide +kernel), by decide +kernel, by decide +kernel⟩
theorem v_1_makeEmpty : Jvm.Cond.instanceMethod (mY m1_makeEmpty) ∈ tG ∧ Jvm.Cond.selects (mY m1_makeEmpty).cls (mY m1_makeEmpty) (mY m1_makeEmpty) ∈ tG := ⟨tG_of (List.mem_of_getElem? (i := 247) (by decide +kernel)) (by decide +kernel), tG_of (List.mem_of_getElem? (i := 248) (by decide +kernel)) (by decide +kernel)⟩
theorem lk_X0_47 : Lk RX0 47 m1_makeEmpty 0 := ⟨ok_1_makeEmpty, tG_of (List.mem_of_getElem? (i := 295) (by decide +kernel)) (by decide +kernel), by decide +kernel, by decide⟩
theorem ok_0_follow : MOK m0_follow := ⟨by decide +kernel, tG_of (List.mem_of_getElem? (i := 299) (by decide +kernel)) (by decide +kernel), tG_of (List.mem_of_getElem? (i := 69) (by decide +kernel)) (by decide +kernel), by decide +kernel, by decide +kernel⟩
theorem v_0_follow : Jvm.Cond.instanceMethod (mY m0_follow) ∈ tG ∧ Jvm.Cond.selects (mY m0_follow).cls (mY m0_follow) (mY m0_follow) ∈ tG := ⟨tG_of (List.mem_of_getElem? (i := 298) (by decide +kernel)) (by decide +kernel), tG_of (List.mem_of_getElem? (i := 5) (by decide +kernel)) (by decide +kernel)⟩
theorem lk_X0_50 : Lk RX0 50 m0_follow 4 := ⟨ok_0_follow, tG_of (List.mem_of_getElem? (i := 296) (by decide +kernel)) (by decide +kernel), by decide +kernel, by decide⟩
theorem ok_0_nodeOf : MOK m0_nodeOf := ⟨by decide +kernel, tG_of (List.mem_of_getElem? (i := 314) (by decide +kernel)) (by decide +kernel), tG_of (List.mem_of_getElem? (i := 69) (by decide +kernel)) (by decide +kernel), by decide +kernel, by decide +kernel⟩
theorem s_0_nodeOf : Jvm.Cond.static (mY m0_nodeOf) ∈ tG := tG_of (List.mem_of_getElem? (i := 313) (by decide +kernel)) (by decide +kernel)
theorem lk_X0_54 : Lk RX0 54 m0_nodeOf 1 := ⟨ok_0_nodeOf, tG_of (List.mem_of_getElem? (i := 312) (by decide +kernel)) (by decide +kernel), by decide +kernel, by decide⟩
theorem ok_0_flagsOf : MOK m0_flagsOf := ⟨by decide +kernel, tG_of (List.mem_of_getElem? (i := 325) (by decide +kernel)) (by decide +kernel), tG_of (List.mem_of_getElem? (i := 69) (by decide +kernel)) (by decide +kernel), by decide +kernel, by decide +kernel⟩
theorem s_0_flagsOf : Jvm.Cond.static (mY m0_flagsOf) ∈ tG := tG_of (List.mem_of_getElem? (i := 324) (by decide +kernel)) (by decide +kernel)
theorem lk_X0_58 : Lk RX0 58 m0_flagsOf 1 := ⟨ok_0_flagsOf, tG_of (List.mem_of_getElem? (i := 323) (by decide +kernel)) (by decide +kernel), by decide +kernel, by decide⟩
theorem ok_3_isOpen : MOK m3_isOpen := ⟨by decide +kernel, tG_of (List.mem_of_getElem? (i := 329) (by decide +kernel)) (by decide +kernel), tG_of (List.mem_of_getElem? (i := 66) (by decide +kernel)) (by decide +kernel), by decide +kernel, by decide +kernel⟩
theorem v_3_isOpen : Jvm.Cond.instanceMethod (mY m3_isOpen) ∈ tG ∧ Jvm.Cond.selects (mY m3_isOpen).cls (mY m3_isOpen) (mY m3_isOpen) ∈ tG := ⟨tG_of (List.mem_of_getElem? (i := 327) (by decide +kernel)) (by decide +kernel), tG_of (List.mem_of_getElem? (i := 328) (by decide +kernel)) (by decide +kernel)⟩
theorem lk_X0_61 : Lk RX0 61 m3_isOpen 3 := ⟨ok_3_isOpen, tG_of (List.mem_of_getElem? (i := 326) (by decide +kernel)) (by decide +kernel), by decide +kernel, by decide⟩
theorem f_X0_67 : FL RX0 67 1 1 := ⟨RX1, TX1, 4, rfl, by decide, inGX1, tG_of (List.mem_of_getElem? (i := 159) (by decide +kernel)) (by decide +kernel)⟩
theorem p_X0_X1_1 : FP RX0 1 1 .int false := ⟨RX1, TX1, 4, tyX1, rfl, tyX1_ok, nmX1, by decide +kernel, rfl, fun q => by cases q⟩
theorem ok_3_optionPart : MOK m3_optionPart := ⟨by decide +kernel, tG_of (List.mem_of_getElem? (i := 337) (by decide +kernel)) (by decide +kernel), tG_of (List.mem_of_getElem? (i := 66) (by decide +kernel)) (by decide +kernel), by decide +kernel, by decide +kernel⟩
theorem v_3_optionPart : Jvm.Cond.instanceMethod (mY m3_optionPart) ∈ tG ∧ Jvm.Cond.selects (mY m3_optionPart).cls (mY m3_optionPart) (mY m3_optionPart) ∈ tG := ⟨tG_of (List.mem_of_getElem? (i := 335) (by decide +kernel)) (by decide +kernel), tG_of (List.mem_of_getElem? (i := 336) (by decide +kernel)) (by decide +kernel)⟩
theorem lk_X0_70 : Lk RX0 70 m3_optionPart 3 := ⟨ok_3_optionPart, tG_of (List.mem_of_getElem? (i := 338) (by decide +kernel)) (by decide +kernel), by decide +kernel, by decide⟩
theorem ok_0_isReached : MOK m0_isReached := ⟨by decide +kernel, tG_of (List.mem_of_getElem? (i := 647) (by decide +kernel)) (by decide +kernel), tG_of (List.mem_of_getElem? (i := 69) (by decide +kernel)) (by decide +kernel), by decide +kernel, by decide +kernel⟩
theorem v_0_isReached : Jvm.Cond.instanceMethod (mY m0_isReached) ∈ tG ∧ Jvm.Cond.selects (mY m0_isReached).cls (mY m0_isReached) (mY m0_isReached) ∈ tG := ⟨tG_of (List.mem_of_getElem? (i := 646) (by decide +kernel)) (by decide +kernel), tG_of (List.mem_of_getElem? (i := 24) (by decide +kernel)) (by decide +kernel)⟩
theorem lk_X0_74 : Lk RX0 74 m0_isReached 2 := ⟨ok_0_isReached, tG_of (List.mem_of_getElem? (i := 644) (by decide +kernel)) (by decide +kernel), by decide +kernel, by decide⟩
theorem ok_0_isSituation : MOK m0_isSituation := ⟨by decide +kernel, tG_of (List.mem_of_getElem? (i := 302) (by decide +kernel)) (by decide +kernel), tG_of (List.mem_of_getElem? (i := 69) (by decide +kernel)) (by decide +kernel), by decide +kernel, by decide +kernel⟩
theorem s_0_isSituation : Jvm.Cond.static (mY m0_isSituation) ∈ tG := tG_of (List.mem_of_getElem? (i := 301) (by decide +kernel)) (by decide +kernel)
theorem lk_X0_78 : Lk RX0 78 m0_isSituation 1 := ⟨ok_0_isSituation, tG_of (List.mem_of_getElem? (i := 300) (by decide +kernel)) (by decide +kernel), by decide +kernel, by decide⟩
theorem ok_0_wayLength : MOK m0_wayLength := ⟨by decide +kernel, tG_of (List.mem_of_getElem? (i := 656) (by decide +kernel)) (by decide +kernel), tG_of (List.mem_of_getElem? (i := 69) (by decide +kernel)) (by decide +kernel), by decide +kernel, by decide +kernel⟩
theorem v_0_wayLength : Jvm.Cond.instanceMethod (mY m0_wayLength) ∈ tG ∧ Jvm.Cond.selects (mY m0_wayLength).cls (mY m0_wayLength) (mY m0_wayLength) ∈ tG := ⟨tG_of (List.mem_of_getElem? (i := 654) (by decide +kernel)) (by decide +kernel), tG_of (List.mem_of_getElem? (i := 655) (by decide +kernel)) (by decide +kernel)⟩
theorem lk_X0_82 : Lk RX0 82 m0_wayLength 1 := ⟨ok_0_wayLength, tG_of (List.mem_of_getElem? (i := 665) (by decide +kernel)) (by decide +kernel), by decide +kernel, by decide⟩
theorem ok_1_comeFrom : MOK m1_comeFrom := ⟨by decide +kernel, tG_of (List.mem_of_getElem? (i := 256) (by decide +kernel)) (by decide +kernel), tG_of (List.mem_of_getElem? (i := 68) (by decide +kernel)) (by decide +kernel), by decide +kernel, by decide +kernel⟩
theorem v_1_comeFrom : Jvm.Cond.instanceMethod (mY m1_comeFrom) ∈ tG ∧ Jvm.Cond.selects (mY m1_comeFrom).cls (mY m1_comeFrom) (mY m1_comeFrom) ∈ tG := ⟨tG_of (List.mem_of_getElem? (i := 254) (by decide +kernel)) (by decide +kernel), tG_of (List.mem_of_getElem? (i := 255) (by decide +kernel)) (by decide +kernel)⟩
theorem lk_X0_85 : Lk RX0 85 m1_comeFrom 2 := ⟨ok_1_comeFrom, tG_of (List.mem_of_getElem? (i := 303) (by decide +kernel)) (by decide +kernel), by decide +kernel, by decide⟩
theorem f_X0_89 : FL RX0 89 1 0 := ⟨RX1, TX1, 4, rfl, by decide, inGX1, tG_of (List.mem_of_getElem? (i := 157) (by decide +kernel)) (by decide +kernel)⟩
theorem ok_3_shownKind : MOK m3_shownKind := ⟨by decide +kernel, tG_of (List.mem_of_getElem? (i := 307) (by decide +kernel)) (by decide +kernel), tG_of (List.mem_of_getElem? (i := 66) (by decide +kernel)) (by decide +kernel), by decide +kernel, by decide +kernel⟩
theorem v_3_shownKind : Jvm.Cond.instanceMethod (mY m3_shownKind) ∈ tG ∧ Jvm.Cond.selects (mY m3_shownKind).cls (mY m3_shownKind) (mY m3_shownKind) ∈ tG := ⟨tG_of (List.mem_of_getElem? (i := 305) (by decide +kernel)) (by decide +kernel), tG_of (List.mem_of_getElem? (i := 306) (by decide +kernel)) (by decide +kernel)⟩
theorem lk_X0_92 : Lk RX0 92 m3_shownKind 1 := ⟨ok_3_shownKind, tG_of (List.mem_of_getElem? (i := 304) (by decide +kernel)) (by decide +kernel), by decide +kernel, by decide⟩
theorem ok_0_arrive : MOK m0_arrive := ⟨by decide +kernel, tG_of (List.mem_of_getElem? (i := 311) (by decide +kernel)) (by decide +kernel), tG_of (List.mem_of_getElem? (i := 69) (by decide +kernel)) (by decide +kernel), by decide +kernel, by decide +kernel⟩
theorem v_0_arrive : Jvm.Cond.instanceMethod (mY m0_arrive) ∈ tG ∧ Jvm.Cond.selects (mY m0_arrive).cls (mY m0_arrive) (mY m0_arrive) ∈ tG := ⟨tG_of (List.mem_of_getElem? (i := 310) (by decide +kernel)) (by decide +kernel), tG_of (List.mem_of_getElem? (i := 6) (by decide +kernel)) (by decide +kernel)⟩
theorem lk_X0_95 : Lk RX0 95 m0_arrive 2 := ⟨ok_0_arrive, tG_of (List.mem_of_getElem? (i := 308) (by decide +kernel)) (by decide +kernel), by decide +kernel, by decide⟩
theorem ok_3_shownNumber : MOK m3_shownNumber := ⟨by decide +kernel, tG_of (List.mem_of_getElem? (i := 318) (by decide +kernel)) (by decide +kernel), tG_of (List.mem_of_getElem? (i := 66) (by decide +kernel)) (by decide +kernel), by decide +kernel, by decide +kernel⟩
theorem v_3_shownNumber : Jvm.Cond.instanceMethod (mY m3_shownNumber) ∈ tG ∧ Jvm.Cond.selects (mY m3_shownNumber).cls (mY m3_shownNumber) (mY m3_shownNumber) ∈ tG := ⟨tG_of (List.mem_of_getElem? (i := 316) (by decide +kernel)) (by decide +kernel), tG_of (List.mem_of_getElem? (i := 317) (by decide +kernel)) (by decide +kernel)⟩
theorem lk_X0_98 : Lk RX0 98 m3_shownNumber 1 := ⟨ok_3_shownNumber, tG_of (List.mem_of_getElem? (i := 315) (by decide +kernel)) (by decide +kernel), by decide +kernel, by decide⟩
theorem ok_5_endIndex : MOK m5_endIndex := ⟨by decide +kernel, tG_of (List.mem_of_getElem? (i := 322) (by decide +kernel)) (by decide +kernel), tG_of (List.mem_of_getElem? (i := 64) (by decide +kernel)) (by decide +kernel), by decide +kernel, by decide +kernel⟩
theorem s_5_endIndex : Jvm.Cond.static (mY m5_endIndex) ∈ tG := tG_of (List.mem_of_getElem? (i := 321) (by decide +kernel)) (by decide +kernel)
theorem oi_X1_3 : Jvm.Cond.methodLink RX1 3 objectInit ∈ tG := tG_of (List.mem_of_getElem? (i := 153) (by decide +kernel)) (by decide +kernel)
theorem f_X1_9 : FL RX1 9 1 2 := ⟨RX1, TX1, 4, rfl, by decide, inGX1, tG_of (List.mem_of_getElem? (i := 161) (by decide +kernel)) (by decide +kernel)⟩
theorem p_X1_X1_2 : FP RX1 1 2 (.array .int) true := ⟨RX1, TX1, 4, tyX1, rfl, tyX1_ok, nmX1, by decide +kernel, rfl, fun _ => rfl⟩
theorem f_X1_15 : FL RX1 15 1 3 := ⟨RX1, TX1, 4, rfl, by decide, inGX1, tG_of (List.mem_of_getElem? (i := 163) (by decide +kernel)) (by decide +kernel)⟩
theorem p_X1_X1_3 : FP RX1 1 3 (.array .int) true := ⟨RX1, TX1, 4, tyX1, rfl, tyX1_ok, nmX1, by decide +kernel, rfl, fun _ => rfl⟩
theorem f_X1_18 : FL RX1 18 1 0 := ⟨RX1, TX1, 4, rfl, by decide, inGX1, tG_of (List.mem_of_getElem? (i := 154) (by decide +kernel)) (by decide +kernel)⟩
theorem p_X1_X1_0 : FP RX1 1 0 .int false := ⟨RX1, TX1, 4, tyX1, rfl, tyX1_ok, nmX1, by decide +kernel, rfl, fun q => by cases q⟩
theorem f_X1_22 : FL RX1 22 1 1 := ⟨RX1, TX1, 4, rfl, by decide, inGX1, tG_of (List.mem_of_getElem? (i := 158) (by decide +kernel)) (by decide +kernel)⟩
theorem p_X1_X1_1 : FP RX1 1 1 .int false := ⟨RX1, TX1, 4, tyX1, rfl, tyX1_ok, nmX1, by decide +kernel, rfl, fun q => by cases q⟩
theorem lk_X1_25 : Lk RX1 25 mJ7_fill 2 := ⟨ok_J7_fill, tG_of (List.mem_of_getElem? (i := 250) (by decide +kernel)) (by decide +kernel), by decide +kernel, by decide⟩
theorem ac_X1_31 : Jvm.Cond.methodLink RX1 31 arraycopyName ∈ tG := tG_of (List.mem_of_getElem? (i := 566) (by decide +kernel)) (by decide +kernel)
theorem ok_3_isShown : MOK m3_isShown := ⟨by decide +kernel, tG_of (List.mem_of_getElem? (i := 260) (by decide +kernel)) (by decide +kernel), tG_of (List.mem_of_getElem? (i := 66) (by decide +kernel)) (by decide +kernel), by decide +kernel, by decide +kernel⟩
theorem v_3_isShown : Jvm.Cond.instanceMethod (mY m3_isShown) ∈ tG ∧ Jvm.Cond.selects (mY m3_isShown).cls (mY m3_isShown) (mY m3_isShown) ∈ tG := ⟨tG_of (List.mem_of_getElem? (i := 258) (by decide +kernel)) (by decide +kernel), tG_of (List.mem_of_getElem? (i := 259) (by decide +kernel)) (by decide +kernel)⟩
theorem lk_X1_37 : Lk RX1 37 m3_isShown 1 := ⟨ok_3_isShown, tG_of (List.mem_of_getElem? (i := 257) (by decide +kernel)) (by decide +kernel), by decide +kernel, by decide⟩
theorem ok_1_carryOut : MOK m1_carryOut := ⟨by decide +kernel, tG_of (List.mem_of_getElem? (i := 272) (by decide +kernel)) (by decide +kernel), tG_of (List.mem_of_getElem? (i := 68) (by decide +kernel)) (by decide +kernel), by decide +kernel, by decide +kernel⟩
theorem v_1_carryOut : Jvm.Cond.instanceMethod (mY m1_carryOut) ∈ tG ∧ Jvm.Cond.selects (mY m1_carryOut).cls (mY m1_carryOut) (mY m1_carryOut) ∈ tG := ⟨tG_of (List.mem_of_getElem? (i := 271) (by decide +kernel)) (by decide +kernel), tG_of (List.mem_of_getElem? (i := 1) (by decide +kernel)) (by decide +kernel)⟩
theorem lk_X1_43 : Lk RX1 43 m1_carryOut 2 := ⟨ok_1_carryOut, tG_of (List.mem_of_getElem? (i := 269) (by decide +kernel)) (by decide +kernel), by decide +kernel, by decide⟩
theorem ok_3_numberOf : MOK m3_numberOf := ⟨by decide +kernel, tG_of (List.mem_of_getElem? (i := 276) (by decide +kernel)) (by decide +kernel), tG_of (List.mem_of_getElem? (i := 66) (by decide +kernel)) (by decide +kernel), by decide +kernel, by decide +kernel⟩
theorem v_3_numberOf : Jvm.Cond.instanceMethod (mY m3_numberOf) ∈ tG ∧ Jvm.Cond.selects (mY m3_numberOf).cls (mY m3_numberOf) (mY m3_numberOf) ∈ tG := ⟨tG_of (List.mem_of_getElem? (i := 274) (by decide +kernel)) (by decide +kernel), tG_of (List.mem_of_getElem? (i := 275) (by decide +kernel)) (by decide +kernel)⟩
theorem lk_X1_47 : Lk RX1 47 m3_numberOf 2 := ⟨ok_3_numberOf, tG_of (List.mem_of_getElem? (i := 273) (by decide +kernel)) (by decide +kernel), by decide +kernel, by decide⟩
theorem ok_3_kindOf : MOK m3_kindOf := ⟨by decide +kernel, tG_of (List.mem_of_getElem? (i := 264) (by decide +kernel)) (by decide +kernel), tG_of (List.mem_of_getElem? (i := 66) (by decide +kernel)) (by decide +kernel), by decide +kernel, by decide +kernel⟩
theorem v_3_kindOf : Jvm.Cond.instanceMethod (mY m3_kindOf) ∈ tG ∧ Jvm.Cond.selects (mY m3_kindOf).cls (mY m3_kindOf) (mY m3_kindOf) ∈ tG := ⟨tG_of (List.mem_of_getElem? (i := 262) (by decide +kernel)) (by decide +kernel), tG_of (List.mem_of_getElem? (i := 263) (by decide +kernel)) (by decide +kernel)⟩
theorem lk_X1_51 : Lk RX1 51 m3_kindOf 1 := ⟨ok_3_kindOf, tG_of (List.mem_of_getElem? (i := 277) (by decide +kernel)) (by decide +kernel), by decide +kernel, by decide⟩
theorem ok_1_putAt : MOK m1_putAt := ⟨by decide +kernel, tG_of (List.mem_of_getElem? (i := 281) (by decide +kernel)) (by decide +kernel), tG_of (List.mem_of_getElem? (i := 68) (by decide +kernel)) (by decide +kernel), by decide +kernel, by decide +kernel⟩
theorem v_1_putAt : Jvm.Cond.instanceMethod (mY m1_putAt) ∈ tG ∧ Jvm.Cond.selects (mY m1_putAt).cls (mY m1_putAt) (mY m1_putAt) ∈ tG := ⟨tG_of (List.mem_of_getElem? (i := 280) (by decide +kernel)) (by decide +kernel), tG_of (List.mem_of_getElem? (i := 2) (by decide +kernel)) (by decide +kernel)⟩
theorem lk_X1_55 : Lk RX1 55 m1_putAt 3 := ⟨ok_1_putAt, tG_of (List.mem_of_getElem? (i := 278) (by decide +kernel)) (by decide +kernel), by decide +kernel, by decide⟩
theorem ok_1_hide : MOK m1_hide := ⟨by decide +kernel, tG_of (List.mem_of_getElem? (i := 285) (by decide +kernel)) (by decide +kernel), tG_of (List.mem_of_getElem? (i := 68) (by decide +kernel)) (by decide +kernel), by decide +kernel, by decide +kernel⟩
theorem v_1_hide : Jvm.Cond.instanceMethod (mY m1_hide) ∈ tG ∧ Jvm.Cond.selects (mY m1_hide).cls (mY m1_hide) (mY m1_hide) ∈ tG := ⟨tG_of (List.mem_of_getElem? (i := 284) (by decide +kernel)) (by decide +kernel), tG_of (List.mem_of_getElem? (i := 3) (by decide +kernel)) (by decide +kernel)⟩
theorem lk_X1_59 : Lk RX1 59 m1_hide 1 := ⟨ok_1_hide, tG_of (List.mem_of_getElem? (i := 282) (by decide +kernel)) (by decide +kernel), by decide +kernel, by decide⟩
theorem oi_X2_3 : Jvm.Cond.methodLink RX2 3 objectInit ∈ tG := tG_of (List.mem_of_getElem? (i := 146) (by decide +kernel)) (by decide +kernel)
theorem f_X2_11 : FL RX2 11 2 0 := ⟨RX2, TX2, 6, rfl, by decide, inGX2, tG_of (List.mem_of_getElem? (i := 175) (by decide +kernel)) (by decide +kernel)⟩
theorem p_X2_X2_0 : FP RX2 2 0 (.array (.object "PictureScript$Moment")) true := ⟨RX2, TX2, 6, tyX2, rfl, tyX2_ok, nmX2, by decide +kernel, rfl, fun _ => rfl⟩
theorem f_X2_17 : FL RX2 17 2 3 := ⟨RX2, TX2, 6, rfl, by decide, inGX2, tG_of (List.mem_of_getElem? (i := 180) (by decide +kernel)) (by decide +kernel)⟩
theorem p_X2_X2_3 : FP RX2 2 3 (.array (.object "PictureScript$Moment")) true := ⟨RX2, TX2, 6, tyX2, rfl, tyX2_ok, nmX2, by decide +kernel, rfl, fun _ => rfl⟩
theorem na_boolean : Jvm.Cond.arrayClass (tyF 2) ∈ tG := tG_of (List.mem_of_getElem? (i := 174) (by decide +kernel)) (by decide +kernel)
theorem f_X2_20 : FL RX2 20 2 4 := ⟨RX2, TX2, 6, rfl, by decide, inGX2, tG_of (List.mem_of_getElem? (i := 181) (by decide +kernel)) (by decide +kernel)⟩
theorem p_X2_X2_4 : FP RX2 2 4 (.array .boolean) true := ⟨RX2, TX2, 6, tyX2, rfl, tyX2_ok, nmX2, by decide +kernel, rfl, fun _ => rfl⟩
theorem f_X2_24 : FL RX2 24 2 5 := ⟨RX2, TX2, 6, rfl, by decide, inGX2, tG_of (List.mem_of_getElem? (i := 182) (by decide +kernel)) (by decide +kernel)⟩
theorem p_X2_X2_5 : FP RX2 2 5 (.array .boolean) true := ⟨RX2, TX2, 6, tyX2, rfl, tyX2_ok, nmX2, by decide +kernel, rfl, fun _ => rfl⟩
theorem f_X2_28 : FL RX2 28 2 2 := ⟨RX2, TX2, 6, rfl, by decide, inGX2, tG_of (List.mem_of_getElem? (i := 178) (by decide +kernel)) (by decide +kernel)⟩
theorem ok_2_startAnew : MOK m2_startAnew := ⟨by decide +kernel, tG_of (List.mem_of_getElem? (i := 237) (by decide +kernel)) (by decide +kernel), tG_of (List.mem_of_getElem? (i := 67) (by decide +kernel)) (by decide +kernel), by decide +kernel, by decide +kernel⟩
theorem v_2_startAnew : Jvm.Cond.instanceMethod (mY m2_startAnew) ∈ tG ∧ Jvm.Cond.selects (mY m2_startAnew).cls (mY m2_startAnew) (mY m2_startAnew) ∈ tG := ⟨tG_of (List.mem_of_getElem? (i := 235) (by decide +kernel)) (by decide +kernel), tG_of (List.mem_of_getElem? (i := 236) (by decide +kernel)) (by decide +kernel)⟩
theorem lk_X2_32 : Lk RX2 32 m2_startAnew 1 := ⟨ok_2_startAnew, tG_of (List.mem_of_getElem? (i := 234) (by decide +kernel)) (by decide +kernel), by decide +kernel, by decide⟩
theorem ok_2_keepOneMoment : MOK m2_keepOneMoment := ⟨by decide +kernel, tG_of (List.mem_of_getElem? (i := 241) (by decide +kernel)) (by decide +kernel), tG_of (List.mem_of_getElem? (i := 67) (by decide +kernel)) (by decide +kernel), by decide +kernel, by decide +kernel⟩
theorem v_2_keepOneMoment : Jvm.Cond.instanceMethod (mY m2_keepOneMoment) ∈ tG ∧ Jvm.Cond.selects (mY m2_keepOneMoment).cls (mY m2_keepOneMoment) (mY m2_keepOneMoment) ∈ tG := ⟨tG_of (List.mem_of_getElem? (i := 240) (by decide +kernel)) (by decide +kernel), tG_of (List.mem_of_getElem? (i := 0) (by decide +kernel)) (by decide +kernel)⟩
theorem lk_X2_36 : Lk RX2 36 m2_keepOneMoment 0 := ⟨ok_2_keepOneMoment, tG_of (List.mem_of_getElem? (i := 238) (by decide +kernel)) (by decide +kernel), by decide +kernel, by decide⟩
theorem ok_2_now : MOK m2_now := ⟨by decide +kernel, tG_of (List.mem_of_getElem? (i := 245) (by decide +kernel)) (by decide +kernel), tG_of (List.mem_of_getElem? (i := 67) (by decide +kernel)) (by decide +kernel), by decide +kernel, by decide +kernel⟩
theorem v_2_now : Jvm.Cond.instanceMethod (mY m2_now) ∈ tG ∧ Jvm.Cond.selects (mY m2_now).cls (mY m2_now) (mY m2_now) ∈ tG := ⟨tG_of (List.mem_of_getElem? (i := 243) (by decide +kernel)) (by decide +kernel), tG_of (List.mem_of_getElem? (i := 244) (by decide +kernel)) (by decide +kernel)⟩
theorem lk_X2_39 : Lk RX2 39 m2_now 0 := ⟨ok_2_now, tG_of (List.mem_of_getElem? (i := 242) (by decide +kernel)) (by decide +kernel), by decide +kernel, by decide⟩
theorem lk_X2_43 : Lk RX2 43 m1_makeEmpty 0 := ⟨ok_1_makeEmpty, tG_of (List.mem_of_getElem? (i := 246) (by decide +kernel)) (by decide +kernel), by decide +kernel, by decide⟩
theorem lk_X2_46 : Lk RX2 46 m1_comeFrom 2 := ⟨ok_1_comeFrom, tG_of (List.mem_of_getElem? (i := 253) (by decide +kernel)) (by decide +kernel), by decide +kernel, by decide⟩
theorem f_X2_50 : FL RX2 50 1 0 := ⟨RX1, TX1, 4, rfl, by decide, inGX1, tG_of (List.mem_of_getElem? (i := 155) (by decide +kernel)) (by decide +kernel)⟩
theorem ok_2_see : MOK m2_see := ⟨by decide +kernel, tG_of (List.mem_of_getElem? (i := 289) (by decide +kernel)) (by decide +kernel), tG_of (List.mem_of_getElem? (i := 67) (by decide +kernel)) (by decide +kernel), by decide +kernel, by decide +kernel⟩
theorem v_2_see : Jvm.Cond.instanceMethod (mY m2_see) ∈ tG ∧ Jvm.Cond.selects (mY m2_see).cls (mY m2_see) (mY m2_see) ∈ tG := ⟨tG_of (List.mem_of_getElem? (i := 288) (by decide +kernel)) (by decide +kernel), tG_of (List.mem_of_getElem? (i := 4) (by decide +kernel)) (by decide +kernel)⟩
theorem lk_X2_53 : Lk RX2 53 m2_see 1 := ⟨ok_2_see, tG_of (List.mem_of_getElem? (i := 286) (by decide +kernel)) (by decide +kernel), by decide +kernel, by decide⟩
theorem p_X2_X2_2 : FP RX2 2 2 .int false := ⟨RX2, TX2, 6, tyX2, rfl, tyX2_ok, nmX2, by decide +kernel, rfl, fun q => by cases q⟩
theorem ok_2_forgetEarliest : MOK m2_forgetEarliest := ⟨by decide +kernel, tG_of (List.mem_of_getElem? (i := 561) (by decide +kernel)) (by decide +kernel), tG_of (List.mem_of_getElem? (i := 67) (by decide +kernel)) (by decide +kernel), by decide +kernel, by decide +kernel⟩
theorem v_2_forgetEarliest : Jvm.Cond.instanceMethod (mY m2_forgetEarliest) ∈ tG ∧ Jvm.Cond.selects (mY m2_forgetEarliest).cls (mY m2_forgetEarliest) (mY m2_forgetEarliest) ∈ tG := ⟨tG_of (List.mem_of_getElem? (i := 560) (by decide +kernel)) (by decide +kernel), tG_of (List.mem_of_getElem? (i := 23) (by decide +kernel)) (by decide +kernel)⟩
theorem lk_X2_57 : Lk RX2 57 m2_forgetEarliest 0 := ⟨ok_2_forgetEarliest, tG_of (List.mem_of_getElem? (i := 558) (by decide +kernel)) (by decide +kernel), by decide +kernel, by decide⟩
theorem f_X2_60 : FL RX2 60 2 1 := ⟨RX2, TX2, 6, rfl, by decide, inGX2, tG_of (List.mem_of_getElem? (i := 176) (by decide +kernel)) (by decide +kernel)⟩
theorem p_X2_X2_1 : FP RX2 2 1 .int false := ⟨RX2, TX2, 6, tyX2, rfl, tyX2_ok, nmX2, by decide +kernel, rfl, fun q => by cases q⟩
theorem ok_1_makeLike : MOK m1_makeLike := ⟨by decide +kernel, tG_of (List.mem_of_getElem? (i := 565) (by decide +kernel)) (by decide +kernel), tG_of (List.mem_of_getElem? (i := 68) (by decide +kernel)) (by decide +kernel), by decide +kernel, by decide +kernel⟩
theorem v_1_makeLike : Jvm.Cond.instanceMethod (mY m1_makeLike) ∈ tG ∧ Jvm.Cond.selects (mY m1_makeLike).cls (mY m1_makeLike) (mY m1_makeLike) ∈ tG := ⟨tG_of (List.mem_of_getElem? (i := 563) (by decide +kernel)) (by decide +kernel), tG_of (List.mem_of_getElem? (i := 564) (by decide +kernel)) (by decide +kernel)⟩
theorem lk_X2_63 : Lk RX2 63 m1_makeLike 1 := ⟨ok_1_makeLike, tG_of (List.mem_of_getElem? (i := 562) (by decide +kernel)) (by decide +kernel), by decide +kernel, by decide⟩
theorem oi_X3_3 : Jvm.Cond.methodLink RX3 3 objectInit ∈ tG := tG_of (List.mem_of_getElem? (i := 98) (by decide +kernel)) (by decide +kernel)
theorem f_X3_9 : FL RX3 9 3 1 := ⟨RX3, TX3, 6, rfl, by decide, inGX3, tG_of (List.mem_of_getElem? (i := 101) (by decide +kernel)) (by decide +kernel)⟩
theorem p_X3_X3_1 : FP RX3 3 1 (.array .int) true := ⟨RX3, TX3, 6, tyX3, rfl, tyX3_ok, nmX3, by decide +kernel, rfl, fun _ => rfl⟩
theorem f_X3_15 : FL RX3 15 3 2 := ⟨RX3, TX3, 6, rfl, by decide, inGX3, tG_of (List.mem_of_getElem? (i := 102) (by decide +kernel)) (by decide +kernel)⟩
theorem p_X3_X3_2 : FP RX3 3 2 (.array .int) true := ⟨RX3, TX3, 6, tyX3, rfl, tyX3_ok, nmX3, by decide +kernel, rfl, fun _ => rfl⟩
theorem f_X3_18 : FL RX3 18 3 3 := ⟨RX3, TX3, 6, rfl, by decide, inGX3, tG_of (List.mem_of_getElem? (i := 103) (by decide +kernel)) (by decide +kernel)⟩
theorem p_X3_X3_3 : FP RX3 3 3 (.array .int) true := ⟨RX3, TX3, 6, tyX3, rfl, tyX3_ok, nmX3, by decide +kernel, rfl, fun _ => rfl⟩
theorem f_X3_21 : FL RX3 21 3 4 := ⟨RX3, TX3, 6, rfl, by decide, inGX3, tG_of (List.mem_of_getElem? (i := 104) (by decide +kernel)) (by decide +kernel)⟩
theorem p_X3_X3_4 : FP RX3 3 4 (.array .int) true := ⟨RX3, TX3, 6, tyX3, rfl, tyX3_ok, nmX3, by decide +kernel, rfl, fun _ => rfl⟩
theorem f_X3_24 : FL RX3 24 3 5 := ⟨RX3, TX3, 6, rfl, by decide, inGX3, tG_of (List.mem_of_getElem? (i := 105) (by decide +kernel)) (by decide +kernel)⟩
theorem p_X3_X3_5 : FP RX3 3 5 (.array .int) true := ⟨RX3, TX3, 6, tyX3, rfl, tyX3_ok, nmX3, by decide +kernel, rfl, fun _ => rfl⟩
theorem f_X3_27 : FL RX3 27 3 0 := ⟨RX3, TX3, 6, rfl, by decide, inGX3, tG_of (List.mem_of_getElem? (i := 99) (by decide +kernel)) (by decide +kernel)⟩
theorem p_X3_X3_0 : FP RX3 3 0 .int false := ⟨RX3, TX3, 6, tyX3, rfl, tyX3_ok, nmX3, by decide +kernel, rfl, fun q => by cases q⟩
theorem ok_3_has : MOK m3_has := ⟨by decide +kernel, tG_of (List.mem_of_getElem? (i := 268) (by decide +kernel)) (by decide +kernel), tG_of (List.mem_of_getElem? (i := 66) (by decide +kernel)) (by decide +kernel), by decide +kernel, by decide +kernel⟩
theorem v_3_has : Jvm.Cond.instanceMethod (mY m3_has) ∈ tG ∧ Jvm.Cond.selects (mY m3_has).cls (mY m3_has) (mY m3_has) ∈ tG := ⟨tG_of (List.mem_of_getElem? (i := 266) (by decide +kernel)) (by decide +kernel), tG_of (List.mem_of_getElem? (i := 267) (by decide +kernel)) (by decide +kernel)⟩
theorem lk_X3_31 : Lk RX3 31 m3_has 1 := ⟨ok_3_has, tG_of (List.mem_of_getElem? (i := 265) (by decide +kernel)) (by decide +kernel), by decide +kernel, by decide⟩
theorem ok_3_optionsOf : MOK m3_optionsOf := ⟨by decide +kernel, tG_of (List.mem_of_getElem? (i := 333) (by decide +kernel)) (by decide +kernel), tG_of (List.mem_of_getElem? (i := 66) (by decide +kernel)) (by decide +kernel), by decide +kernel, by decide +kernel⟩
theorem v_3_optionsOf : Jvm.Cond.instanceMethod (mY m3_optionsOf) ∈ tG ∧ Jvm.Cond.selects (mY m3_optionsOf).cls (mY m3_optionsOf) (mY m3_optionsOf) ∈ tG := ⟨tG_of (List.mem_of_getElem? (i := 331) (by decide +kernel)) (by decide +kernel), tG_of (List.mem_of_getElem? (i := 332) (by decide +kernel)) (by decide +kernel)⟩
theorem lk_X3_35 : Lk RX3 35 m3_optionsOf 1 := ⟨ok_3_optionsOf, tG_of (List.mem_of_getElem? (i := 330) (by decide +kernel)) (by decide +kernel), by decide +kernel, by decide⟩
theorem lk_X3_39 : Lk RX3 39 m3_optionPart 3 := ⟨ok_3_optionPart, tG_of (List.mem_of_getElem? (i := 334) (by decide +kernel)) (by decide +kernel), by decide +kernel, by decide⟩
theorem lk_X3_43 : Lk RX3 43 m3_kindOf 1 := ⟨ok_3_kindOf, tG_of (List.mem_of_getElem? (i := 261) (by decide +kernel)) (by decide +kernel), by decide +kernel, by decide⟩
theorem lk_X3_46 : Lk RX3 46 m3_isOpen 3 := ⟨ok_3_isOpen, tG_of (List.mem_of_getElem? (i := 621) (by decide +kernel)) (by decide +kernel), by decide +kernel, by decide⟩
theorem lk_X3_50 : Lk RX3 50 m3_numberOf 2 := ⟨ok_3_numberOf, tG_of (List.mem_of_getElem? (i := 319) (by decide +kernel)) (by decide +kernel), by decide +kernel, by decide⟩
theorem oi_X4_3 : Jvm.Cond.methodLink RX4 3 objectInit ∈ tG := tG_of (List.mem_of_getElem? (i := 92) (by decide +kernel)) (by decide +kernel)
theorem na_byte : Jvm.Cond.arrayClass (tyF 1) ∈ tG := tG_of (List.mem_of_getElem? (i := 119) (by decide +kernel)) (by decide +kernel)
theorem f_X4_9 : FL RX4 9 4 1 := ⟨RX4, TX4, 5, rfl, by decide, inGX4, tG_of (List.mem_of_getElem? (i := 123) (by decide +kernel)) (by decide +kernel)⟩
theorem p_X4_X4_1 : FP RX4 4 1 (.array .byte) true := ⟨RX4, TX4, 5, tyX4, rfl, tyX4_ok, nmX4, by decide +kernel, rfl, fun _ => rfl⟩
theorem nw_X3 : (∀ j, j < 6 → ([vI 0, vN, vN, vN, vN, vN] : List AV)[j]? = some (dfv (tyX3 j)) ∧ ∀ G : GD, cv G (dfv (tyX3 j)) = defaultValue (tyX3 j)) ∧ (∀ v ∈ ([vI 0, vN, vN, vN, vN, vN] : List AV), vok v) := by
  refine ⟨fun j hj => ?_, fun v hv => ?_⟩
  · rcases (by omega : j = 0 ∨ j = 1 ∨ j = 2 ∨ j = 3 ∨ j = 4 ∨ j = 5) with rfl | rfl | rfl | rfl | rfl | rfl <;> exact ⟨rfl, fun G => rfl⟩
  · simp only [List.mem_cons, List.not_mem_nil, or_false] at hv
    rcases hv with rfl | rfl | rfl | rfl | rfl | rfl <;> first | trivial | (exact ⟨by decide, by decide⟩)
theorem ok_3_init : MOK m3_init := ⟨by decide +kernel, tG_of (List.mem_of_getElem? (i := 97) (by decide +kernel)) (by decide +kernel), tG_of (List.mem_of_getElem? (i := 66) (by decide +kernel)) (by decide +kernel), by decide +kernel, by decide +kernel⟩
theorem i_3_init : Jvm.Cond.instanceMethod (mY m3_init) ∈ tG := tG_of (List.mem_of_getElem? (i := 96) (by decide +kernel)) (by decide +kernel)
theorem f_X4_18 : FL RX4 18 4 2 := ⟨RX4, TX4, 5, rfl, by decide, inGX4, tG_of (List.mem_of_getElem? (i := 124) (by decide +kernel)) (by decide +kernel)⟩
theorem p_X4_X4_2 : FP RX4 4 2 (.object "PictureScript$Script") false := ⟨RX4, TX4, 5, tyX4, rfl, tyX4_ok, nmX4, by decide +kernel, rfl, fun q => by cases q⟩
theorem f_X4_22 : FL RX4 22 4 0 := ⟨RX4, TX4, 5, rfl, by decide, inGX4, tG_of (List.mem_of_getElem? (i := 121) (by decide +kernel)) (by decide +kernel)⟩
theorem p_X4_X4_0 : FP RX4 4 0 .int false := ⟨RX4, TX4, 5, tyX4, rfl, tyX4_ok, nmX4, by decide +kernel, rfl, fun q => by cases q⟩
theorem f_X4_26 : FL RX4 26 4 3 := ⟨RX4, TX4, 5, rfl, by decide, inGX4, tG_of (List.mem_of_getElem? (i := 126) (by decide +kernel)) (by decide +kernel)⟩
theorem p_X4_X4_3 : FP RX4 4 3 .int false := ⟨RX4, TX4, 5, tyX4, rfl, tyX4_ok, nmX4, by decide +kernel, rfl, fun q => by cases q⟩
theorem ok_3_clear : MOK m3_clear := ⟨by decide +kernel, tG_of (List.mem_of_getElem? (i := 375) (by decide +kernel)) (by decide +kernel), tG_of (List.mem_of_getElem? (i := 66) (by decide +kernel)) (by decide +kernel), by decide +kernel, by decide +kernel⟩
theorem v_3_clear : Jvm.Cond.instanceMethod (mY m3_clear) ∈ tG ∧ Jvm.Cond.selects (mY m3_clear).cls (mY m3_clear) (mY m3_clear) ∈ tG := ⟨tG_of (List.mem_of_getElem? (i := 373) (by decide +kernel)) (by decide +kernel), tG_of (List.mem_of_getElem? (i := 374) (by decide +kernel)) (by decide +kernel)⟩
theorem lk_X4_29 : Lk RX4 29 m3_clear 0 := ⟨ok_3_clear, tG_of (List.mem_of_getElem? (i := 372) (by decide +kernel)) (by decide +kernel), by decide +kernel, by decide⟩
theorem ok_4_skipBlanks : MOK m4_skipBlanks := ⟨by decide +kernel, tG_of (List.mem_of_getElem? (i := 379) (by decide +kernel)) (by decide +kernel), tG_of (List.mem_of_getElem? (i := 65) (by decide +kernel)) (by decide +kernel), by decide +kernel, by decide +kernel⟩
theorem v_4_skipBlanks : Jvm.Cond.instanceMethod (mY m4_skipBlanks) ∈ tG ∧ Jvm.Cond.selects (mY m4_skipBlanks).cls (mY m4_skipBlanks) (mY m4_skipBlanks) ∈ tG := ⟨tG_of (List.mem_of_getElem? (i := 378) (by decide +kernel)) (by decide +kernel), tG_of (List.mem_of_getElem? (i := 7) (by decide +kernel)) (by decide +kernel)⟩
theorem lk_X4_32 : Lk RX4 32 m4_skipBlanks 0 := ⟨ok_4_skipBlanks, tG_of (List.mem_of_getElem? (i := 376) (by decide +kernel)) (by decide +kernel), by decide +kernel, by decide⟩
theorem ok_4_isAtEnd : MOK m4_isAtEnd := ⟨by decide +kernel, tG_of (List.mem_of_getElem? (i := 387) (by decide +kernel)) (by decide +kernel), tG_of (List.mem_of_getElem? (i := 65) (by decide +kernel)) (by decide +kernel), by decide +kernel, by decide +kernel⟩
theorem v_4_isAtEnd : Jvm.Cond.instanceMethod (mY m4_isAtEnd) ∈ tG ∧ Jvm.Cond.selects (mY m4_isAtEnd).cls (mY m4_isAtEnd) (mY m4_isAtEnd) ∈ tG := ⟨tG_of (List.mem_of_getElem? (i := 386) (by decide +kernel)) (by decide +kernel), tG_of (List.mem_of_getElem? (i := 9) (by decide +kernel)) (by decide +kernel)⟩
theorem lk_X4_35 : Lk RX4 35 m4_isAtEnd 0 := ⟨ok_4_isAtEnd, tG_of (List.mem_of_getElem? (i := 384) (by decide +kernel)) (by decide +kernel), by decide +kernel, by decide⟩
theorem ok_4_takeNode : MOK m4_takeNode := ⟨by decide +kernel, tG_of (List.mem_of_getElem? (i := 391) (by decide +kernel)) (by decide +kernel), tG_of (List.mem_of_getElem? (i := 65) (by decide +kernel)) (by decide +kernel), by decide +kernel, by decide +kernel⟩
theorem v_4_takeNode : Jvm.Cond.instanceMethod (mY m4_takeNode) ∈ tG ∧ Jvm.Cond.selects (mY m4_takeNode).cls (mY m4_takeNode) (mY m4_takeNode) ∈ tG := ⟨tG_of (List.mem_of_getElem? (i := 390) (by decide +kernel)) (by decide +kernel), tG_of (List.mem_of_getElem? (i := 10) (by decide +kernel)) (by decide +kernel)⟩
theorem lk_X4_39 : Lk RX4 39 m4_takeNode 0 := ⟨ok_4_takeNode, tG_of (List.mem_of_getElem? (i := 388) (by decide +kernel)) (by decide +kernel), by decide +kernel, by decide⟩
theorem ok_4_takeSign : MOK m4_takeSign := ⟨by decide +kernel, tG_of (List.mem_of_getElem? (i := 518) (by decide +kernel)) (by decide +kernel), tG_of (List.mem_of_getElem? (i := 65) (by decide +kernel)) (by decide +kernel), by decide +kernel, by decide +kernel⟩
theorem v_4_takeSign : Jvm.Cond.instanceMethod (mY m4_takeSign) ∈ tG ∧ Jvm.Cond.selects (mY m4_takeSign).cls (mY m4_takeSign) (mY m4_takeSign) ∈ tG := ⟨tG_of (List.mem_of_getElem? (i := 517) (by decide +kernel)) (by decide +kernel), tG_of (List.mem_of_getElem? (i := 18) (by decide +kernel)) (by decide +kernel)⟩
theorem lk_X4_42 : Lk RX4 42 m4_takeSign 1 := ⟨ok_4_takeSign, tG_of (List.mem_of_getElem? (i := 515) (by decide +kernel)) (by decide +kernel), by decide +kernel, by decide⟩
theorem ok_4_here : MOK m4_here := ⟨by decide +kernel, tG_of (List.mem_of_getElem? (i := 383) (by decide +kernel)) (by decide +kernel), tG_of (List.mem_of_getElem? (i := 65) (by decide +kernel)) (by decide +kernel), by decide +kernel, by decide +kernel⟩
theorem v_4_here : Jvm.Cond.instanceMethod (mY m4_here) ∈ tG ∧ Jvm.Cond.selects (mY m4_here).cls (mY m4_here) (mY m4_here) ∈ tG := ⟨tG_of (List.mem_of_getElem? (i := 382) (by decide +kernel)) (by decide +kernel), tG_of (List.mem_of_getElem? (i := 8) (by decide +kernel)) (by decide +kernel)⟩
theorem lk_X4_48 : Lk RX4 48 m4_here 0 := ⟨ok_4_here, tG_of (List.mem_of_getElem? (i := 380) (by decide +kernel)) (by decide +kernel), by decide +kernel, by decide⟩
theorem ok_3_addNode : MOK m3_addNode := ⟨by decide +kernel, tG_of (List.mem_of_getElem? (i := 482) (by decide +kernel)) (by decide +kernel), tG_of (List.mem_of_getElem? (i := 66) (by decide +kernel)) (by decide +kernel), by decide +kernel, by decide +kernel⟩
theorem v_3_addNode : Jvm.Cond.instanceMethod (mY m3_addNode) ∈ tG ∧ Jvm.Cond.selects (mY m3_addNode).cls (mY m3_addNode) (mY m3_addNode) ∈ tG := ⟨tG_of (List.mem_of_getElem? (i := 480) (by decide +kernel)) (by decide +kernel), tG_of (List.mem_of_getElem? (i := 481) (by decide +kernel)) (by decide +kernel)⟩
theorem lk_X4_58 : Lk RX4 58 m3_addNode 1 := ⟨ok_3_addNode, tG_of (List.mem_of_getElem? (i := 479) (by decide +kernel)) (by decide +kernel), by decide +kernel, by decide⟩
theorem ok_4_addVoice : MOK m4_addVoice := ⟨by decide +kernel, tG_of (List.mem_of_getElem? (i := 486) (by decide +kernel)) (by decide +kernel), tG_of (List.mem_of_getElem? (i := 65) (by decide +kernel)) (by decide +kernel), by decide +kernel, by decide +kernel⟩
theorem v_4_addVoice : Jvm.Cond.instanceMethod (mY m4_addVoice) ∈ tG ∧ Jvm.Cond.selects (mY m4_addVoice).cls (mY m4_addVoice) (mY m4_addVoice) ∈ tG := ⟨tG_of (List.mem_of_getElem? (i := 485) (by decide +kernel)) (by decide +kernel), tG_of (List.mem_of_getElem? (i := 11) (by decide +kernel)) (by decide +kernel)⟩
theorem lk_X4_62 : Lk RX4 62 m4_addVoice 0 := ⟨ok_4_addVoice, tG_of (List.mem_of_getElem? (i := 483) (by decide +kernel)) (by decide +kernel), by decide +kernel, by decide⟩
theorem ok_4_addNumber : MOK m4_addNumber := ⟨by decide +kernel, tG_of (List.mem_of_getElem? (i := 494) (by decide +kernel)) (by decide +kernel), tG_of (List.mem_of_getElem? (i := 65) (by decide +kernel)) (by decide +kernel), by decide +kernel, by decide +kernel⟩
theorem v_4_addNumber : Jvm.Cond.instanceMethod (mY m4_addNumber) ∈ tG ∧ Jvm.Cond.selects (mY m4_addNumber).cls (mY m4_addNumber) (mY m4_addNumber) ∈ tG := ⟨tG_of (List.mem_of_getElem? (i := 493) (by decide +kernel)) (by decide +kernel), tG_of (List.mem_of_getElem? (i := 12) (by decide +kernel)) (by decide +kernel)⟩
theorem lk_X4_65 : Lk RX4 65 m4_addNumber 1 := ⟨ok_4_addNumber, tG_of (List.mem_of_getElem? (i := 491) (by decide +kernel)) (by decide +kernel), by decide +kernel, by decide⟩
theorem ok_4_addDigit : MOK m4_addDigit := ⟨by decide +kernel, tG_of (List.mem_of_getElem? (i := 506) (by decide +kernel)) (by decide +kernel), tG_of (List.mem_of_getElem? (i := 65) (by decide +kernel)) (by decide +kernel), by decide +kernel, by decide +kernel⟩
theorem v_4_addDigit : Jvm.Cond.instanceMethod (mY m4_addDigit) ∈ tG ∧ Jvm.Cond.selects (mY m4_addDigit).cls (mY m4_addDigit) (mY m4_addDigit) ∈ tG := ⟨tG_of (List.mem_of_getElem? (i := 505) (by decide +kernel)) (by decide +kernel), tG_of (List.mem_of_getElem? (i := 15) (by decide +kernel)) (by decide +kernel)⟩
theorem lk_X4_69 : Lk RX4 69 m4_addDigit 1 := ⟨ok_4_addDigit, tG_of (List.mem_of_getElem? (i := 503) (by decide +kernel)) (by decide +kernel), by decide +kernel, by decide⟩
theorem ok_4_addPlusOrMinus : MOK m4_addPlusOrMinus := ⟨by decide +kernel, tG_of (List.mem_of_getElem? (i := 514) (by decide +kernel)) (by decide +kernel), tG_of (List.mem_of_getElem? (i := 65) (by decide +kernel)) (by decide +kernel), by decide +kernel, by decide +kernel⟩
theorem v_4_addPlusOrMinus : Jvm.Cond.instanceMethod (mY m4_addPlusOrMinus) ∈ tG ∧ Jvm.Cond.selects (mY m4_addPlusOrMinus).cls (mY m4_addPlusOrMinus) (mY m4_addPlusOrMinus) ∈ tG := ⟨tG_of (List.mem_of_getElem? (i := 513) (by decide +kernel)) (by decide +kernel), tG_of (List.mem_of_getElem? (i := 17) (by decide +kernel)) (by decide +kernel)⟩
theorem lk_X4_72 : Lk RX4 72 m4_addPlusOrMinus 0 := ⟨ok_4_addPlusOrMinus, tG_of (List.mem_of_getElem? (i := 511) (by decide +kernel)) (by decide +kernel), by decide +kernel, by decide⟩
theorem ok_4_takeOptions : MOK m4_takeOptions := ⟨by decide +kernel, tG_of (List.mem_of_getElem? (i := 522) (by decide +kernel)) (by decide +kernel), tG_of (List.mem_of_getElem? (i := 65) (by decide +kernel)) (by decide +kernel), by decide +kernel, by decide +kernel⟩
theorem v_4_takeOptions : Jvm.Cond.instanceMethod (mY m4_takeOptions) ∈ tG ∧ Jvm.Cond.selects (mY m4_takeOptions).cls (mY m4_takeOptions) (mY m4_takeOptions) ∈ tG := ⟨tG_of (List.mem_of_getElem? (i := 521) (by decide +kernel)) (by decide +kernel), tG_of (List.mem_of_getElem? (i := 19) (by decide +kernel)) (by decide +kernel)⟩
theorem lk_X4_75 : Lk RX4 75 m4_takeOptions 0 := ⟨ok_4_takeOptions, tG_of (List.mem_of_getElem? (i := 519) (by decide +kernel)) (by decide +kernel), by decide +kernel, by decide⟩
theorem ok_4_takeOption : MOK m4_takeOption := ⟨by decide +kernel, tG_of (List.mem_of_getElem? (i := 526) (by decide +kernel)) (by decide +kernel), tG_of (List.mem_of_getElem? (i := 65) (by decide +kernel)) (by decide +kernel), by decide +kernel, by decide +kernel⟩
theorem v_4_takeOption : Jvm.Cond.instanceMethod (mY m4_takeOption) ∈ tG ∧ Jvm.Cond.selects (mY m4_takeOption).cls (mY m4_takeOption) (mY m4_takeOption) ∈ tG := ⟨tG_of (List.mem_of_getElem? (i := 525) (by decide +kernel)) (by decide +kernel), tG_of (List.mem_of_getElem? (i := 20) (by decide +kernel)) (by decide +kernel)⟩
theorem lk_X4_78 : Lk RX4 78 m4_takeOption 0 := ⟨ok_4_takeOption, tG_of (List.mem_of_getElem? (i := 523) (by decide +kernel)) (by decide +kernel), by decide +kernel, by decide⟩
theorem ok_4_takeNumber : MOK m4_takeNumber := ⟨by decide +kernel, tG_of (List.mem_of_getElem? (i := 498) (by decide +kernel)) (by decide +kernel), tG_of (List.mem_of_getElem? (i := 65) (by decide +kernel)) (by decide +kernel), by decide +kernel, by decide +kernel⟩
theorem v_4_takeNumber : Jvm.Cond.instanceMethod (mY m4_takeNumber) ∈ tG ∧ Jvm.Cond.selects (mY m4_takeNumber).cls (mY m4_takeNumber) (mY m4_takeNumber) ∈ tG := ⟨tG_of (List.mem_of_getElem? (i := 497) (by decide +kernel)) (by decide +kernel), tG_of (List.mem_of_getElem? (i := 13) (by decide +kernel)) (by decide +kernel)⟩
theorem lk_X4_81 : Lk RX4 81 m4_takeNumber 1 := ⟨ok_4_takeNumber, tG_of (List.mem_of_getElem? (i := 495) (by decide +kernel)) (by decide +kernel), by decide +kernel, by decide⟩
theorem f_X4_84 : FL RX4 84 4 4 := ⟨RX4, TX4, 5, rfl, by decide, inGX4, tG_of (List.mem_of_getElem? (i := 127) (by decide +kernel)) (by decide +kernel)⟩
theorem ok_3_addOption : MOK m3_addOption := ⟨by decide +kernel, tG_of (List.mem_of_getElem? (i := 530) (by decide +kernel)) (by decide +kernel), tG_of (List.mem_of_getElem? (i := 66) (by decide +kernel)) (by decide +kernel), by decide +kernel, by decide +kernel⟩
theorem v_3_addOption : Jvm.Cond.instanceMethod (mY m3_addOption) ∈ tG ∧ Jvm.Cond.selects (mY m3_addOption).cls (mY m3_addOption) (mY m3_addOption) ∈ tG := ⟨tG_of (List.mem_of_getElem? (i := 528) (by decide +kernel)) (by decide +kernel), tG_of (List.mem_of_getElem? (i := 529) (by decide +kernel)) (by decide +kernel)⟩
theorem lk_X4_87 : Lk RX4 87 m3_addOption 3 := ⟨ok_3_addOption, tG_of (List.mem_of_getElem? (i := 527) (by decide +kernel)) (by decide +kernel), by decide +kernel, by decide⟩
theorem ok_4_takeDigit : MOK m4_takeDigit := ⟨by decide +kernel, tG_of (List.mem_of_getElem? (i := 510) (by decide +kernel)) (by decide +kernel), tG_of (List.mem_of_getElem? (i := 65) (by decide +kernel)) (by decide +kernel), by decide +kernel, by decide +kernel⟩
theorem v_4_takeDigit : Jvm.Cond.instanceMethod (mY m4_takeDigit) ∈ tG ∧ Jvm.Cond.selects (mY m4_takeDigit).cls (mY m4_takeDigit) (mY m4_takeDigit) ∈ tG := ⟨tG_of (List.mem_of_getElem? (i := 509) (by decide +kernel)) (by decide +kernel), tG_of (List.mem_of_getElem? (i := 16) (by decide +kernel)) (by decide +kernel)⟩
theorem lk_X4_91 : Lk RX4 91 m4_takeDigit 1 := ⟨ok_4_takeDigit, tG_of (List.mem_of_getElem? (i := 507) (by decide +kernel)) (by decide +kernel), by decide +kernel, by decide⟩
theorem ok_3_addNumber : MOK m3_addNumber := ⟨by decide +kernel, tG_of (List.mem_of_getElem? (i := 490) (by decide +kernel)) (by decide +kernel), tG_of (List.mem_of_getElem? (i := 66) (by decide +kernel)) (by decide +kernel), by decide +kernel, by decide +kernel⟩
theorem v_3_addNumber : Jvm.Cond.instanceMethod (mY m3_addNumber) ∈ tG ∧ Jvm.Cond.selects (mY m3_addNumber).cls (mY m3_addNumber) (mY m3_addNumber) ∈ tG := ⟨tG_of (List.mem_of_getElem? (i := 488) (by decide +kernel)) (by decide +kernel), tG_of (List.mem_of_getElem? (i := 489) (by decide +kernel)) (by decide +kernel)⟩
theorem lk_X4_94 : Lk RX4 94 m3_addNumber 1 := ⟨ok_3_addNumber, tG_of (List.mem_of_getElem? (i := 487) (by decide +kernel)) (by decide +kernel), by decide +kernel, by decide⟩
theorem p_X4_X4_4 : FP RX4 4 4 .int false := ⟨RX4, TX4, 5, tyX4, rfl, tyX4_ok, nmX4, by decide +kernel, rfl, fun q => by cases q⟩
theorem ok_4_isAtDigit : MOK m4_isAtDigit := ⟨by decide +kernel, tG_of (List.mem_of_getElem? (i := 502) (by decide +kernel)) (by decide +kernel), tG_of (List.mem_of_getElem? (i := 65) (by decide +kernel)) (by decide +kernel), by decide +kernel, by decide +kernel⟩
theorem v_4_isAtDigit : Jvm.Cond.instanceMethod (mY m4_isAtDigit) ∈ tG ∧ Jvm.Cond.selects (mY m4_isAtDigit).cls (mY m4_isAtDigit) (mY m4_isAtDigit) ∈ tG := ⟨tG_of (List.mem_of_getElem? (i := 501) (by decide +kernel)) (by decide +kernel), tG_of (List.mem_of_getElem? (i := 14) (by decide +kernel)) (by decide +kernel)⟩
theorem lk_X4_96 : Lk RX4 96 m4_isAtDigit 0 := ⟨ok_4_isAtDigit, tG_of (List.mem_of_getElem? (i := 499) (by decide +kernel)) (by decide +kernel), by decide +kernel, by decide⟩
theorem oi_X5_3 : Jvm.Cond.methodLink RX5 3 objectInit ∈ tG := tG_of (List.mem_of_getElem? (i := 84) (by decide +kernel)) (by decide +kernel)
theorem nw_X4 : (∀ j, j < 5 → ([vI 0, vN, vN, vI 0, vI 0] : List AV)[j]? = some (dfv (tyX4 j)) ∧ ∀ G : GD, cv G (dfv (tyX4 j)) = defaultValue (tyX4 j)) ∧ (∀ v ∈ ([vI 0, vN, vN, vI 0, vI 0] : List AV), vok v) := by
  refine ⟨fun j hj => ?_, fun v hv => ?_⟩
  · rcases (by omega : j = 0 ∨ j = 1 ∨ j = 2 ∨ j = 3 ∨ j = 4) with rfl | rfl | rfl | rfl | rfl <;> exact ⟨rfl, fun G => rfl⟩
  · simp only [List.mem_cons, List.not_mem_nil, or_false] at hv
    rcases hv with rfl | rfl | rfl | rfl | rfl <;> first | trivial | (exact ⟨by decide, by decide⟩)
theorem ok_4_init : MOK m4_init := ⟨by decide +kernel, tG_of (List.mem_of_getElem? (i := 91) (by decide +kernel)) (by decide +kernel), tG_of (List.mem_of_getElem? (i := 65) (by decide +kernel)) (by decide +kernel), by decide +kernel, by decide +kernel⟩
theorem i_4_init : Jvm.Cond.instanceMethod (mY m4_init) ∈ tG := tG_of (List.mem_of_getElem? (i := 90) (by decide +kernel)) (by decide +kernel)
theorem f_X5_12 : FL RX5 12 5 0 := ⟨RX5, TX5, 4, rfl, by decide, inGX5, tG_of (List.mem_of_getElem? (i := 339) (by decide +kernel)) (by decide +kernel)⟩
theorem p_X5_X5_0 : FP RX5 5 0 (.object "PictureScript$Text") true := ⟨RX5, TX5, 4, tyX5, rfl, tyX5_ok, nmX5, by decide +kernel, rfl, fun _ => rfl⟩
theorem f_X5_19 : FL RX5 19 5 1 := ⟨RX5, TX5, 4, rfl, by decide, inGX5, tG_of (List.mem_of_getElem? (i := 340) (by decide +kernel)) (by decide +kernel)⟩
theorem p_X5_X5_1 : FP RX5 5 1 (.object "PictureScript$Script") false := ⟨RX5, TX5, 4, tyX5, rfl, tyX5_ok, nmX5, by decide +kernel, rfl, fun q => by cases q⟩
theorem nw_X2 : (∀ j, j < 6 → ([vN, vI 0, vI 0, vN, vN, vN] : List AV)[j]? = some (dfv (tyX2 j)) ∧ ∀ G : GD, cv G (dfv (tyX2 j)) = defaultValue (tyX2 j)) ∧ (∀ v ∈ ([vN, vI 0, vI 0, vN, vN, vN] : List AV), vok v) := by
  refine ⟨fun j hj => ?_, fun v hv => ?_⟩
  · rcases (by omega : j = 0 ∨ j = 1 ∨ j = 2 ∨ j = 3 ∨ j = 4 ∨ j = 5) with rfl | rfl | rfl | rfl | rfl | rfl <;> exact ⟨rfl, fun G => rfl⟩
  · simp only [List.mem_cons, List.not_mem_nil, or_false] at hv
    rcases hv with rfl | rfl | rfl | rfl | rfl | rfl <;> first | trivial | (exact ⟨by decide, by decide⟩)
theorem ok_2_init : MOK m2_init := ⟨by decide +kernel, tG_of (List.mem_of_getElem? (i := 145) (by decide +kernel)) (by decide +kernel), tG_of (List.mem_of_getElem? (i := 67) (by decide +kernel)) (by decide +kernel), by decide +kernel, by decide +kernel⟩
theorem i_2_init : Jvm.Cond.instanceMethod (mY m2_init) ∈ tG := tG_of (List.mem_of_getElem? (i := 144) (by decide +kernel)) (by decide +kernel)
theorem l_X5_25 : Jvm.Cond.methodLink RX5 25 (mY m2_init) ∈ tG := tG_of (List.mem_of_getElem? (i := 143) (by decide +kernel)) (by decide +kernel)
theorem f_X5_26 : FL RX5 26 5 2 := ⟨RX5, TX5, 4, rfl, by decide, inGX5, tG_of (List.mem_of_getElem? (i := 341) (by decide +kernel)) (by decide +kernel)⟩
theorem p_X5_X5_2 : FP RX5 5 2 (.object "PictureScript$Play") true := ⟨RX5, TX5, 4, tyX5, rfl, tyX5_ok, nmX5, by decide +kernel, rfl, fun _ => rfl⟩
theorem nw_X0 : (∀ j, j < 8 → ([vI 0, vN, vN, vN, vN, vI 0, vN, vN] : List AV)[j]? = some (dfv (tyX0 j)) ∧ ∀ G : GD, cv G (dfv (tyX0 j)) = defaultValue (tyX0 j)) ∧ (∀ v ∈ ([vI 0, vN, vN, vN, vN, vI 0, vN, vN] : List AV), vok v) := by
  refine ⟨fun j hj => ?_, fun v hv => ?_⟩
  · rcases (by omega : j = 0 ∨ j = 1 ∨ j = 2 ∨ j = 3 ∨ j = 4 ∨ j = 5 ∨ j = 6 ∨ j = 7) with rfl | rfl | rfl | rfl | rfl | rfl | rfl | rfl <;> exact ⟨rfl, fun G => rfl⟩
  · simp only [List.mem_cons, List.not_mem_nil, or_false] at hv
    rcases hv with rfl | rfl | rfl | rfl | rfl | rfl | rfl | rfl <;> first | trivial | (exact ⟨by decide, by decide⟩)
theorem ok_0_init : MOK m0_init := ⟨by decide +kernel, tG_of (List.mem_of_getElem? (i := 200) (by decide +kernel)) (by decide +kernel), tG_of (List.mem_of_getElem? (i := 69) (by decide +kernel)) (by decide +kernel), by decide +kernel, by decide +kernel⟩
theorem i_0_init : Jvm.Cond.instanceMethod (mY m0_init) ∈ tG := tG_of (List.mem_of_getElem? (i := 199) (by decide +kernel)) (by decide +kernel)
theorem f_X5_33 : FL RX5 33 5 3 := ⟨RX5, TX5, 4, rfl, by decide, inGX5, tG_of (List.mem_of_getElem? (i := 342) (by decide +kernel)) (by decide +kernel)⟩
theorem p_X5_X5_3 : FP RX5 5 3 (.object "PictureScript$Chart") true := ⟨RX5, TX5, 4, tyX5, rfl, tyX5_ok, nmX5, by decide +kernel, rfl, fun _ => rfl⟩
theorem ok_2_startScript : MOK m2_startScript := ⟨by decide +kernel, tG_of (List.mem_of_getElem? (i := 233) (by decide +kernel)) (by decide +kernel), tG_of (List.mem_of_getElem? (i := 67) (by decide +kernel)) (by decide +kernel), by decide +kernel, by decide +kernel⟩
theorem v_2_startScript : Jvm.Cond.instanceMethod (mY m2_startScript) ∈ tG ∧ Jvm.Cond.selects (mY m2_startScript).cls (mY m2_startScript) (mY m2_startScript) ∈ tG := ⟨tG_of (List.mem_of_getElem? (i := 231) (by decide +kernel)) (by decide +kernel), tG_of (List.mem_of_getElem? (i := 232) (by decide +kernel)) (by decide +kernel)⟩
theorem lk_X5_37 : Lk RX5 37 m2_startScript 1 := ⟨ok_2_startScript, tG_of (List.mem_of_getElem? (i := 230) (by decide +kernel)) (by decide +kernel), by decide +kernel, by decide⟩
theorem ok_0_draw : MOK m0_draw := ⟨by decide +kernel, tG_of (List.mem_of_getElem? (i := 293) (by decide +kernel)) (by decide +kernel), tG_of (List.mem_of_getElem? (i := 69) (by decide +kernel)) (by decide +kernel), by decide +kernel, by decide +kernel⟩
theorem v_0_draw : Jvm.Cond.instanceMethod (mY m0_draw) ∈ tG ∧ Jvm.Cond.selects (mY m0_draw).cls (mY m0_draw) (mY m0_draw) ∈ tG := ⟨tG_of (List.mem_of_getElem? (i := 291) (by decide +kernel)) (by decide +kernel), tG_of (List.mem_of_getElem? (i := 292) (by decide +kernel)) (by decide +kernel)⟩
theorem lk_X5_41 : Lk RX5 41 m0_draw 1 := ⟨ok_0_draw, tG_of (List.mem_of_getElem? (i := 290) (by decide +kernel)) (by decide +kernel), by decide +kernel, by decide⟩
theorem ok_4_append : MOK m4_append := ⟨by decide +kernel, tG_of (List.mem_of_getElem? (i := 359) (by decide +kernel)) (by decide +kernel), tG_of (List.mem_of_getElem? (i := 65) (by decide +kernel)) (by decide +kernel), by decide +kernel, by decide +kernel⟩
theorem v_4_append : Jvm.Cond.instanceMethod (mY m4_append) ∈ tG ∧ Jvm.Cond.selects (mY m4_append).cls (mY m4_append) (mY m4_append) ∈ tG := ⟨tG_of (List.mem_of_getElem? (i := 357) (by decide +kernel)) (by decide +kernel), tG_of (List.mem_of_getElem? (i := 358) (by decide +kernel)) (by decide +kernel)⟩
theorem lk_X5_44 : Lk RX5 44 m4_append 1 := ⟨ok_4_append, tG_of (List.mem_of_getElem? (i := 356) (by decide +kernel)) (by decide +kernel), by decide +kernel, by decide⟩
theorem f_X5_48 : FL RX5 48 4 0 := ⟨RX4, TX4, 5, rfl, by decide, inGX4, tG_of (List.mem_of_getElem? (i := 122) (by decide +kernel)) (by decide +kernel)⟩
theorem p_X5_X4_0 : FP RX5 4 0 .int false := ⟨RX4, TX4, 5, tyX4, rfl, tyX4_ok, nmX4, by decide +kernel, rfl, fun q => by cases q⟩
theorem ok_4_findFault : MOK m4_findFault := ⟨by decide +kernel, tG_of (List.mem_of_getElem? (i := 371) (by decide +kernel)) (by decide +kernel), tG_of (List.mem_of_getElem? (i := 65) (by decide +kernel)) (by decide +kernel), by decide +kernel, by decide +kernel⟩
theorem v_4_findFault : Jvm.Cond.instanceMethod (mY m4_findFault) ∈ tG ∧ Jvm.Cond.selects (mY m4_findFault).cls (mY m4_findFault) (mY m4_findFault) ∈ tG := ⟨tG_of (List.mem_of_getElem? (i := 369) (by decide +kernel)) (by decide +kernel), tG_of (List.mem_of_getElem? (i := 370) (by decide +kernel)) (by decide +kernel)⟩
theorem lk_X5_52 : Lk RX5 52 m4_findFault 0 := ⟨ok_4_findFault, tG_of (List.mem_of_getElem? (i := 368) (by decide +kernel)) (by decide +kernel), by decide +kernel, by decide⟩
theorem f_X5_56 : FL RX5 56 4 2 := ⟨RX4, TX4, 5, rfl, by decide, inGX4, tG_of (List.mem_of_getElem? (i := 125) (by decide +kernel)) (by decide +kernel)⟩
theorem p_X5_X4_2 : FP RX5 4 2 (.object "PictureScript$Script") false := ⟨RX4, TX4, 5, tyX4, rfl, tyX4_ok, nmX4, by decide +kernel, rfl, fun q => by cases q⟩
theorem f_X5_59 : FL RX5 59 3 0 := ⟨RX3, TX3, 6, rfl, by decide, inGX3, tG_of (List.mem_of_getElem? (i := 100) (by decide +kernel)) (by decide +kernel)⟩
theorem lk_X5_62 : Lk RX5 62 m2_startAnew 1 := ⟨ok_2_startAnew, tG_of (List.mem_of_getElem? (i := 539) (by decide +kernel)) (by decide +kernel), by decide +kernel, by decide⟩
theorem lk_X5_65 : Lk RX5 65 m2_now 0 := ⟨ok_2_now, tG_of (List.mem_of_getElem? (i := 540) (by decide +kernel)) (by decide +kernel), by decide +kernel, by decide⟩
theorem f_X5_69 : FL RX5 69 1 0 := ⟨RX1, TX1, 4, rfl, by decide, inGX1, tG_of (List.mem_of_getElem? (i := 156) (by decide +kernel)) (by decide +kernel)⟩
theorem ok_5_isLineShown : MOK m5_isLineShown := ⟨by decide +kernel, tG_of (List.mem_of_getElem? (i := 548) (by decide +kernel)) (by decide +kernel), tG_of (List.mem_of_getElem? (i := 64) (by decide +kernel)) (by decide +kernel), by decide +kernel, by decide +kernel⟩
theorem v_5_isLineShown : Jvm.Cond.instanceMethod (mY m5_isLineShown) ∈ tG ∧ Jvm.Cond.selects (mY m5_isLineShown).cls (mY m5_isLineShown) (mY m5_isLineShown) ∈ tG := ⟨tG_of (List.mem_of_getElem? (i := 547) (by decide +kernel)) (by decide +kernel), tG_of (List.mem_of_getElem? (i := 21) (by decide +kernel)) (by decide +kernel)⟩
theorem lk_X5_74 : Lk RX5 74 m5_isLineShown 0 := ⟨ok_5_isLineShown, tG_of (List.mem_of_getElem? (i := 545) (by decide +kernel)) (by decide +kernel), by decide +kernel, by decide⟩
theorem ok_5_goOnFromLine : MOK m5_goOnFromLine := ⟨by decide +kernel, tG_of (List.mem_of_getElem? (i := 553) (by decide +kernel)) (by decide +kernel), tG_of (List.mem_of_getElem? (i := 64) (by decide +kernel)) (by decide +kernel), by decide +kernel, by decide +kernel⟩
theorem v_5_goOnFromLine : Jvm.Cond.instanceMethod (mY m5_goOnFromLine) ∈ tG ∧ Jvm.Cond.selects (mY m5_goOnFromLine).cls (mY m5_goOnFromLine) (mY m5_goOnFromLine) ∈ tG := ⟨tG_of (List.mem_of_getElem? (i := 552) (by decide +kernel)) (by decide +kernel), tG_of (List.mem_of_getElem? (i := 22) (by decide +kernel)) (by decide +kernel)⟩
theorem lk_X5_78 : Lk RX5 78 m5_goOnFromLine 0 := ⟨ok_5_goOnFromLine, tG_of (List.mem_of_getElem? (i := 550) (by decide +kernel)) (by decide +kernel), by decide +kernel, by decide⟩
theorem f_X5_81 : FL RX5 81 1 1 := ⟨RX1, TX1, 4, rfl, by decide, inGX1, tG_of (List.mem_of_getElem? (i := 160) (by decide +kernel)) (by decide +kernel)⟩
theorem lk_X5_84 : Lk RX5 84 m3_isOpen 3 := ⟨ok_3_isOpen, tG_of (List.mem_of_getElem? (i := 573) (by decide +kernel)) (by decide +kernel), by decide +kernel, by decide⟩
theorem lk_X5_88 : Lk RX5 88 m3_optionPart 3 := ⟨ok_3_optionPart, tG_of (List.mem_of_getElem? (i := 574) (by decide +kernel)) (by decide +kernel), by decide +kernel, by decide⟩
theorem ok_2_goOn : MOK m2_goOn := ⟨by decide +kernel, tG_of (List.mem_of_getElem? (i := 557) (by decide +kernel)) (by decide +kernel), tG_of (List.mem_of_getElem? (i := 67) (by decide +kernel)) (by decide +kernel), by decide +kernel, by decide +kernel⟩
theorem v_2_goOn : Jvm.Cond.instanceMethod (mY m2_goOn) ∈ tG ∧ Jvm.Cond.selects (mY m2_goOn).cls (mY m2_goOn) (mY m2_goOn) ∈ tG := ⟨tG_of (List.mem_of_getElem? (i := 555) (by decide +kernel)) (by decide +kernel), tG_of (List.mem_of_getElem? (i := 556) (by decide +kernel)) (by decide +kernel)⟩
theorem lk_X5_92 : Lk RX5 92 m2_goOn 2 := ⟨ok_2_goOn, tG_of (List.mem_of_getElem? (i := 554) (by decide +kernel)) (by decide +kernel), by decide +kernel, by decide⟩
theorem ok_2_turnBack : MOK m2_turnBack := ⟨by decide +kernel, tG_of (List.mem_of_getElem? (i := 586) (by decide +kernel)) (by decide +kernel), tG_of (List.mem_of_getElem? (i := 67) (by decide +kernel)) (by decide +kernel), by decide +kernel, by decide +kernel⟩
theorem v_2_turnBack : Jvm.Cond.instanceMethod (mY m2_turnBack) ∈ tG ∧ Jvm.Cond.selects (mY m2_turnBack).cls (mY m2_turnBack) (mY m2_turnBack) ∈ tG := ⟨tG_of (List.mem_of_getElem? (i := 584) (by decide +kernel)) (by decide +kernel), tG_of (List.mem_of_getElem? (i := 585) (by decide +kernel)) (by decide +kernel)⟩
theorem lk_X5_96 : Lk RX5 96 m2_turnBack 1 := ⟨ok_2_turnBack, tG_of (List.mem_of_getElem? (i := 583) (by decide +kernel)) (by decide +kernel), by decide +kernel, by decide⟩
theorem ok_2_turnForth : MOK m2_turnForth := ⟨by decide +kernel, tG_of (List.mem_of_getElem? (i := 594) (by decide +kernel)) (by decide +kernel), tG_of (List.mem_of_getElem? (i := 67) (by decide +kernel)) (by decide +kernel), by decide +kernel, by decide +kernel⟩
theorem v_2_turnForth : Jvm.Cond.instanceMethod (mY m2_turnForth) ∈ tG ∧ Jvm.Cond.selects (mY m2_turnForth).cls (mY m2_turnForth) (mY m2_turnForth) ∈ tG := ⟨tG_of (List.mem_of_getElem? (i := 592) (by decide +kernel)) (by decide +kernel), tG_of (List.mem_of_getElem? (i := 593) (by decide +kernel)) (by decide +kernel)⟩
theorem lk_X5_100 : Lk RX5 100 m2_turnForth 0 := ⟨ok_2_turnForth, tG_of (List.mem_of_getElem? (i := 591) (by decide +kernel)) (by decide +kernel), by decide +kernel, by decide⟩
theorem ok_2_keepIn : MOK m2_keepIn := ⟨by decide +kernel, tG_of (List.mem_of_getElem? (i := 602) (by decide +kernel)) (by decide +kernel), tG_of (List.mem_of_getElem? (i := 67) (by decide +kernel)) (by decide +kernel), by decide +kernel, by decide +kernel⟩
theorem v_2_keepIn : Jvm.Cond.instanceMethod (mY m2_keepIn) ∈ tG ∧ Jvm.Cond.selects (mY m2_keepIn).cls (mY m2_keepIn) (mY m2_keepIn) ∈ tG := ⟨tG_of (List.mem_of_getElem? (i := 600) (by decide +kernel)) (by decide +kernel), tG_of (List.mem_of_getElem? (i := 601) (by decide +kernel)) (by decide +kernel)⟩
theorem lk_X5_103 : Lk RX5 103 m2_keepIn 1 := ⟨ok_2_keepIn, tG_of (List.mem_of_getElem? (i := 599) (by decide +kernel)) (by decide +kernel), by decide +kernel, by decide⟩
theorem ok_2_takeFrom : MOK m2_takeFrom := ⟨by decide +kernel, tG_of (List.mem_of_getElem? (i := 610) (by decide +kernel)) (by decide +kernel), tG_of (List.mem_of_getElem? (i := 67) (by decide +kernel)) (by decide +kernel), by decide +kernel, by decide +kernel⟩
theorem v_2_takeFrom : Jvm.Cond.instanceMethod (mY m2_takeFrom) ∈ tG ∧ Jvm.Cond.selects (mY m2_takeFrom).cls (mY m2_takeFrom) (mY m2_takeFrom) ∈ tG := ⟨tG_of (List.mem_of_getElem? (i := 608) (by decide +kernel)) (by decide +kernel), tG_of (List.mem_of_getElem? (i := 609) (by decide +kernel)) (by decide +kernel)⟩
theorem lk_X5_107 : Lk RX5 107 m2_takeFrom 1 := ⟨ok_2_takeFrom, tG_of (List.mem_of_getElem? (i := 607) (by decide +kernel)) (by decide +kernel), by decide +kernel, by decide⟩
theorem lk_X5_110 : Lk RX5 110 m3_shownKind 1 := ⟨ok_3_shownKind, tG_of (List.mem_of_getElem? (i := 549) (by decide +kernel)) (by decide +kernel), by decide +kernel, by decide⟩
theorem lk_X5_114 : Lk RX5 114 m3_numberOf 2 := ⟨ok_3_numberOf, tG_of (List.mem_of_getElem? (i := 615) (by decide +kernel)) (by decide +kernel), by decide +kernel, by decide⟩
theorem lk_X5_118 : Lk RX5 118 m3_shownNumber 1 := ⟨ok_3_shownNumber, tG_of (List.mem_of_getElem? (i := 616) (by decide +kernel)) (by decide +kernel), by decide +kernel, by decide⟩
theorem ok_3_openOptions : MOK m3_openOptions := ⟨by decide +kernel, tG_of (List.mem_of_getElem? (i := 620) (by decide +kernel)) (by decide +kernel), tG_of (List.mem_of_getElem? (i := 66) (by decide +kernel)) (by decide +kernel), by decide +kernel, by decide +kernel⟩
theorem v_3_openOptions : Jvm.Cond.instanceMethod (mY m3_openOptions) ∈ tG ∧ Jvm.Cond.selects (mY m3_openOptions).cls (mY m3_openOptions) (mY m3_openOptions) ∈ tG := ⟨tG_of (List.mem_of_getElem? (i := 618) (by decide +kernel)) (by decide +kernel), tG_of (List.mem_of_getElem? (i := 619) (by decide +kernel)) (by decide +kernel)⟩
theorem lk_X5_121 : Lk RX5 121 m3_openOptions 2 := ⟨ok_3_openOptions, tG_of (List.mem_of_getElem? (i := 617) (by decide +kernel)) (by decide +kernel), by decide +kernel, by decide⟩
theorem f_X5_124 : FL RX5 124 1 3 := ⟨RX1, TX1, 4, rfl, by decide, inGX1, tG_of (List.mem_of_getElem? (i := 164) (by decide +kernel)) (by decide +kernel)⟩
theorem f_X5_128 : FL RX5 128 1 2 := ⟨RX1, TX1, 4, rfl, by decide, inGX1, tG_of (List.mem_of_getElem? (i := 162) (by decide +kernel)) (by decide +kernel)⟩
theorem lk_X5_131 : Lk RX5 131 m3_has 1 := ⟨ok_3_has, tG_of (List.mem_of_getElem? (i := 630) (by decide +kernel)) (by decide +kernel), by decide +kernel, by decide⟩
theorem lk_X5_134 : Lk RX5 134 m3_kindOf 1 := ⟨ok_3_kindOf, tG_of (List.mem_of_getElem? (i := 631) (by decide +kernel)) (by decide +kernel), by decide +kernel, by decide⟩
theorem f_X5_137 : FL RX5 137 0 0 := ⟨RX0, TX0, 8, rfl, by decide, inGX0, tG_of (List.mem_of_getElem? (i := 205) (by decide +kernel)) (by decide +kernel)⟩
theorem ok_0_reachedWith : MOK m0_reachedWith := ⟨by decide +kernel, tG_of (List.mem_of_getElem? (i := 643) (by decide +kernel)) (by decide +kernel), tG_of (List.mem_of_getElem? (i := 69) (by decide +kernel)) (by decide +kernel), by decide +kernel, by decide +kernel⟩
theorem v_0_reachedWith : Jvm.Cond.instanceMethod (mY m0_reachedWith) ∈ tG ∧ Jvm.Cond.selects (mY m0_reachedWith).cls (mY m0_reachedWith) (mY m0_reachedWith) ∈ tG := ⟨tG_of (List.mem_of_getElem? (i := 641) (by decide +kernel)) (by decide +kernel), tG_of (List.mem_of_getElem? (i := 642) (by decide +kernel)) (by decide +kernel)⟩
theorem lk_X5_140 : Lk RX5 140 m0_reachedWith 1 := ⟨ok_0_reachedWith, tG_of (List.mem_of_getElem? (i := 640) (by decide +kernel)) (by decide +kernel), by decide +kernel, by decide⟩
theorem lk_X5_143 : Lk RX5 143 m5_endIndex 1 := ⟨ok_5_endIndex, tG_of (List.mem_of_getElem? (i := 652) (by decide +kernel)) (by decide +kernel), by decide +kernel, by decide⟩
theorem lk_X5_146 : Lk RX5 146 m0_wayLength 1 := ⟨ok_0_wayLength, tG_of (List.mem_of_getElem? (i := 653) (by decide +kernel)) (by decide +kernel), by decide +kernel, by decide⟩
theorem ok_0_wayChoice : MOK m0_wayChoice := ⟨by decide +kernel, tG_of (List.mem_of_getElem? (i := 664) (by decide +kernel)) (by decide +kernel), tG_of (List.mem_of_getElem? (i := 69) (by decide +kernel)) (by decide +kernel), by decide +kernel, by decide +kernel⟩
theorem v_0_wayChoice : Jvm.Cond.instanceMethod (mY m0_wayChoice) ∈ tG ∧ Jvm.Cond.selects (mY m0_wayChoice).cls (mY m0_wayChoice) (mY m0_wayChoice) ∈ tG := ⟨tG_of (List.mem_of_getElem? (i := 662) (by decide +kernel)) (by decide +kernel), tG_of (List.mem_of_getElem? (i := 663) (by decide +kernel)) (by decide +kernel)⟩
theorem lk_X5_149 : Lk RX5 149 m0_wayChoice 2 := ⟨ok_0_wayChoice, tG_of (List.mem_of_getElem? (i := 661) (by decide +kernel)) (by decide +kernel), by decide +kernel, by decide⟩
theorem lk_X5_152 : Lk RX5 152 m3_optionsOf 1 := ⟨ok_3_optionsOf, tG_of (List.mem_of_getElem? (i := 670) (by decide +kernel)) (by decide +kernel), by decide +kernel, by decide⟩
theorem ok_0_canUse : MOK m0_canUse := ⟨by decide +kernel, tG_of (List.mem_of_getElem? (i := 674) (by decide +kernel)) (by decide +kernel), tG_of (List.mem_of_getElem? (i := 69) (by decide +kernel)) (by decide +kernel), by decide +kernel, by decide +kernel⟩
theorem v_0_canUse : Jvm.Cond.instanceMethod (mY m0_canUse) ∈ tG ∧ Jvm.Cond.selects (mY m0_canUse).cls (mY m0_canUse) (mY m0_canUse) ∈ tG := ⟨tG_of (List.mem_of_getElem? (i := 672) (by decide +kernel)) (by decide +kernel), tG_of (List.mem_of_getElem? (i := 673) (by decide +kernel)) (by decide +kernel)⟩
theorem lk_X5_155 : Lk RX5 155 m0_canUse 3 := ⟨ok_0_canUse, tG_of (List.mem_of_getElem? (i := 671) (by decide +kernel)) (by decide +kernel), by decide +kernel, by decide⟩
theorem f_X5_159 : FL RX5 159 2 2 := ⟨RX2, TX2, 6, rfl, by decide, inGX2, tG_of (List.mem_of_getElem? (i := 179) (by decide +kernel)) (by decide +kernel)⟩
theorem f_X5_162 : FL RX5 162 2 1 := ⟨RX2, TX2, 6, rfl, by decide, inGX2, tG_of (List.mem_of_getElem? (i := 177) (by decide +kernel)) (by decide +kernel)⟩
theorem ok_2_seenNodes : MOK m2_seenNodes := ⟨by decide +kernel, tG_of (List.mem_of_getElem? (i := 682) (by decide +kernel)) (by decide +kernel), tG_of (List.mem_of_getElem? (i := 67) (by decide +kernel)) (by decide +kernel), by decide +kernel, by decide +kernel⟩
theorem v_2_seenNodes : Jvm.Cond.instanceMethod (mY m2_seenNodes) ∈ tG ∧ Jvm.Cond.selects (mY m2_seenNodes).cls (mY m2_seenNodes) (mY m2_seenNodes) ∈ tG := ⟨tG_of (List.mem_of_getElem? (i := 680) (by decide +kernel)) (by decide +kernel), tG_of (List.mem_of_getElem? (i := 681) (by decide +kernel)) (by decide +kernel)⟩
theorem lk_X5_165 : Lk RX5 165 m2_seenNodes 0 := ⟨ok_2_seenNodes, tG_of (List.mem_of_getElem? (i := 679) (by decide +kernel)) (by decide +kernel), by decide +kernel, by decide⟩
theorem ok_2_usedSlots : MOK m2_usedSlots := ⟨by decide +kernel, tG_of (List.mem_of_getElem? (i := 686) (by decide +kernel)) (by decide +kernel), tG_of (List.mem_of_getElem? (i := 67) (by decide +kernel)) (by decide +kernel), by decide +kernel, by decide +kernel⟩
theorem v_2_usedSlots : Jvm.Cond.instanceMethod (mY m2_usedSlots) ∈ tG ∧ Jvm.Cond.selects (mY m2_usedSlots).cls (mY m2_usedSlots) (mY m2_usedSlots) ∈ tG := ⟨tG_of (List.mem_of_getElem? (i := 684) (by decide +kernel)) (by decide +kernel), tG_of (List.mem_of_getElem? (i := 685) (by decide +kernel)) (by decide +kernel)⟩
theorem lk_X5_168 : Lk RX5 168 m2_usedSlots 0 := ⟨ok_2_usedSlots, tG_of (List.mem_of_getElem? (i := 683) (by decide +kernel)) (by decide +kernel), by decide +kernel, by decide⟩
theorem ok_0_reachedEnds : MOK m0_reachedEnds := ⟨by decide +kernel, tG_of (List.mem_of_getElem? (i := 690) (by decide +kernel)) (by decide +kernel), tG_of (List.mem_of_getElem? (i := 69) (by decide +kernel)) (by decide +kernel), by decide +kernel, by decide +kernel⟩
theorem v_0_reachedEnds : Jvm.Cond.instanceMethod (mY m0_reachedEnds) ∈ tG ∧ Jvm.Cond.selects (mY m0_reachedEnds).cls (mY m0_reachedEnds) (mY m0_reachedEnds) ∈ tG := ⟨tG_of (List.mem_of_getElem? (i := 688) (by decide +kernel)) (by decide +kernel), tG_of (List.mem_of_getElem? (i := 689) (by decide +kernel)) (by decide +kernel)⟩
theorem lk_X5_171 : Lk RX5 171 m0_reachedEnds 0 := ⟨ok_0_reachedEnds, tG_of (List.mem_of_getElem? (i := 687) (by decide +kernel)) (by decide +kernel), by decide +kernel, by decide⟩
theorem ok_5_count : MOK m5_count := ⟨by decide +kernel, tG_of (List.mem_of_getElem? (i := 678) (by decide +kernel)) (by decide +kernel), tG_of (List.mem_of_getElem? (i := 64) (by decide +kernel)) (by decide +kernel), by decide +kernel, by decide +kernel⟩
theorem v_5_count : Jvm.Cond.instanceMethod (mY m5_count) ∈ tG ∧ Jvm.Cond.selects (mY m5_count).cls (mY m5_count) (mY m5_count) ∈ tG := ⟨tG_of (List.mem_of_getElem? (i := 676) (by decide +kernel)) (by decide +kernel), tG_of (List.mem_of_getElem? (i := 677) (by decide +kernel)) (by decide +kernel)⟩
theorem lk_X5_178 : Lk RX5 178 m5_count 1 := ⟨ok_5_count, tG_of (List.mem_of_getElem? (i := 697) (by decide +kernel)) (by decide +kernel), by decide +kernel, by decide⟩
theorem ok_5_shown : MOK m5_shown := ⟨by decide +kernel, tG_of (List.mem_of_getElem? (i := 614) (by decide +kernel)) (by decide +kernel), tG_of (List.mem_of_getElem? (i := 64) (by decide +kernel)) (by decide +kernel), by decide +kernel, by decide +kernel⟩
theorem v_5_shown : Jvm.Cond.instanceMethod (mY m5_shown) ∈ tG ∧ Jvm.Cond.selects (mY m5_shown).cls (mY m5_shown) (mY m5_shown) ∈ tG := ⟨tG_of (List.mem_of_getElem? (i := 612) (by decide +kernel)) (by decide +kernel), tG_of (List.mem_of_getElem? (i := 613) (by decide +kernel)) (by decide +kernel)⟩
theorem lk_X5_181 : Lk RX5 181 m5_shown 1 := ⟨ok_5_shown, tG_of (List.mem_of_getElem? (i := 698) (by decide +kernel)) (by decide +kernel), by decide +kernel, by decide⟩
theorem ok_5_portrait : MOK m5_portrait := ⟨by decide +kernel, tG_of (List.mem_of_getElem? (i := 625) (by decide +kernel)) (by decide +kernel), tG_of (List.mem_of_getElem? (i := 64) (by decide +kernel)) (by decide +kernel), by decide +kernel, by decide +kernel⟩
theorem v_5_portrait : Jvm.Cond.instanceMethod (mY m5_portrait) ∈ tG ∧ Jvm.Cond.selects (mY m5_portrait).cls (mY m5_portrait) (mY m5_portrait) ∈ tG := ⟨tG_of (List.mem_of_getElem? (i := 623) (by decide +kernel)) (by decide +kernel), tG_of (List.mem_of_getElem? (i := 624) (by decide +kernel)) (by decide +kernel)⟩
theorem lk_X5_184 : Lk RX5 184 m5_portrait 2 := ⟨ok_5_portrait, tG_of (List.mem_of_getElem? (i := 699) (by decide +kernel)) (by decide +kernel), by decide +kernel, by decide⟩
theorem ok_5_digestNode : MOK m5_digestNode := ⟨by decide +kernel, tG_of (List.mem_of_getElem? (i := 703) (by decide +kernel)) (by decide +kernel), tG_of (List.mem_of_getElem? (i := 64) (by decide +kernel)) (by decide +kernel), by decide +kernel, by decide +kernel⟩
theorem v_5_digestNode : Jvm.Cond.instanceMethod (mY m5_digestNode) ∈ tG ∧ Jvm.Cond.selects (mY m5_digestNode).cls (mY m5_digestNode) (mY m5_digestNode) ∈ tG := ⟨tG_of (List.mem_of_getElem? (i := 702) (by decide +kernel)) (by decide +kernel), tG_of (List.mem_of_getElem? (i := 25) (by decide +kernel)) (by decide +kernel)⟩
theorem lk_X5_188 : Lk RX5 188 m5_digestNode 2 := ⟨ok_5_digestNode, tG_of (List.mem_of_getElem? (i := 700) (by decide +kernel)) (by decide +kernel), by decide +kernel, by decide⟩
theorem ok_5_situations : MOK m5_situations := ⟨by decide +kernel, tG_of (List.mem_of_getElem? (i := 639) (by decide +kernel)) (by decide +kernel), tG_of (List.mem_of_getElem? (i := 64) (by decide +kernel)) (by decide +kernel), by decide +kernel, by decide +kernel⟩
theorem v_5_situations : Jvm.Cond.instanceMethod (mY m5_situations) ∈ tG ∧ Jvm.Cond.selects (mY m5_situations).cls (mY m5_situations) (mY m5_situations) ∈ tG := ⟨tG_of (List.mem_of_getElem? (i := 637) (by decide +kernel)) (by decide +kernel), tG_of (List.mem_of_getElem? (i := 638) (by decide +kernel)) (by decide +kernel)⟩
theorem lk_X5_192 : Lk RX5 192 m5_situations 1 := ⟨ok_5_situations, tG_of (List.mem_of_getElem? (i := 707) (by decide +kernel)) (by decide +kernel), by decide +kernel, by decide⟩
theorem ok_4_byteAt : MOK m4_byteAt := ⟨by decide +kernel, tG_of (List.mem_of_getElem? (i := 711) (by decide +kernel)) (by decide +kernel), tG_of (List.mem_of_getElem? (i := 65) (by decide +kernel)) (by decide +kernel), by decide +kernel, by decide +kernel⟩
theorem v_4_byteAt : Jvm.Cond.instanceMethod (mY m4_byteAt) ∈ tG ∧ Jvm.Cond.selects (mY m4_byteAt).cls (mY m4_byteAt) (mY m4_byteAt) ∈ tG := ⟨tG_of (List.mem_of_getElem? (i := 709) (by decide +kernel)) (by decide +kernel), tG_of (List.mem_of_getElem? (i := 710) (by decide +kernel)) (by decide +kernel)⟩
theorem lk_X5_195 : Lk RX5 195 m4_byteAt 1 := ⟨ok_4_byteAt, tG_of (List.mem_of_getElem? (i := 708) (by decide +kernel)) (by decide +kernel), by decide +kernel, by decide⟩
theorem ok_5_node : MOK m5_node := ⟨by decide +kernel, tG_of (List.mem_of_getElem? (i := 629) (by decide +kernel)) (by decide +kernel), tG_of (List.mem_of_getElem? (i := 64) (by decide +kernel)) (by decide +kernel), by decide +kernel, by decide +kernel⟩
theorem v_5_node : Jvm.Cond.instanceMethod (mY m5_node) ∈ tG ∧ Jvm.Cond.selects (mY m5_node).cls (mY m5_node) (mY m5_node) ∈ tG := ⟨tG_of (List.mem_of_getElem? (i := 627) (by decide +kernel)) (by decide +kernel), tG_of (List.mem_of_getElem? (i := 628) (by decide +kernel)) (by decide +kernel)⟩
theorem lk_X5_198 : Lk RX5 198 m5_node 2 := ⟨ok_5_node, tG_of (List.mem_of_getElem? (i := 704) (by decide +kernel)) (by decide +kernel), by decide +kernel, by decide⟩
theorem ok_5_option : MOK m5_option := ⟨by decide +kernel, tG_of (List.mem_of_getElem? (i := 635) (by decide +kernel)) (by decide +kernel), tG_of (List.mem_of_getElem? (i := 64) (by decide +kernel)) (by decide +kernel), by decide +kernel, by decide +kernel⟩
theorem v_5_option : Jvm.Cond.instanceMethod (mY m5_option) ∈ tG ∧ Jvm.Cond.selects (mY m5_option).cls (mY m5_option) (mY m5_option) ∈ tG := ⟨tG_of (List.mem_of_getElem? (i := 633) (by decide +kernel)) (by decide +kernel), tG_of (List.mem_of_getElem? (i := 634) (by decide +kernel)) (by decide +kernel)⟩
theorem lk_X5_200 : Lk RX5 200 m5_option 3 := ⟨ok_5_option, tG_of (List.mem_of_getElem? (i := 705) (by decide +kernel)) (by decide +kernel), by decide +kernel, by decide⟩
theorem ok_5_usable : MOK m5_usable := ⟨by decide +kernel, tG_of (List.mem_of_getElem? (i := 669) (by decide +kernel)) (by decide +kernel), tG_of (List.mem_of_getElem? (i := 64) (by decide +kernel)) (by decide +kernel), by decide +kernel, by decide +kernel⟩
theorem v_5_usable : Jvm.Cond.instanceMethod (mY m5_usable) ∈ tG ∧ Jvm.Cond.selects (mY m5_usable).cls (mY m5_usable) (mY m5_usable) ∈ tG := ⟨tG_of (List.mem_of_getElem? (i := 667) (by decide +kernel)) (by decide +kernel), tG_of (List.mem_of_getElem? (i := 668) (by decide +kernel)) (by decide +kernel)⟩
theorem lk_X5_203 : Lk RX5 203 m5_usable 2 := ⟨ok_5_usable, tG_of (List.mem_of_getElem? (i := 706) (by decide +kernel)) (by decide +kernel), by decide +kernel, by decide⟩
theorem oi_X6_1 : Jvm.Cond.methodLink RX6 1 objectInit ∈ tG := tG_of (List.mem_of_getElem? (i := 717) (by decide +kernel)) (by decide +kernel)
theorem f_X6_7 : FL RX6 7 6 0 := ⟨RX6, TX6, 27, rfl, by decide, inGX6, tG_of (List.mem_of_getElem? (i := 750) (by decide +kernel)) (by decide +kernel)⟩
theorem p_X6_X6_0 : FP RX6 6 0 (.array .int) true := ⟨RX6, TX6, 27, tyX6, rfl, tyX6_ok, nmX6, by decide +kernel, rfl, fun _ => rfl⟩
theorem f_X6_13 : FL RX6 13 6 2 := ⟨RX6, TX6, 27, rfl, by decide, inGX6, tG_of (List.mem_of_getElem? (i := 752) (by decide +kernel)) (by decide +kernel)⟩
theorem p_X6_X6_2 : FP RX6 6 2 (.array .int) true := ⟨RX6, TX6, 27, tyX6, rfl, tyX6_ok, nmX6, by decide +kernel, rfl, fun _ => rfl⟩
theorem f_X6_16 : FL RX6 16 6 4 := ⟨RX6, TX6, 27, rfl, by decide, inGX6, tG_of (List.mem_of_getElem? (i := 754) (by decide +kernel)) (by decide +kernel)⟩
theorem p_X6_X6_4 : FP RX6 6 4 (.array .int) true := ⟨RX6, TX6, 27, tyX6, rfl, tyX6_ok, nmX6, by decide +kernel, rfl, fun _ => rfl⟩
theorem f_X6_19 : FL RX6 19 6 8 := ⟨RX6, TX6, 27, rfl, by decide, inGX6, tG_of (List.mem_of_getElem? (i := 758) (by decide +kernel)) (by decide +kernel)⟩
theorem p_X6_X6_8 : FP RX6 6 8 (.array .int) true := ⟨RX6, TX6, 27, tyX6, rfl, tyX6_ok, nmX6, by decide +kernel, rfl, fun _ => rfl⟩
theorem f_X6_22 : FL RX6 22 6 9 := ⟨RX6, TX6, 27, rfl, by decide, inGX6, tG_of (List.mem_of_getElem? (i := 759) (by decide +kernel)) (by decide +kernel)⟩
theorem p_X6_X6_9 : FP RX6 6 9 (.array .boolean) true := ⟨RX6, TX6, 27, tyX6, rfl, tyX6_ok, nmX6, by decide +kernel, rfl, fun _ => rfl⟩
theorem f_X6_26 : FL RX6 26 6 11 := ⟨RX6, TX6, 27, rfl, by decide, inGX6, tG_of (List.mem_of_getElem? (i := 761) (by decide +kernel)) (by decide +kernel)⟩
theorem p_X6_X6_11 : FP RX6 6 11 (.array .int) true := ⟨RX6, TX6, 27, tyX6, rfl, tyX6_ok, nmX6, by decide +kernel, rfl, fun _ => rfl⟩
theorem f_X6_29 : FL RX6 29 6 16 := ⟨RX6, TX6, 27, rfl, by decide, inGX6, tG_of (List.mem_of_getElem? (i := 766) (by decide +kernel)) (by decide +kernel)⟩
theorem p_X6_X6_16 : FP RX6 6 16 (.array .int) true := ⟨RX6, TX6, 27, tyX6, rfl, tyX6_ok, nmX6, by decide +kernel, rfl, fun _ => rfl⟩
theorem f_X6_32 : FL RX6 32 6 17 := ⟨RX6, TX6, 27, rfl, by decide, inGX6, tG_of (List.mem_of_getElem? (i := 767) (by decide +kernel)) (by decide +kernel)⟩
theorem p_X6_X6_17 : FP RX6 6 17 (.array .int) true := ⟨RX6, TX6, 27, tyX6, rfl, tyX6_ok, nmX6, by decide +kernel, rfl, fun _ => rfl⟩
theorem f_X6_35 : FL RX6 35 6 18 := ⟨RX6, TX6, 27, rfl, by decide, inGX6, tG_of (List.mem_of_getElem? (i := 768) (by decide +kernel)) (by decide +kernel)⟩
theorem p_X6_X6_18 : FP RX6 6 18 (.array .boolean) true := ⟨RX6, TX6, 27, tyX6, rfl, tyX6_ok, nmX6, by decide +kernel, rfl, fun _ => rfl⟩
theorem f_X6_38 : FL RX6 38 6 19 := ⟨RX6, TX6, 27, rfl, by decide, inGX6, tG_of (List.mem_of_getElem? (i := 769) (by decide +kernel)) (by decide +kernel)⟩
theorem p_X6_X6_19 : FP RX6 6 19 (.array .int) true := ⟨RX6, TX6, 27, tyX6, rfl, tyX6_ok, nmX6, by decide +kernel, rfl, fun _ => rfl⟩
theorem f_X6_41 : FL RX6 41 6 20 := ⟨RX6, TX6, 27, rfl, by decide, inGX6, tG_of (List.mem_of_getElem? (i := 770) (by decide +kernel)) (by decide +kernel)⟩
theorem p_X6_X6_20 : FP RX6 6 20 (.array .int) true := ⟨RX6, TX6, 27, tyX6, rfl, tyX6_ok, nmX6, by decide +kernel, rfl, fun _ => rfl⟩
theorem f_X6_44 : FL RX6 44 6 21 := ⟨RX6, TX6, 27, rfl, by decide, inGX6, tG_of (List.mem_of_getElem? (i := 771) (by decide +kernel)) (by decide +kernel)⟩
theorem p_X6_X6_21 : FP RX6 6 21 (.array .int) true := ⟨RX6, TX6, 27, tyX6, rfl, tyX6_ok, nmX6, by decide +kernel, rfl, fun _ => rfl⟩
theorem f_X6_47 : FL RX6 47 6 23 := ⟨RX6, TX6, 27, rfl, by decide, inGX6, tG_of (List.mem_of_getElem? (i := 773) (by decide +kernel)) (by decide +kernel)⟩
theorem p_X6_X6_23 : FP RX6 6 23 (.array .boolean) true := ⟨RX6, TX6, 27, tyX6, rfl, tyX6_ok, nmX6, by decide +kernel, rfl, fun _ => rfl⟩
theorem f_X6_50 : FL RX6 50 6 24 := ⟨RX6, TX6, 27, rfl, by decide, inGX6, tG_of (List.mem_of_getElem? (i := 774) (by decide +kernel)) (by decide +kernel)⟩
theorem p_X6_X6_24 : FP RX6 6 24 (.array .int) true := ⟨RX6, TX6, 27, tyX6, rfl, tyX6_ok, nmX6, by decide +kernel, rfl, fun _ => rfl⟩
theorem f_X6_53 : FL RX6 53 6 25 := ⟨RX6, TX6, 27, rfl, by decide, inGX6, tG_of (List.mem_of_getElem? (i := 775) (by decide +kernel)) (by decide +kernel)⟩
theorem p_X6_X6_25 : FP RX6 6 25 (.array .int) true := ⟨RX6, TX6, 27, tyX6, rfl, tyX6_ok, nmX6, by decide +kernel, rfl, fun _ => rfl⟩
theorem ok_6_starts : MOK m6_starts := ⟨by decide +kernel, tG_of (List.mem_of_getElem? (i := 721) (by decide +kernel)) (by decide +kernel), tG_of (List.mem_of_getElem? (i := 71) (by decide +kernel)) (by decide +kernel), by decide +kernel, by decide +kernel⟩
theorem v_6_starts : Jvm.Cond.instanceMethod (mY m6_starts) ∈ tG ∧ Jvm.Cond.selects (mY m6_starts).cls (mY m6_starts) (mY m6_starts) ∈ tG := ⟨tG_of (List.mem_of_getElem? (i := 720) (by decide +kernel)) (by decide +kernel), tG_of (List.mem_of_getElem? (i := 26) (by decide +kernel)) (by decide +kernel)⟩
theorem lk_X6_56 : Lk RX6 56 m6_starts 0 := ⟨ok_6_starts, tG_of (List.mem_of_getElem? (i := 718) (by decide +kernel)) (by decide +kernel), by decide +kernel, by decide⟩
theorem ok_6_in : MOK m6_in := ⟨by decide +kernel, tG_of (List.mem_of_getElem? (i := 838) (by decide +kernel)) (by decide +kernel), tG_of (List.mem_of_getElem? (i := 71) (by decide +kernel)) (by decide +kernel), by decide +kernel, by decide +kernel⟩
theorem s_6_in : Jvm.Cond.static (mY m6_in) ∈ tG := tG_of (List.mem_of_getElem? (i := 837) (by decide +kernel)) (by decide +kernel)
theorem lk_X6_59 : Lk RX6 59 m6_in 3 := ⟨ok_6_in, tG_of (List.mem_of_getElem? (i := 836) (by decide +kernel)) (by decide +kernel), by decide +kernel, by decide⟩
theorem f_X6_63 : FL RX6 63 6 12 := ⟨RX6, TX6, 27, rfl, by decide, inGX6, tG_of (List.mem_of_getElem? (i := 762) (by decide +kernel)) (by decide +kernel)⟩
theorem p_X6_X6_12 : FP RX6 6 12 .int false := ⟨RX6, TX6, 27, tyX6, rfl, tyX6_ok, nmX6, by decide +kernel, rfl, fun q => by cases q⟩
theorem f_X6_67 : FL RX6 67 6 13 := ⟨RX6, TX6, 27, rfl, by decide, inGX6, tG_of (List.mem_of_getElem? (i := 763) (by decide +kernel)) (by decide +kernel)⟩
theorem ok_6_next : MOK m6_next := ⟨by decide +kernel, tG_of (List.mem_of_getElem? (i := 858) (by decide +kernel)) (by decide +kernel), tG_of (List.mem_of_getElem? (i := 71) (by decide +kernel)) (by decide +kernel), by decide +kernel, by decide +kernel⟩
theorem v_6_next : Jvm.Cond.instanceMethod (mY m6_next) ∈ tG ∧ Jvm.Cond.selects (mY m6_next).cls (mY m6_next) (mY m6_next) ∈ tG := ⟨tG_of (List.mem_of_getElem? (i := 857) (by decide +kernel)) (by decide +kernel), tG_of (List.mem_of_getElem? (i := 36) (by decide +kernel)) (by decide +kernel)⟩
theorem lk_X6_70 : Lk RX6 70 m6_next 0 := ⟨ok_6_next, tG_of (List.mem_of_getElem? (i := 855) (by decide +kernel)) (by decide +kernel), by decide +kernel, by decide⟩
theorem p_X6_X6_13 : FP RX6 6 13 .int false := ⟨RX6, TX6, 27, tyX6, rfl, tyX6_ok, nmX6, by decide +kernel, rfl, fun q => by cases q⟩
theorem f_X6_74 : FL RX6 74 6 14 := ⟨RX6, TX6, 27, rfl, by decide, inGX6, tG_of (List.mem_of_getElem? (i := 764) (by decide +kernel)) (by decide +kernel)⟩
theorem p_X6_X6_14 : FP RX6 6 14 .int false := ⟨RX6, TX6, 27, tyX6, rfl, tyX6_ok, nmX6, by decide +kernel, rfl, fun q => by cases q⟩
theorem ok_6_blanks : MOK m6_blanks := ⟨by decide +kernel, tG_of (List.mem_of_getElem? (i := 854) (by decide +kernel)) (by decide +kernel), tG_of (List.mem_of_getElem? (i := 71) (by decide +kernel)) (by decide +kernel), by decide +kernel, by decide +kernel⟩
theorem v_6_blanks : Jvm.Cond.instanceMethod (mY m6_blanks) ∈ tG ∧ Jvm.Cond.selects (mY m6_blanks).cls (mY m6_blanks) (mY m6_blanks) ∈ tG := ⟨tG_of (List.mem_of_getElem? (i := 853) (by decide +kernel)) (by decide +kernel), tG_of (List.mem_of_getElem? (i := 35) (by decide +kernel)) (by decide +kernel)⟩
theorem lk_X6_77 : Lk RX6 77 m6_blanks 0 := ⟨ok_6_blanks, tG_of (List.mem_of_getElem? (i := 851) (by decide +kernel)) (by decide +kernel), by decide +kernel, by decide⟩
theorem ok_6_fails : MOK m6_fails := ⟨by decide +kernel, tG_of (List.mem_of_getElem? (i := 869) (by decide +kernel)) (by decide +kernel), tG_of (List.mem_of_getElem? (i := 71) (by decide +kernel)) (by decide +kernel), by decide +kernel, by decide +kernel⟩
theorem v_6_fails : Jvm.Cond.instanceMethod (mY m6_fails) ∈ tG ∧ Jvm.Cond.selects (mY m6_fails).cls (mY m6_fails) (mY m6_fails) ∈ tG := ⟨tG_of (List.mem_of_getElem? (i := 868) (by decide +kernel)) (by decide +kernel), tG_of (List.mem_of_getElem? (i := 38) (by decide +kernel)) (by decide +kernel)⟩
theorem lk_X6_80 : Lk RX6 80 m6_fails 1 := ⟨ok_6_fails, tG_of (List.mem_of_getElem? (i := 866) (by decide +kernel)) (by decide +kernel), by decide +kernel, by decide⟩
theorem ok_6_take : MOK m6_take := ⟨by decide +kernel, tG_of (List.mem_of_getElem? (i := 873) (by decide +kernel)) (by decide +kernel), tG_of (List.mem_of_getElem? (i := 71) (by decide +kernel)) (by decide +kernel), by decide +kernel, by decide +kernel⟩
theorem v_6_take : Jvm.Cond.instanceMethod (mY m6_take) ∈ tG ∧ Jvm.Cond.selects (mY m6_take).cls (mY m6_take) (mY m6_take) ∈ tG := ⟨tG_of (List.mem_of_getElem? (i := 872) (by decide +kernel)) (by decide +kernel), tG_of (List.mem_of_getElem? (i := 39) (by decide +kernel)) (by decide +kernel)⟩
theorem lk_X6_84 : Lk RX6 84 m6_take 1 := ⟨ok_6_take, tG_of (List.mem_of_getElem? (i := 870) (by decide +kernel)) (by decide +kernel), by decide +kernel, by decide⟩
theorem ok_6_isDigit : MOK m6_isDigit := ⟨by decide +kernel, tG_of (List.mem_of_getElem? (i := 885) (by decide +kernel)) (by decide +kernel), tG_of (List.mem_of_getElem? (i := 71) (by decide +kernel)) (by decide +kernel), by decide +kernel, by decide +kernel⟩
theorem v_6_isDigit : Jvm.Cond.instanceMethod (mY m6_isDigit) ∈ tG ∧ Jvm.Cond.selects (mY m6_isDigit).cls (mY m6_isDigit) (mY m6_isDigit) ∈ tG := ⟨tG_of (List.mem_of_getElem? (i := 884) (by decide +kernel)) (by decide +kernel), tG_of (List.mem_of_getElem? (i := 42) (by decide +kernel)) (by decide +kernel)⟩
theorem lk_X6_88 : Lk RX6 88 m6_isDigit 0 := ⟨ok_6_isDigit, tG_of (List.mem_of_getElem? (i := 882) (by decide +kernel)) (by decide +kernel), by decide +kernel, by decide⟩
theorem ok_6_number : MOK m6_number := ⟨by decide +kernel, tG_of (List.mem_of_getElem? (i := 881) (by decide +kernel)) (by decide +kernel), tG_of (List.mem_of_getElem? (i := 71) (by decide +kernel)) (by decide +kernel), by decide +kernel, by decide +kernel⟩
theorem v_6_number : Jvm.Cond.instanceMethod (mY m6_number) ∈ tG ∧ Jvm.Cond.selects (mY m6_number).cls (mY m6_number) (mY m6_number) ∈ tG := ⟨tG_of (List.mem_of_getElem? (i := 880) (by decide +kernel)) (by decide +kernel), tG_of (List.mem_of_getElem? (i := 41) (by decide +kernel)) (by decide +kernel)⟩
theorem lk_X6_92 : Lk RX6 92 m6_number 1 := ⟨ok_6_number, tG_of (List.mem_of_getElem? (i := 878) (by decide +kernel)) (by decide +kernel), by decide +kernel, by decide⟩
theorem ok_6_digit : MOK m6_digit := ⟨by decide +kernel, tG_of (List.mem_of_getElem? (i := 889) (by decide +kernel)) (by decide +kernel), tG_of (List.mem_of_getElem? (i := 71) (by decide +kernel)) (by decide +kernel), by decide +kernel, by decide +kernel⟩
theorem v_6_digit : Jvm.Cond.instanceMethod (mY m6_digit) ∈ tG ∧ Jvm.Cond.selects (mY m6_digit).cls (mY m6_digit) (mY m6_digit) ∈ tG := ⟨tG_of (List.mem_of_getElem? (i := 888) (by decide +kernel)) (by decide +kernel), tG_of (List.mem_of_getElem? (i := 43) (by decide +kernel)) (by decide +kernel)⟩
theorem lk_X6_96 : Lk RX6 96 m6_digit 1 := ⟨ok_6_digit, tG_of (List.mem_of_getElem? (i := 886) (by decide +kernel)) (by decide +kernel), by decide +kernel, by decide⟩
theorem ok_6_kindOf : MOK m6_kindOf := ⟨by decide +kernel, tG_of (List.mem_of_getElem? (i := 865) (by decide +kernel)) (by decide +kernel), tG_of (List.mem_of_getElem? (i := 71) (by decide +kernel)) (by decide +kernel), by decide +kernel, by decide +kernel⟩
theorem s_6_kindOf : Jvm.Cond.static (mY m6_kindOf) ∈ tG := tG_of (List.mem_of_getElem? (i := 864) (by decide +kernel)) (by decide +kernel)
theorem lk_X6_99 : Lk RX6 99 m6_kindOf 1 := ⟨ok_6_kindOf, tG_of (List.mem_of_getElem? (i := 863) (by decide +kernel)) (by decide +kernel), by decide +kernel, by decide⟩
theorem f_X6_102 : FL RX6 102 6 3 := ⟨RX6, TX6, 27, rfl, by decide, inGX6, tG_of (List.mem_of_getElem? (i := 753) (by decide +kernel)) (by decide +kernel)⟩
theorem ok_6_voice : MOK m6_voice := ⟨by decide +kernel, tG_of (List.mem_of_getElem? (i := 877) (by decide +kernel)) (by decide +kernel), tG_of (List.mem_of_getElem? (i := 71) (by decide +kernel)) (by decide +kernel), by decide +kernel, by decide +kernel⟩
theorem v_6_voice : Jvm.Cond.instanceMethod (mY m6_voice) ∈ tG ∧ Jvm.Cond.selects (mY m6_voice).cls (mY m6_voice) (mY m6_voice) ∈ tG := ⟨tG_of (List.mem_of_getElem? (i := 876) (by decide +kernel)) (by decide +kernel), tG_of (List.mem_of_getElem? (i := 40) (by decide +kernel)) (by decide +kernel)⟩
theorem lk_X6_105 : Lk RX6 105 m6_voice 0 := ⟨ok_6_voice, tG_of (List.mem_of_getElem? (i := 874) (by decide +kernel)) (by decide +kernel), by decide +kernel, by decide⟩
theorem ok_6_readsOptions : MOK m6_readsOptions := ⟨by decide +kernel, tG_of (List.mem_of_getElem? (i := 893) (by decide +kernel)) (by decide +kernel), tG_of (List.mem_of_getElem? (i := 71) (by decide +kernel)) (by decide +kernel), by decide +kernel, by decide +kernel⟩
theorem v_6_readsOptions : Jvm.Cond.instanceMethod (mY m6_readsOptions) ∈ tG ∧ Jvm.Cond.selects (mY m6_readsOptions).cls (mY m6_readsOptions) (mY m6_readsOptions) ∈ tG := ⟨tG_of (List.mem_of_getElem? (i := 892) (by decide +kernel)) (by decide +kernel), tG_of (List.mem_of_getElem? (i := 44) (by decide +kernel)) (by decide +kernel)⟩
theorem lk_X6_108 : Lk RX6 108 m6_readsOptions 1 := ⟨ok_6_readsOptions, tG_of (List.mem_of_getElem? (i := 890) (by decide +kernel)) (by decide +kernel), by decide +kernel, by decide⟩
theorem p_X6_X6_3 : FP RX6 6 3 .int false := ⟨RX6, TX6, 27, tyX6, rfl, tyX6_ok, nmX6, by decide +kernel, rfl, fun q => by cases q⟩
theorem ok_6_readsNode : MOK m6_readsNode := ⟨by decide +kernel, tG_of (List.mem_of_getElem? (i := 862) (by decide +kernel)) (by decide +kernel), tG_of (List.mem_of_getElem? (i := 71) (by decide +kernel)) (by decide +kernel), by decide +kernel, by decide +kernel⟩
theorem v_6_readsNode : Jvm.Cond.instanceMethod (mY m6_readsNode) ∈ tG ∧ Jvm.Cond.selects (mY m6_readsNode).cls (mY m6_readsNode) (mY m6_readsNode) ∈ tG := ⟨tG_of (List.mem_of_getElem? (i := 861) (by decide +kernel)) (by decide +kernel), tG_of (List.mem_of_getElem? (i := 37) (by decide +kernel)) (by decide +kernel)⟩
theorem lk_X6_111 : Lk RX6 111 m6_readsNode 0 := ⟨ok_6_readsNode, tG_of (List.mem_of_getElem? (i := 859) (by decide +kernel)) (by decide +kernel), by decide +kernel, by decide⟩
theorem ok_6_reads : MOK m6_reads := ⟨by decide +kernel, tG_of (List.mem_of_getElem? (i := 850) (by decide +kernel)) (by decide +kernel), tG_of (List.mem_of_getElem? (i := 71) (by decide +kernel)) (by decide +kernel), by decide +kernel, by decide +kernel⟩
theorem v_6_reads : Jvm.Cond.instanceMethod (mY m6_reads) ∈ tG ∧ Jvm.Cond.selects (mY m6_reads).cls (mY m6_reads) (mY m6_reads) ∈ tG := ⟨tG_of (List.mem_of_getElem? (i := 849) (by decide +kernel)) (by decide +kernel), tG_of (List.mem_of_getElem? (i := 34) (by decide +kernel)) (by decide +kernel)⟩
theorem lk_X6_114 : Lk RX6 114 m6_reads 0 := ⟨ok_6_reads, tG_of (List.mem_of_getElem? (i := 847) (by decide +kernel)) (by decide +kernel), by decide +kernel, by decide⟩
theorem f_X6_116 : FL RX6 116 6 1 := ⟨RX6, TX6, 27, rfl, by decide, inGX6, tG_of (List.mem_of_getElem? (i := 751) (by decide +kernel)) (by decide +kernel)⟩
theorem ok_6_of : MOK m6_of := ⟨by decide +kernel, tG_of (List.mem_of_getElem? (i := 733) (by decide +kernel)) (by decide +kernel), tG_of (List.mem_of_getElem? (i := 71) (by decide +kernel)) (by decide +kernel), by decide +kernel, by decide +kernel⟩
theorem v_6_of : Jvm.Cond.instanceMethod (mY m6_of) ∈ tG ∧ Jvm.Cond.selects (mY m6_of).cls (mY m6_of) (mY m6_of) ∈ tG := ⟨tG_of (List.mem_of_getElem? (i := 732) (by decide +kernel)) (by decide +kernel), tG_of (List.mem_of_getElem? (i := 29) (by decide +kernel)) (by decide +kernel)⟩
theorem lk_X6_119 : Lk RX6 119 m6_of 2 := ⟨ok_6_of, tG_of (List.mem_of_getElem? (i := 730) (by decide +kernel)) (by decide +kernel), by decide +kernel, by decide⟩
theorem ok_6_leaves : MOK m6_leaves := ⟨by decide +kernel, tG_of (List.mem_of_getElem? (i := 741) (by decide +kernel)) (by decide +kernel), tG_of (List.mem_of_getElem? (i := 71) (by decide +kernel)) (by decide +kernel), by decide +kernel, by decide +kernel⟩
theorem v_6_leaves : Jvm.Cond.instanceMethod (mY m6_leaves) ∈ tG ∧ Jvm.Cond.selects (mY m6_leaves).cls (mY m6_leaves) (mY m6_leaves) ∈ tG := ⟨tG_of (List.mem_of_getElem? (i := 740) (by decide +kernel)) (by decide +kernel), tG_of (List.mem_of_getElem? (i := 31) (by decide +kernel)) (by decide +kernel)⟩
theorem lk_X6_123 : Lk RX6 123 m6_leaves 1 := ⟨ok_6_leaves, tG_of (List.mem_of_getElem? (i := 738) (by decide +kernel)) (by decide +kernel), by decide +kernel, by decide⟩
theorem f_X6_126 : FL RX6 126 6 15 := ⟨RX6, TX6, 27, rfl, by decide, inGX6, tG_of (List.mem_of_getElem? (i := 765) (by decide +kernel)) (by decide +kernel)⟩
theorem p_X6_X6_15 : FP RX6 6 15 .int false := ⟨RX6, TX6, 27, tyX6, rfl, tyX6_ok, nmX6, by decide +kernel, rfl, fun q => by cases q⟩
theorem ok_6_shownKind : MOK m6_shownKind := ⟨by decide +kernel, tG_of (List.mem_of_getElem? (i := 729) (by decide +kernel)) (by decide +kernel), tG_of (List.mem_of_getElem? (i := 71) (by decide +kernel)) (by decide +kernel), by decide +kernel, by decide +kernel⟩
theorem v_6_shownKind : Jvm.Cond.instanceMethod (mY m6_shownKind) ∈ tG ∧ Jvm.Cond.selects (mY m6_shownKind).cls (mY m6_shownKind) (mY m6_shownKind) ∈ tG := ⟨tG_of (List.mem_of_getElem? (i := 728) (by decide +kernel)) (by decide +kernel), tG_of (List.mem_of_getElem? (i := 28) (by decide +kernel)) (by decide +kernel)⟩
theorem lk_X6_129 : Lk RX6 129 m6_shownKind 1 := ⟨ok_6_shownKind, tG_of (List.mem_of_getElem? (i := 726) (by decide +kernel)) (by decide +kernel), by decide +kernel, by decide⟩
theorem ok_6_does : MOK m6_does := ⟨by decide +kernel, tG_of (List.mem_of_getElem? (i := 737) (by decide +kernel)) (by decide +kernel), tG_of (List.mem_of_getElem? (i := 71) (by decide +kernel)) (by decide +kernel), by decide +kernel, by decide +kernel⟩
theorem v_6_does : Jvm.Cond.instanceMethod (mY m6_does) ∈ tG ∧ Jvm.Cond.selects (mY m6_does).cls (mY m6_does) (mY m6_does) ∈ tG := ⟨tG_of (List.mem_of_getElem? (i := 736) (by decide +kernel)) (by decide +kernel), tG_of (List.mem_of_getElem? (i := 30) (by decide +kernel)) (by decide +kernel)⟩
theorem lk_X6_132 : Lk RX6 132 m6_does 1 := ⟨ok_6_does, tG_of (List.mem_of_getElem? (i := 734) (by decide +kernel)) (by decide +kernel), by decide +kernel, by decide⟩
theorem f_X6_135 : FL RX6 135 6 5 := ⟨RX6, TX6, 27, rfl, by decide, inGX6, tG_of (List.mem_of_getElem? (i := 755) (by decide +kernel)) (by decide +kernel)⟩
theorem f_X6_138 : FL RX6 138 6 6 := ⟨RX6, TX6, 27, rfl, by decide, inGX6, tG_of (List.mem_of_getElem? (i := 756) (by decide +kernel)) (by decide +kernel)⟩
theorem ok_6_placeOf : MOK m6_placeOf := ⟨by decide +kernel, tG_of (List.mem_of_getElem? (i := 749) (by decide +kernel)) (by decide +kernel), tG_of (List.mem_of_getElem? (i := 71) (by decide +kernel)) (by decide +kernel), by decide +kernel, by decide +kernel⟩
theorem v_6_placeOf : Jvm.Cond.instanceMethod (mY m6_placeOf) ∈ tG ∧ Jvm.Cond.selects (mY m6_placeOf).cls (mY m6_placeOf) (mY m6_placeOf) ∈ tG := ⟨tG_of (List.mem_of_getElem? (i := 748) (by decide +kernel)) (by decide +kernel), tG_of (List.mem_of_getElem? (i := 33) (by decide +kernel)) (by decide +kernel)⟩
theorem lk_X6_141 : Lk RX6 141 m6_placeOf 1 := ⟨ok_6_placeOf, tG_of (List.mem_of_getElem? (i := 746) (by decide +kernel)) (by decide +kernel), by decide +kernel, by decide⟩
theorem f_X6_144 : FL RX6 144 6 10 := ⟨RX6, TX6, 27, rfl, by decide, inGX6, tG_of (List.mem_of_getElem? (i := 760) (by decide +kernel)) (by decide +kernel)⟩
theorem p_X6_X6_10 : FP RX6 6 10 .int false := ⟨RX6, TX6, 27, tyX6, rfl, tyX6_ok, nmX6, by decide +kernel, rfl, fun q => by cases q⟩
theorem ok_6_present : MOK m6_present := ⟨by decide +kernel, tG_of (List.mem_of_getElem? (i := 905) (by decide +kernel)) (by decide +kernel), tG_of (List.mem_of_getElem? (i := 71) (by decide +kernel)) (by decide +kernel), by decide +kernel, by decide +kernel⟩
theorem v_6_present : Jvm.Cond.instanceMethod (mY m6_present) ∈ tG ∧ Jvm.Cond.selects (mY m6_present).cls (mY m6_present) (mY m6_present) ∈ tG := ⟨tG_of (List.mem_of_getElem? (i := 904) (by decide +kernel)) (by decide +kernel), tG_of (List.mem_of_getElem? (i := 45) (by decide +kernel)) (by decide +kernel)⟩
theorem lk_X6_147 : Lk RX6 147 m6_present 1 := ⟨ok_6_present, tG_of (List.mem_of_getElem? (i := 902) (by decide +kernel)) (by decide +kernel), by decide +kernel, by decide⟩
theorem p_X6_X6_5 : FP RX6 6 5 .int false := ⟨RX6, TX6, 27, tyX6, rfl, tyX6_ok, nmX6, by decide +kernel, rfl, fun q => by cases q⟩
theorem p_X6_X6_6 : FP RX6 6 6 .int false := ⟨RX6, TX6, 27, tyX6, rfl, tyX6_ok, nmX6, by decide +kernel, rfl, fun q => by cases q⟩
theorem f_X6_150 : FL RX6 150 6 7 := ⟨RX6, TX6, 27, rfl, by decide, inGX6, tG_of (List.mem_of_getElem? (i := 757) (by decide +kernel)) (by decide +kernel)⟩
theorem p_X6_X6_7 : FP RX6 6 7 .int false := ⟨RX6, TX6, 27, tyX6, rfl, tyX6_ok, nmX6, by decide +kernel, rfl, fun q => by cases q⟩
theorem ok_6_carries : MOK m6_carries := ⟨by decide +kernel, tG_of (List.mem_of_getElem? (i := 725) (by decide +kernel)) (by decide +kernel), tG_of (List.mem_of_getElem? (i := 71) (by decide +kernel)) (by decide +kernel), by decide +kernel, by decide +kernel⟩
theorem v_6_carries : Jvm.Cond.instanceMethod (mY m6_carries) ∈ tG ∧ Jvm.Cond.selects (mY m6_carries).cls (mY m6_carries) (mY m6_carries) ∈ tG := ⟨tG_of (List.mem_of_getElem? (i := 724) (by decide +kernel)) (by decide +kernel), tG_of (List.mem_of_getElem? (i := 27) (by decide +kernel)) (by decide +kernel)⟩
theorem lk_X6_153 : Lk RX6 153 m6_carries 1 := ⟨ok_6_carries, tG_of (List.mem_of_getElem? (i := 722) (by decide +kernel)) (by decide +kernel), by decide +kernel, by decide⟩
theorem ok_6_puts : MOK m6_puts := ⟨by decide +kernel, tG_of (List.mem_of_getElem? (i := 745) (by decide +kernel)) (by decide +kernel), tG_of (List.mem_of_getElem? (i := 71) (by decide +kernel)) (by decide +kernel), by decide +kernel, by decide +kernel⟩
theorem v_6_puts : Jvm.Cond.instanceMethod (mY m6_puts) ∈ tG ∧ Jvm.Cond.selects (mY m6_puts).cls (mY m6_puts) (mY m6_puts) ∈ tG := ⟨tG_of (List.mem_of_getElem? (i := 744) (by decide +kernel)) (by decide +kernel), tG_of (List.mem_of_getElem? (i := 32) (by decide +kernel)) (by decide +kernel)⟩
theorem lk_X6_156 : Lk RX6 156 m6_puts 1 := ⟨ok_6_puts, tG_of (List.mem_of_getElem? (i := 742) (by decide +kernel)) (by decide +kernel), by decide +kernel, by decide⟩
theorem ok_6_takes : MOK m6_takes := ⟨by decide +kernel, tG_of (List.mem_of_getElem? (i := 917) (by decide +kernel)) (by decide +kernel), tG_of (List.mem_of_getElem? (i := 71) (by decide +kernel)) (by decide +kernel), by decide +kernel, by decide +kernel⟩
theorem v_6_takes : Jvm.Cond.instanceMethod (mY m6_takes) ∈ tG ∧ Jvm.Cond.selects (mY m6_takes).cls (mY m6_takes) (mY m6_takes) ∈ tG := ⟨tG_of (List.mem_of_getElem? (i := 916) (by decide +kernel)) (by decide +kernel), tG_of (List.mem_of_getElem? (i := 47) (by decide +kernel)) (by decide +kernel)⟩
theorem lk_X6_159 : Lk RX6 159 m6_takes 0 := ⟨ok_6_takes, tG_of (List.mem_of_getElem? (i := 914) (by decide +kernel)) (by decide +kernel), by decide +kernel, by decide⟩
theorem p_X6_X6_1 : FP RX6 6 1 .int false := ⟨RX6, TX6, 27, tyX6, rfl, tyX6_ok, nmX6, by decide +kernel, rfl, fun q => by cases q⟩
theorem ok_6_goesOn : MOK m6_goesOn := ⟨by decide +kernel, tG_of (List.mem_of_getElem? (i := 913) (by decide +kernel)) (by decide +kernel), tG_of (List.mem_of_getElem? (i := 71) (by decide +kernel)) (by decide +kernel), by decide +kernel, by decide +kernel⟩
theorem v_6_goesOn : Jvm.Cond.instanceMethod (mY m6_goesOn) ∈ tG ∧ Jvm.Cond.selects (mY m6_goesOn).cls (mY m6_goesOn) (mY m6_goesOn) ∈ tG := ⟨tG_of (List.mem_of_getElem? (i := 912) (by decide +kernel)) (by decide +kernel), tG_of (List.mem_of_getElem? (i := 46) (by decide +kernel)) (by decide +kernel)⟩
theorem lk_X6_162 : Lk RX6 162 m6_goesOn 1 := ⟨ok_6_goesOn, tG_of (List.mem_of_getElem? (i := 910) (by decide +kernel)) (by decide +kernel), by decide +kernel, by decide⟩
theorem ok_6_isLocked : MOK m6_isLocked := ⟨by decide +kernel, tG_of (List.mem_of_getElem? (i := 925) (by decide +kernel)) (by decide +kernel), tG_of (List.mem_of_getElem? (i := 71) (by decide +kernel)) (by decide +kernel), by decide +kernel, by decide +kernel⟩
theorem v_6_isLocked : Jvm.Cond.instanceMethod (mY m6_isLocked) ∈ tG ∧ Jvm.Cond.selects (mY m6_isLocked).cls (mY m6_isLocked) (mY m6_isLocked) ∈ tG := ⟨tG_of (List.mem_of_getElem? (i := 924) (by decide +kernel)) (by decide +kernel), tG_of (List.mem_of_getElem? (i := 48) (by decide +kernel)) (by decide +kernel)⟩
theorem lk_X6_165 : Lk RX6 165 m6_isLocked 3 := ⟨ok_6_isLocked, tG_of (List.mem_of_getElem? (i := 922) (by decide +kernel)) (by decide +kernel), by decide +kernel, by decide⟩
theorem ok_6_endOf : MOK m6_endOf := ⟨by decide +kernel, tG_of (List.mem_of_getElem? (i := 953) (by decide +kernel)) (by decide +kernel), tG_of (List.mem_of_getElem? (i := 71) (by decide +kernel)) (by decide +kernel), by decide +kernel, by decide +kernel⟩
theorem v_6_endOf : Jvm.Cond.instanceMethod (mY m6_endOf) ∈ tG ∧ Jvm.Cond.selects (mY m6_endOf).cls (mY m6_endOf) (mY m6_endOf) ∈ tG := ⟨tG_of (List.mem_of_getElem? (i := 952) (by decide +kernel)) (by decide +kernel), tG_of (List.mem_of_getElem? (i := 49) (by decide +kernel)) (by decide +kernel)⟩
theorem lk_X6_168 : Lk RX6 168 m6_endOf 1 := ⟨ok_6_endOf, tG_of (List.mem_of_getElem? (i := 950) (by decide +kernel)) (by decide +kernel), by decide +kernel, by decide⟩
theorem ok_6_open : MOK m6_open := ⟨by decide +kernel, tG_of (List.mem_of_getElem? (i := 957) (by decide +kernel)) (by decide +kernel), tG_of (List.mem_of_getElem? (i := 71) (by decide +kernel)) (by decide +kernel), by decide +kernel, by decide +kernel⟩
theorem v_6_open : Jvm.Cond.instanceMethod (mY m6_open) ∈ tG ∧ Jvm.Cond.selects (mY m6_open).cls (mY m6_open) (mY m6_open) ∈ tG := ⟨tG_of (List.mem_of_getElem? (i := 956) (by decide +kernel)) (by decide +kernel), tG_of (List.mem_of_getElem? (i := 50) (by decide +kernel)) (by decide +kernel)⟩
theorem lk_X6_171 : Lk RX6 171 m6_open 0 := ⟨ok_6_open, tG_of (List.mem_of_getElem? (i := 954) (by decide +kernel)) (by decide +kernel), by decide +kernel, by decide⟩
theorem ok_6_isNode : MOK m6_isNode := ⟨by decide +kernel, tG_of (List.mem_of_getElem? (i := 969) (by decide +kernel)) (by decide +kernel), tG_of (List.mem_of_getElem? (i := 71) (by decide +kernel)) (by decide +kernel), by decide +kernel, by decide +kernel⟩
theorem v_6_isNode : Jvm.Cond.instanceMethod (mY m6_isNode) ∈ tG ∧ Jvm.Cond.selects (mY m6_isNode).cls (mY m6_isNode) (mY m6_isNode) ∈ tG := ⟨tG_of (List.mem_of_getElem? (i := 968) (by decide +kernel)) (by decide +kernel), tG_of (List.mem_of_getElem? (i := 51) (by decide +kernel)) (by decide +kernel)⟩
theorem lk_X6_174 : Lk RX6 174 m6_isNode 1 := ⟨ok_6_isNode, tG_of (List.mem_of_getElem? (i := 966) (by decide +kernel)) (by decide +kernel), by decide +kernel, by decide⟩
theorem ok_6_isChoice : MOK m6_isChoice := ⟨by decide +kernel, tG_of (List.mem_of_getElem? (i := 977) (by decide +kernel)) (by decide +kernel), tG_of (List.mem_of_getElem? (i := 71) (by decide +kernel)) (by decide +kernel), by decide +kernel, by decide +kernel⟩
theorem v_6_isChoice : Jvm.Cond.instanceMethod (mY m6_isChoice) ∈ tG ∧ Jvm.Cond.selects (mY m6_isChoice).cls (mY m6_isChoice) (mY m6_isChoice) ∈ tG := ⟨tG_of (List.mem_of_getElem? (i := 976) (by decide +kernel)) (by decide +kernel), tG_of (List.mem_of_getElem? (i := 52) (by decide +kernel)) (by decide +kernel)⟩
theorem lk_X6_178 : Lk RX6 178 m6_isChoice 1 := ⟨ok_6_isChoice, tG_of (List.mem_of_getElem? (i := 974) (by decide +kernel)) (by decide +kernel), by decide +kernel, by decide⟩
theorem f_X6_181 : FL RX6 181 6 22 := ⟨RX6, TX6, 27, rfl, by decide, inGX6, tG_of (List.mem_of_getElem? (i := 772) (by decide +kernel)) (by decide +kernel)⟩
theorem p_X6_X6_22 : FP RX6 6 22 .int false := ⟨RX6, TX6, 27, tyX6, rfl, tyX6_ok, nmX6, by decide +kernel, rfl, fun q => by cases q⟩
theorem ok_6_follows : MOK m6_follows := ⟨by decide +kernel, tG_of (List.mem_of_getElem? (i := 989) (by decide +kernel)) (by decide +kernel), tG_of (List.mem_of_getElem? (i := 71) (by decide +kernel)) (by decide +kernel), by decide +kernel, by decide +kernel⟩
theorem v_6_follows : Jvm.Cond.instanceMethod (mY m6_follows) ∈ tG ∧ Jvm.Cond.selects (mY m6_follows).cls (mY m6_follows) (mY m6_follows) ∈ tG := ⟨tG_of (List.mem_of_getElem? (i := 988) (by decide +kernel)) (by decide +kernel), tG_of (List.mem_of_getElem? (i := 54) (by decide +kernel)) (by decide +kernel)⟩
theorem lk_X6_184 : Lk RX6 184 m6_follows 3 := ⟨ok_6_follows, tG_of (List.mem_of_getElem? (i := 986) (by decide +kernel)) (by decide +kernel), by decide +kernel, by decide⟩
theorem ok_6_charts : MOK m6_charts := ⟨by decide +kernel, tG_of (List.mem_of_getElem? (i := 985) (by decide +kernel)) (by decide +kernel), tG_of (List.mem_of_getElem? (i := 71) (by decide +kernel)) (by decide +kernel), by decide +kernel, by decide +kernel⟩
theorem v_6_charts : Jvm.Cond.instanceMethod (mY m6_charts) ∈ tG ∧ Jvm.Cond.selects (mY m6_charts).cls (mY m6_charts) (mY m6_charts) ∈ tG := ⟨tG_of (List.mem_of_getElem? (i := 984) (by decide +kernel)) (by decide +kernel), tG_of (List.mem_of_getElem? (i := 53) (by decide +kernel)) (by decide +kernel)⟩
theorem lk_X6_188 : Lk RX6 188 m6_charts 0 := ⟨ok_6_charts, tG_of (List.mem_of_getElem? (i := 982) (by decide +kernel)) (by decide +kernel), by decide +kernel, by decide⟩
theorem ok_6_situationsOf : MOK m6_situationsOf := ⟨by decide +kernel, tG_of (List.mem_of_getElem? (i := 993) (by decide +kernel)) (by decide +kernel), tG_of (List.mem_of_getElem? (i := 71) (by decide +kernel)) (by decide +kernel), by decide +kernel, by decide +kernel⟩
theorem v_6_situationsOf : Jvm.Cond.instanceMethod (mY m6_situationsOf) ∈ tG ∧ Jvm.Cond.selects (mY m6_situationsOf).cls (mY m6_situationsOf) (mY m6_situationsOf) ∈ tG := ⟨tG_of (List.mem_of_getElem? (i := 992) (by decide +kernel)) (by decide +kernel), tG_of (List.mem_of_getElem? (i := 55) (by decide +kernel)) (by decide +kernel)⟩
theorem lk_X6_191 : Lk RX6 191 m6_situationsOf 1 := ⟨ok_6_situationsOf, tG_of (List.mem_of_getElem? (i := 990) (by decide +kernel)) (by decide +kernel), by decide +kernel, by decide⟩
theorem ok_6_isEndNumber : MOK m6_isEndNumber := ⟨by decide +kernel, tG_of (List.mem_of_getElem? (i := 1000) (by decide +kernel)) (by decide +kernel), tG_of (List.mem_of_getElem? (i := 71) (by decide +kernel)) (by decide +kernel), by decide +kernel, by decide +kernel⟩
theorem s_6_isEndNumber : Jvm.Cond.static (mY m6_isEndNumber) ∈ tG := tG_of (List.mem_of_getElem? (i := 999) (by decide +kernel)) (by decide +kernel)
theorem lk_X6_194 : Lk RX6 194 m6_isEndNumber 1 := ⟨ok_6_isEndNumber, tG_of (List.mem_of_getElem? (i := 998) (by decide +kernel)) (by decide +kernel), by decide +kernel, by decide⟩
theorem ok_6_stepsTo : MOK m6_stepsTo := ⟨by decide +kernel, tG_of (List.mem_of_getElem? (i := 1004) (by decide +kernel)) (by decide +kernel), tG_of (List.mem_of_getElem? (i := 71) (by decide +kernel)) (by decide +kernel), by decide +kernel, by decide +kernel⟩
theorem v_6_stepsTo : Jvm.Cond.instanceMethod (mY m6_stepsTo) ∈ tG ∧ Jvm.Cond.selects (mY m6_stepsTo).cls (mY m6_stepsTo) (mY m6_stepsTo) ∈ tG := ⟨tG_of (List.mem_of_getElem? (i := 1003) (by decide +kernel)) (by decide +kernel), tG_of (List.mem_of_getElem? (i := 56) (by decide +kernel)) (by decide +kernel)⟩
theorem lk_X6_197 : Lk RX6 197 m6_stepsTo 1 := ⟨ok_6_stepsTo, tG_of (List.mem_of_getElem? (i := 1001) (by decide +kernel)) (by decide +kernel), by decide +kernel, by decide⟩
theorem ok_6_isUsable : MOK m6_isUsable := ⟨by decide +kernel, tG_of (List.mem_of_getElem? (i := 1016) (by decide +kernel)) (by decide +kernel), tG_of (List.mem_of_getElem? (i := 71) (by decide +kernel)) (by decide +kernel), by decide +kernel, by decide +kernel⟩
theorem v_6_isUsable : Jvm.Cond.instanceMethod (mY m6_isUsable) ∈ tG ∧ Jvm.Cond.selects (mY m6_isUsable).cls (mY m6_isUsable) (mY m6_isUsable) ∈ tG := ⟨tG_of (List.mem_of_getElem? (i := 1015) (by decide +kernel)) (by decide +kernel), tG_of (List.mem_of_getElem? (i := 57) (by decide +kernel)) (by decide +kernel)⟩
theorem lk_X6_200 : Lk RX6 200 m6_isUsable 2 := ⟨ok_6_isUsable, tG_of (List.mem_of_getElem? (i := 1013) (by decide +kernel)) (by decide +kernel), by decide +kernel, by decide⟩
theorem ok_6_seenNodes : MOK m6_seenNodes := ⟨by decide +kernel, tG_of (List.mem_of_getElem? (i := 1024) (by decide +kernel)) (by decide +kernel), tG_of (List.mem_of_getElem? (i := 71) (by decide +kernel)) (by decide +kernel), by decide +kernel, by decide +kernel⟩
theorem v_6_seenNodes : Jvm.Cond.instanceMethod (mY m6_seenNodes) ∈ tG ∧ Jvm.Cond.selects (mY m6_seenNodes).cls (mY m6_seenNodes) (mY m6_seenNodes) ∈ tG := ⟨tG_of (List.mem_of_getElem? (i := 1023) (by decide +kernel)) (by decide +kernel), tG_of (List.mem_of_getElem? (i := 58) (by decide +kernel)) (by decide +kernel)⟩
theorem lk_X6_203 : Lk RX6 203 m6_seenNodes 0 := ⟨ok_6_seenNodes, tG_of (List.mem_of_getElem? (i := 1021) (by decide +kernel)) (by decide +kernel), by decide +kernel, by decide⟩
theorem ok_6_savedMoments : MOK m6_savedMoments := ⟨by decide +kernel, tG_of (List.mem_of_getElem? (i := 1028) (by decide +kernel)) (by decide +kernel), tG_of (List.mem_of_getElem? (i := 71) (by decide +kernel)) (by decide +kernel), by decide +kernel, by decide +kernel⟩
theorem v_6_savedMoments : Jvm.Cond.instanceMethod (mY m6_savedMoments) ∈ tG ∧ Jvm.Cond.selects (mY m6_savedMoments).cls (mY m6_savedMoments) (mY m6_savedMoments) ∈ tG := ⟨tG_of (List.mem_of_getElem? (i := 1027) (by decide +kernel)) (by decide +kernel), tG_of (List.mem_of_getElem? (i := 59) (by decide +kernel)) (by decide +kernel)⟩
theorem lk_X6_206 : Lk RX6 206 m6_savedMoments 0 := ⟨ok_6_savedMoments, tG_of (List.mem_of_getElem? (i := 1025) (by decide +kernel)) (by decide +kernel), by decide +kernel, by decide⟩
theorem ok_6_ends : MOK m6_ends := ⟨by decide +kernel, tG_of (List.mem_of_getElem? (i := 1032) (by decide +kernel)) (by decide +kernel), tG_of (List.mem_of_getElem? (i := 71) (by decide +kernel)) (by decide +kernel), by decide +kernel, by decide +kernel⟩
theorem v_6_ends : Jvm.Cond.instanceMethod (mY m6_ends) ∈ tG ∧ Jvm.Cond.selects (mY m6_ends).cls (mY m6_ends) (mY m6_ends) ∈ tG := ⟨tG_of (List.mem_of_getElem? (i := 1031) (by decide +kernel)) (by decide +kernel), tG_of (List.mem_of_getElem? (i := 60) (by decide +kernel)) (by decide +kernel)⟩
theorem lk_X6_209 : Lk RX6 209 m6_ends 0 := ⟨ok_6_ends, tG_of (List.mem_of_getElem? (i := 1029) (by decide +kernel)) (by decide +kernel), by decide +kernel, by decide⟩
theorem f_X6_214 : FL RX6 214 6 26 := ⟨RX6, TX6, 27, rfl, by decide, inGX6, tG_of (List.mem_of_getElem? (i := 776) (by decide +kernel)) (by decide +kernel)⟩
theorem p_X6_X6_26 : FP RX6 6 26 .long false := ⟨RX6, TX6, 27, tyX6, rfl, tyX6_ok, nmX6, by decide +kernel, rfl, fun q => by cases q⟩
theorem ok_6_mixes : MOK m6_mixes := ⟨by decide +kernel, tG_of (List.mem_of_getElem? (i := 1042) (by decide +kernel)) (by decide +kernel), tG_of (List.mem_of_getElem? (i := 71) (by decide +kernel)) (by decide +kernel), by decide +kernel, by decide +kernel⟩
theorem v_6_mixes : Jvm.Cond.instanceMethod (mY m6_mixes) ∈ tG ∧ Jvm.Cond.selects (mY m6_mixes).cls (mY m6_mixes) (mY m6_mixes) ∈ tG := ⟨tG_of (List.mem_of_getElem? (i := 1041) (by decide +kernel)) (by decide +kernel), tG_of (List.mem_of_getElem? (i := 61) (by decide +kernel)) (by decide +kernel)⟩
theorem lk_X6_218 : Lk RX6 218 m6_mixes 1 := ⟨ok_6_mixes, tG_of (List.mem_of_getElem? (i := 1039) (by decide +kernel)) (by decide +kernel), by decide +kernel, by decide⟩
theorem ok_6_option : MOK m6_option := ⟨by decide +kernel, tG_of (List.mem_of_getElem? (i := 973) (by decide +kernel)) (by decide +kernel), tG_of (List.mem_of_getElem? (i := 71) (by decide +kernel)) (by decide +kernel), by decide +kernel, by decide +kernel⟩
theorem v_6_option : Jvm.Cond.instanceMethod (mY m6_option) ∈ tG ∧ Jvm.Cond.selects (mY m6_option).cls (mY m6_option) (mY m6_option) ∈ tG := ⟨tG_of (List.mem_of_getElem? (i := 971) (by decide +kernel)) (by decide +kernel), tG_of (List.mem_of_getElem? (i := 972) (by decide +kernel)) (by decide +kernel)⟩
theorem lk_X6_221 : Lk RX6 221 m6_option 3 := ⟨ok_6_option, tG_of (List.mem_of_getElem? (i := 1050) (by decide +kernel)) (by decide +kernel), by decide +kernel, by decide⟩
theorem ok_6_count : MOK m6_count := ⟨by decide +kernel, tG_of (List.mem_of_getElem? (i := 1020) (by decide +kernel)) (by decide +kernel), tG_of (List.mem_of_getElem? (i := 71) (by decide +kernel)) (by decide +kernel), by decide +kernel, by decide +kernel⟩
theorem v_6_count : Jvm.Cond.instanceMethod (mY m6_count) ∈ tG ∧ Jvm.Cond.selects (mY m6_count).cls (mY m6_count) (mY m6_count) ∈ tG := ⟨tG_of (List.mem_of_getElem? (i := 1018) (by decide +kernel)) (by decide +kernel), tG_of (List.mem_of_getElem? (i := 1019) (by decide +kernel)) (by decide +kernel)⟩
theorem lk_X6_227 : Lk RX6 227 m6_count 1 := ⟨ok_6_count, tG_of (List.mem_of_getElem? (i := 1038) (by decide +kernel)) (by decide +kernel), by decide +kernel, by decide⟩
theorem ok_6_shown : MOK m6_shown := ⟨by decide +kernel, tG_of (List.mem_of_getElem? (i := 949) (by decide +kernel)) (by decide +kernel), tG_of (List.mem_of_getElem? (i := 71) (by decide +kernel)) (by decide +kernel), by decide +kernel, by decide +kernel⟩
theorem v_6_shown : Jvm.Cond.instanceMethod (mY m6_shown) ∈ tG ∧ Jvm.Cond.selects (mY m6_shown).cls (mY m6_shown) (mY m6_shown) ∈ tG := ⟨tG_of (List.mem_of_getElem? (i := 947) (by decide +kernel)) (by decide +kernel), tG_of (List.mem_of_getElem? (i := 948) (by decide +kernel)) (by decide +kernel)⟩
theorem lk_X6_229 : Lk RX6 229 m6_shown 1 := ⟨ok_6_shown, tG_of (List.mem_of_getElem? (i := 1044) (by decide +kernel)) (by decide +kernel), by decide +kernel, by decide⟩
theorem ok_6_portrait : MOK m6_portrait := ⟨by decide +kernel, tG_of (List.mem_of_getElem? (i := 961) (by decide +kernel)) (by decide +kernel), tG_of (List.mem_of_getElem? (i := 71) (by decide +kernel)) (by decide +kernel), by decide +kernel, by decide +kernel⟩
theorem v_6_portrait : Jvm.Cond.instanceMethod (mY m6_portrait) ∈ tG ∧ Jvm.Cond.selects (mY m6_portrait).cls (mY m6_portrait) (mY m6_portrait) ∈ tG := ⟨tG_of (List.mem_of_getElem? (i := 959) (by decide +kernel)) (by decide +kernel), tG_of (List.mem_of_getElem? (i := 960) (by decide +kernel)) (by decide +kernel)⟩
theorem lk_X6_232 : Lk RX6 232 m6_portrait 2 := ⟨ok_6_portrait, tG_of (List.mem_of_getElem? (i := 1045) (by decide +kernel)) (by decide +kernel), by decide +kernel, by decide⟩
theorem ok_6_mixesNode : MOK m6_mixesNode := ⟨by decide +kernel, tG_of (List.mem_of_getElem? (i := 1049) (by decide +kernel)) (by decide +kernel), tG_of (List.mem_of_getElem? (i := 71) (by decide +kernel)) (by decide +kernel), by decide +kernel, by decide +kernel⟩
theorem v_6_mixesNode : Jvm.Cond.instanceMethod (mY m6_mixesNode) ∈ tG ∧ Jvm.Cond.selects (mY m6_mixesNode).cls (mY m6_mixesNode) (mY m6_mixesNode) ∈ tG := ⟨tG_of (List.mem_of_getElem? (i := 1048) (by decide +kernel)) (by decide +kernel), tG_of (List.mem_of_getElem? (i := 62) (by decide +kernel)) (by decide +kernel)⟩
theorem lk_X6_236 : Lk RX6 236 m6_mixesNode 1 := ⟨ok_6_mixesNode, tG_of (List.mem_of_getElem? (i := 1046) (by decide +kernel)) (by decide +kernel), by decide +kernel, by decide⟩
theorem nw_X5 : (∀ j, j < 4 → ([vN, vN, vN, vN] : List AV)[j]? = some (dfv (tyX5 j)) ∧ ∀ G : GD, cv G (dfv (tyX5 j)) = defaultValue (tyX5 j)) ∧ (∀ v ∈ ([vN, vN, vN, vN] : List AV), vok v) := by
  refine ⟨fun j hj => ?_, fun v hv => ?_⟩
  · rcases (by omega : j = 0 ∨ j = 1 ∨ j = 2 ∨ j = 3) with rfl | rfl | rfl | rfl <;> exact ⟨rfl, fun G => rfl⟩
  · simp only [List.mem_cons, List.not_mem_nil, or_false] at hv
    rcases hv with rfl | rfl | rfl | rfl <;> first | trivial | (exact ⟨by decide, by decide⟩)
theorem ok_5_init : MOK m5_init := ⟨by decide +kernel, tG_of (List.mem_of_getElem? (i := 83) (by decide +kernel)) (by decide +kernel), tG_of (List.mem_of_getElem? (i := 64) (by decide +kernel)) (by decide +kernel), by decide +kernel, by decide +kernel⟩
theorem i_5_init : Jvm.Cond.instanceMethod (mY m5_init) ∈ tG := tG_of (List.mem_of_getElem? (i := 82) (by decide +kernel)) (by decide +kernel)
theorem l_L_9 : Jvm.Cond.methodLink RL 9 (mY m5_init) ∈ tG := tG_of (List.mem_of_getElem? (i := 81) (by decide +kernel)) (by decide +kernel)
theorem nw_X6 : (∀ j, j < 27 → ([vN, vI 0, vN, vI 0, vN, vI 0, vI 0, vI 0, vN, vN, vI 0, vN, vI 0, vI 0, vI 0, vI 0, vN, vN, vN, vN, vN, vN, vI 0, vN, vN, vN, vL 0] : List AV)[j]? = some (dfv (tyX6 j)) ∧ ∀ G : GD, cv G (dfv (tyX6 j)) = defaultValue (tyX6 j)) ∧ (∀ v ∈ ([vN, vI 0, vN, vI 0, vN, vI 0, vI 0, vI 0, vN, vN, vI 0, vN, vI 0, vI 0, vI 0, vI 0, vN, vN, vN, vN, vN, vN, vI 0, vN, vN, vN, vL 0] : List AV), vok v) := by
  refine ⟨fun j hj => ?_, fun v hv => ?_⟩
  · rcases (by omega : j = 0 ∨ j = 1 ∨ j = 2 ∨ j = 3 ∨ j = 4 ∨ j = 5 ∨ j = 6 ∨ j = 7 ∨ j = 8 ∨ j = 9 ∨ j = 10 ∨ j = 11 ∨ j = 12 ∨ j = 13 ∨ j = 14 ∨ j = 15 ∨ j = 16 ∨ j = 17 ∨ j = 18 ∨ j = 19 ∨ j = 20 ∨ j = 21 ∨ j = 22 ∨ j = 23 ∨ j = 24 ∨ j = 25 ∨ j = 26) with rfl | rfl | rfl | rfl | rfl | rfl | rfl | rfl | rfl | rfl | rfl | rfl | rfl | rfl | rfl | rfl | rfl | rfl | rfl | rfl | rfl | rfl | rfl | rfl | rfl | rfl | rfl <;> exact ⟨rfl, fun G => rfl⟩
  · simp only [List.mem_cons, List.not_mem_nil, or_false] at hv
    rcases hv with rfl | rfl | rfl | rfl | rfl | rfl | rfl | rfl | rfl | rfl | rfl | rfl | rfl | rfl | rfl | rfl | rfl | rfl | rfl | rfl | rfl | rfl | rfl | rfl | rfl | rfl | rfl <;> first | trivial | (exact ⟨by decide, by decide⟩)
theorem ok_6_init : MOK m6_init := ⟨by decide +kernel, tG_of (List.mem_of_getElem? (i := 716) (by decide +kernel)) (by decide +kernel), tG_of (List.mem_of_getElem? (i := 71) (by decide +kernel)) (by decide +kernel), by decide +kernel, by decide +kernel⟩
theorem i_6_init : Jvm.Cond.instanceMethod (mY m6_init) ∈ tG := tG_of (List.mem_of_getElem? (i := 715) (by decide +kernel)) (by decide +kernel)
theorem l_L_12 : Jvm.Cond.methodLink RL 12 (mY m6_init) ∈ tG := tG_of (List.mem_of_getElem? (i := 714) (by decide +kernel)) (by decide +kernel)
theorem ok_5_type : MOK m5_type := ⟨by decide +kernel, tG_of (List.mem_of_getElem? (i := 355) (by decide +kernel)) (by decide +kernel), tG_of (List.mem_of_getElem? (i := 64) (by decide +kernel)) (by decide +kernel), by decide +kernel, by decide +kernel⟩
theorem v_5_type : Jvm.Cond.instanceMethod (mY m5_type) ∈ tG ∧ Jvm.Cond.selects (mY m5_type).cls (mY m5_type) (mY m5_type) ∈ tG := ⟨tG_of (List.mem_of_getElem? (i := 353) (by decide +kernel)) (by decide +kernel), tG_of (List.mem_of_getElem? (i := 354) (by decide +kernel)) (by decide +kernel)⟩
theorem lk_L_13 : Lk RL 13 m5_type 1 := ⟨ok_5_type, tG_of (List.mem_of_getElem? (i := 352) (by decide +kernel)) (by decide +kernel), by decide +kernel, by decide⟩
theorem ok_6_type : MOK m6_type := ⟨by decide +kernel, tG_of (List.mem_of_getElem? (i := 835) (by decide +kernel)) (by decide +kernel), tG_of (List.mem_of_getElem? (i := 71) (by decide +kernel)) (by decide +kernel), by decide +kernel, by decide +kernel⟩
theorem v_6_type : Jvm.Cond.instanceMethod (mY m6_type) ∈ tG ∧ Jvm.Cond.selects (mY m6_type).cls (mY m6_type) (mY m6_type) ∈ tG := ⟨tG_of (List.mem_of_getElem? (i := 833) (by decide +kernel)) (by decide +kernel), tG_of (List.mem_of_getElem? (i := 834) (by decide +kernel)) (by decide +kernel)⟩
theorem lk_L_17 : Lk RL 17 m6_type 1 := ⟨ok_6_type, tG_of (List.mem_of_getElem? (i := 832) (by decide +kernel)) (by decide +kernel), by decide +kernel, by decide⟩
theorem ok_5_clearText : MOK m5_clearText := ⟨by decide +kernel, tG_of (List.mem_of_getElem? (i := 363) (by decide +kernel)) (by decide +kernel), tG_of (List.mem_of_getElem? (i := 64) (by decide +kernel)) (by decide +kernel), by decide +kernel, by decide +kernel⟩
theorem v_5_clearText : Jvm.Cond.instanceMethod (mY m5_clearText) ∈ tG ∧ Jvm.Cond.selects (mY m5_clearText).cls (mY m5_clearText) (mY m5_clearText) ∈ tG := ⟨tG_of (List.mem_of_getElem? (i := 361) (by decide +kernel)) (by decide +kernel), tG_of (List.mem_of_getElem? (i := 362) (by decide +kernel)) (by decide +kernel)⟩
theorem lk_L_18 : Lk RL 18 m5_clearText 0 := ⟨ok_5_clearText, tG_of (List.mem_of_getElem? (i := 360) (by decide +kernel)) (by decide +kernel), by decide +kernel, by decide⟩
theorem ok_6_clearText : MOK m6_clearText := ⟨by decide +kernel, tG_of (List.mem_of_getElem? (i := 842) (by decide +kernel)) (by decide +kernel), tG_of (List.mem_of_getElem? (i := 71) (by decide +kernel)) (by decide +kernel), by decide +kernel, by decide +kernel⟩
theorem v_6_clearText : Jvm.Cond.instanceMethod (mY m6_clearText) ∈ tG ∧ Jvm.Cond.selects (mY m6_clearText).cls (mY m6_clearText) (mY m6_clearText) ∈ tG := ⟨tG_of (List.mem_of_getElem? (i := 840) (by decide +kernel)) (by decide +kernel), tG_of (List.mem_of_getElem? (i := 841) (by decide +kernel)) (by decide +kernel)⟩
theorem lk_L_22 : Lk RL 22 m6_clearText 0 := ⟨ok_6_clearText, tG_of (List.mem_of_getElem? (i := 839) (by decide +kernel)) (by decide +kernel), by decide +kernel, by decide⟩
theorem ok_5_fault : MOK m5_fault := ⟨by decide +kernel, tG_of (List.mem_of_getElem? (i := 367) (by decide +kernel)) (by decide +kernel), tG_of (List.mem_of_getElem? (i := 64) (by decide +kernel)) (by decide +kernel), by decide +kernel, by decide +kernel⟩
theorem v_5_fault : Jvm.Cond.instanceMethod (mY m5_fault) ∈ tG ∧ Jvm.Cond.selects (mY m5_fault).cls (mY m5_fault) (mY m5_fault) ∈ tG := ⟨tG_of (List.mem_of_getElem? (i := 365) (by decide +kernel)) (by decide +kernel), tG_of (List.mem_of_getElem? (i := 366) (by decide +kernel)) (by decide +kernel)⟩
theorem lk_L_23 : Lk RL 23 m5_fault 0 := ⟨ok_5_fault, tG_of (List.mem_of_getElem? (i := 364) (by decide +kernel)) (by decide +kernel), by decide +kernel, by decide⟩
theorem ok_6_fault : MOK m6_fault := ⟨by decide +kernel, tG_of (List.mem_of_getElem? (i := 846) (by decide +kernel)) (by decide +kernel), tG_of (List.mem_of_getElem? (i := 71) (by decide +kernel)) (by decide +kernel), by decide +kernel, by decide +kernel⟩
theorem v_6_fault : Jvm.Cond.instanceMethod (mY m6_fault) ∈ tG ∧ Jvm.Cond.selects (mY m6_fault).cls (mY m6_fault) (mY m6_fault) ∈ tG := ⟨tG_of (List.mem_of_getElem? (i := 844) (by decide +kernel)) (by decide +kernel), tG_of (List.mem_of_getElem? (i := 845) (by decide +kernel)) (by decide +kernel)⟩
theorem lk_L_26 : Lk RL 26 m6_fault 0 := ⟨ok_6_fault, tG_of (List.mem_of_getElem? (i := 843) (by decide +kernel)) (by decide +kernel), by decide +kernel, by decide⟩
theorem ok_5_read : MOK m5_read := ⟨by decide +kernel, tG_of (List.mem_of_getElem? (i := 534) (by decide +kernel)) (by decide +kernel), tG_of (List.mem_of_getElem? (i := 64) (by decide +kernel)) (by decide +kernel), by decide +kernel, by decide +kernel⟩
theorem v_5_read : Jvm.Cond.instanceMethod (mY m5_read) ∈ tG ∧ Jvm.Cond.selects (mY m5_read).cls (mY m5_read) (mY m5_read) ∈ tG := ⟨tG_of (List.mem_of_getElem? (i := 532) (by decide +kernel)) (by decide +kernel), tG_of (List.mem_of_getElem? (i := 533) (by decide +kernel)) (by decide +kernel)⟩
theorem lk_L_27 : Lk RL 27 m5_read 0 := ⟨ok_5_read, tG_of (List.mem_of_getElem? (i := 531) (by decide +kernel)) (by decide +kernel), by decide +kernel, by decide⟩
theorem ok_6_read : MOK m6_read := ⟨by decide +kernel, tG_of (List.mem_of_getElem? (i := 897) (by decide +kernel)) (by decide +kernel), tG_of (List.mem_of_getElem? (i := 71) (by decide +kernel)) (by decide +kernel), by decide +kernel, by decide +kernel⟩
theorem v_6_read : Jvm.Cond.instanceMethod (mY m6_read) ∈ tG ∧ Jvm.Cond.selects (mY m6_read).cls (mY m6_read) (mY m6_read) ∈ tG := ⟨tG_of (List.mem_of_getElem? (i := 895) (by decide +kernel)) (by decide +kernel), tG_of (List.mem_of_getElem? (i := 896) (by decide +kernel)) (by decide +kernel)⟩
theorem lk_L_30 : Lk RL 30 m6_read 0 := ⟨ok_6_read, tG_of (List.mem_of_getElem? (i := 894) (by decide +kernel)) (by decide +kernel), by decide +kernel, by decide⟩
theorem ok_5_begin : MOK m5_begin := ⟨by decide +kernel, tG_of (List.mem_of_getElem? (i := 538) (by decide +kernel)) (by decide +kernel), tG_of (List.mem_of_getElem? (i := 64) (by decide +kernel)) (by decide +kernel), by decide +kernel, by decide +kernel⟩
theorem v_5_begin : Jvm.Cond.instanceMethod (mY m5_begin) ∈ tG ∧ Jvm.Cond.selects (mY m5_begin).cls (mY m5_begin) (mY m5_begin) ∈ tG := ⟨tG_of (List.mem_of_getElem? (i := 536) (by decide +kernel)) (by decide +kernel), tG_of (List.mem_of_getElem? (i := 537) (by decide +kernel)) (by decide +kernel)⟩
theorem lk_L_31 : Lk RL 31 m5_begin 0 := ⟨ok_5_begin, tG_of (List.mem_of_getElem? (i := 535) (by decide +kernel)) (by decide +kernel), by decide +kernel, by decide⟩
theorem ok_6_begin : MOK m6_begin := ⟨by decide +kernel, tG_of (List.mem_of_getElem? (i := 901) (by decide +kernel)) (by decide +kernel), tG_of (List.mem_of_getElem? (i := 71) (by decide +kernel)) (by decide +kernel), by decide +kernel, by decide +kernel⟩
theorem v_6_begin : Jvm.Cond.instanceMethod (mY m6_begin) ∈ tG ∧ Jvm.Cond.selects (mY m6_begin).cls (mY m6_begin) (mY m6_begin) ∈ tG := ⟨tG_of (List.mem_of_getElem? (i := 899) (by decide +kernel)) (by decide +kernel), tG_of (List.mem_of_getElem? (i := 900) (by decide +kernel)) (by decide +kernel)⟩
theorem lk_L_34 : Lk RL 34 m6_begin 0 := ⟨ok_6_begin, tG_of (List.mem_of_getElem? (i := 898) (by decide +kernel)) (by decide +kernel), by decide +kernel, by decide⟩
theorem ok_5_go : MOK m5_go := ⟨by decide +kernel, tG_of (List.mem_of_getElem? (i := 544) (by decide +kernel)) (by decide +kernel), tG_of (List.mem_of_getElem? (i := 64) (by decide +kernel)) (by decide +kernel), by decide +kernel, by decide +kernel⟩
theorem v_5_go : Jvm.Cond.instanceMethod (mY m5_go) ∈ tG ∧ Jvm.Cond.selects (mY m5_go).cls (mY m5_go) (mY m5_go) ∈ tG := ⟨tG_of (List.mem_of_getElem? (i := 542) (by decide +kernel)) (by decide +kernel), tG_of (List.mem_of_getElem? (i := 543) (by decide +kernel)) (by decide +kernel)⟩
theorem lk_L_35 : Lk RL 35 m5_go 0 := ⟨ok_5_go, tG_of (List.mem_of_getElem? (i := 541) (by decide +kernel)) (by decide +kernel), by decide +kernel, by decide⟩
theorem ok_6_go : MOK m6_go := ⟨by decide +kernel, tG_of (List.mem_of_getElem? (i := 909) (by decide +kernel)) (by decide +kernel), tG_of (List.mem_of_getElem? (i := 71) (by decide +kernel)) (by decide +kernel), by decide +kernel, by decide +kernel⟩
theorem v_6_go : Jvm.Cond.instanceMethod (mY m6_go) ∈ tG ∧ Jvm.Cond.selects (mY m6_go).cls (mY m6_go) (mY m6_go) ∈ tG := ⟨tG_of (List.mem_of_getElem? (i := 907) (by decide +kernel)) (by decide +kernel), tG_of (List.mem_of_getElem? (i := 908) (by decide +kernel)) (by decide +kernel)⟩
theorem lk_L_38 : Lk RL 38 m6_go 0 := ⟨ok_6_go, tG_of (List.mem_of_getElem? (i := 906) (by decide +kernel)) (by decide +kernel), by decide +kernel, by decide⟩
theorem ok_5_choose : MOK m5_choose := ⟨by decide +kernel, tG_of (List.mem_of_getElem? (i := 572) (by decide +kernel)) (by decide +kernel), tG_of (List.mem_of_getElem? (i := 64) (by decide +kernel)) (by decide +kernel), by decide +kernel, by decide +kernel⟩
theorem v_5_choose : Jvm.Cond.instanceMethod (mY m5_choose) ∈ tG ∧ Jvm.Cond.selects (mY m5_choose).cls (mY m5_choose) (mY m5_choose) ∈ tG := ⟨tG_of (List.mem_of_getElem? (i := 570) (by decide +kernel)) (by decide +kernel), tG_of (List.mem_of_getElem? (i := 571) (by decide +kernel)) (by decide +kernel)⟩
theorem lk_L_39 : Lk RL 39 m5_choose 1 := ⟨ok_5_choose, tG_of (List.mem_of_getElem? (i := 569) (by decide +kernel)) (by decide +kernel), by decide +kernel, by decide⟩
theorem ok_6_choose : MOK m6_choose := ⟨by decide +kernel, tG_of (List.mem_of_getElem? (i := 921) (by decide +kernel)) (by decide +kernel), tG_of (List.mem_of_getElem? (i := 71) (by decide +kernel)) (by decide +kernel), by decide +kernel, by decide +kernel⟩
theorem v_6_choose : Jvm.Cond.instanceMethod (mY m6_choose) ∈ tG ∧ Jvm.Cond.selects (mY m6_choose).cls (mY m6_choose) (mY m6_choose) ∈ tG := ⟨tG_of (List.mem_of_getElem? (i := 919) (by decide +kernel)) (by decide +kernel), tG_of (List.mem_of_getElem? (i := 920) (by decide +kernel)) (by decide +kernel)⟩
theorem lk_L_42 : Lk RL 42 m6_choose 1 := ⟨ok_6_choose, tG_of (List.mem_of_getElem? (i := 918) (by decide +kernel)) (by decide +kernel), by decide +kernel, by decide⟩
theorem ok_5_skip : MOK m5_skip := ⟨by decide +kernel, tG_of (List.mem_of_getElem? (i := 578) (by decide +kernel)) (by decide +kernel), tG_of (List.mem_of_getElem? (i := 64) (by decide +kernel)) (by decide +kernel), by decide +kernel, by decide +kernel⟩
theorem v_5_skip : Jvm.Cond.instanceMethod (mY m5_skip) ∈ tG ∧ Jvm.Cond.selects (mY m5_skip).cls (mY m5_skip) (mY m5_skip) ∈ tG := ⟨tG_of (List.mem_of_getElem? (i := 576) (by decide +kernel)) (by decide +kernel), tG_of (List.mem_of_getElem? (i := 577) (by decide +kernel)) (by decide +kernel)⟩
theorem lk_L_43 : Lk RL 43 m5_skip 0 := ⟨ok_5_skip, tG_of (List.mem_of_getElem? (i := 575) (by decide +kernel)) (by decide +kernel), by decide +kernel, by decide⟩
theorem ok_6_skip : MOK m6_skip := ⟨by decide +kernel, tG_of (List.mem_of_getElem? (i := 929) (by decide +kernel)) (by decide +kernel), tG_of (List.mem_of_getElem? (i := 71) (by decide +kernel)) (by decide +kernel), by decide +kernel, by decide +kernel⟩
theorem v_6_skip : Jvm.Cond.instanceMethod (mY m6_skip) ∈ tG ∧ Jvm.Cond.selects (mY m6_skip).cls (mY m6_skip) (mY m6_skip) ∈ tG := ⟨tG_of (List.mem_of_getElem? (i := 927) (by decide +kernel)) (by decide +kernel), tG_of (List.mem_of_getElem? (i := 928) (by decide +kernel)) (by decide +kernel)⟩
theorem lk_L_46 : Lk RL 46 m6_skip 0 := ⟨ok_6_skip, tG_of (List.mem_of_getElem? (i := 926) (by decide +kernel)) (by decide +kernel), by decide +kernel, by decide⟩
theorem ok_5_back : MOK m5_back := ⟨by decide +kernel, tG_of (List.mem_of_getElem? (i := 582) (by decide +kernel)) (by decide +kernel), tG_of (List.mem_of_getElem? (i := 64) (by decide +kernel)) (by decide +kernel), by decide +kernel, by decide +kernel⟩
theorem v_5_back : Jvm.Cond.instanceMethod (mY m5_back) ∈ tG ∧ Jvm.Cond.selects (mY m5_back).cls (mY m5_back) (mY m5_back) ∈ tG := ⟨tG_of (List.mem_of_getElem? (i := 580) (by decide +kernel)) (by decide +kernel), tG_of (List.mem_of_getElem? (i := 581) (by decide +kernel)) (by decide +kernel)⟩
theorem lk_L_47 : Lk RL 47 m5_back 1 := ⟨ok_5_back, tG_of (List.mem_of_getElem? (i := 579) (by decide +kernel)) (by decide +kernel), by decide +kernel, by decide⟩
theorem ok_6_back : MOK m6_back := ⟨by decide +kernel, tG_of (List.mem_of_getElem? (i := 933) (by decide +kernel)) (by decide +kernel), tG_of (List.mem_of_getElem? (i := 71) (by decide +kernel)) (by decide +kernel), by decide +kernel, by decide +kernel⟩
theorem v_6_back : Jvm.Cond.instanceMethod (mY m6_back) ∈ tG ∧ Jvm.Cond.selects (mY m6_back).cls (mY m6_back) (mY m6_back) ∈ tG := ⟨tG_of (List.mem_of_getElem? (i := 931) (by decide +kernel)) (by decide +kernel), tG_of (List.mem_of_getElem? (i := 932) (by decide +kernel)) (by decide +kernel)⟩
theorem lk_L_50 : Lk RL 50 m6_back 1 := ⟨ok_6_back, tG_of (List.mem_of_getElem? (i := 930) (by decide +kernel)) (by decide +kernel), by decide +kernel, by decide⟩
theorem ok_5_again : MOK m5_again := ⟨by decide +kernel, tG_of (List.mem_of_getElem? (i := 590) (by decide +kernel)) (by decide +kernel), tG_of (List.mem_of_getElem? (i := 64) (by decide +kernel)) (by decide +kernel), by decide +kernel, by decide +kernel⟩
theorem v_5_again : Jvm.Cond.instanceMethod (mY m5_again) ∈ tG ∧ Jvm.Cond.selects (mY m5_again).cls (mY m5_again) (mY m5_again) ∈ tG := ⟨tG_of (List.mem_of_getElem? (i := 588) (by decide +kernel)) (by decide +kernel), tG_of (List.mem_of_getElem? (i := 589) (by decide +kernel)) (by decide +kernel)⟩
theorem lk_L_51 : Lk RL 51 m5_again 0 := ⟨ok_5_again, tG_of (List.mem_of_getElem? (i := 587) (by decide +kernel)) (by decide +kernel), by decide +kernel, by decide⟩
theorem ok_6_again : MOK m6_again := ⟨by decide +kernel, tG_of (List.mem_of_getElem? (i := 937) (by decide +kernel)) (by decide +kernel), tG_of (List.mem_of_getElem? (i := 71) (by decide +kernel)) (by decide +kernel), by decide +kernel, by decide +kernel⟩
theorem v_6_again : Jvm.Cond.instanceMethod (mY m6_again) ∈ tG ∧ Jvm.Cond.selects (mY m6_again).cls (mY m6_again) (mY m6_again) ∈ tG := ⟨tG_of (List.mem_of_getElem? (i := 935) (by decide +kernel)) (by decide +kernel), tG_of (List.mem_of_getElem? (i := 936) (by decide +kernel)) (by decide +kernel)⟩
theorem lk_L_54 : Lk RL 54 m6_again 0 := ⟨ok_6_again, tG_of (List.mem_of_getElem? (i := 934) (by decide +kernel)) (by decide +kernel), by decide +kernel, by decide⟩
theorem ok_5_save : MOK m5_save := ⟨by decide +kernel, tG_of (List.mem_of_getElem? (i := 598) (by decide +kernel)) (by decide +kernel), tG_of (List.mem_of_getElem? (i := 64) (by decide +kernel)) (by decide +kernel), by decide +kernel, by decide +kernel⟩
theorem v_5_save : Jvm.Cond.instanceMethod (mY m5_save) ∈ tG ∧ Jvm.Cond.selects (mY m5_save).cls (mY m5_save) (mY m5_save) ∈ tG := ⟨tG_of (List.mem_of_getElem? (i := 596) (by decide +kernel)) (by decide +kernel), tG_of (List.mem_of_getElem? (i := 597) (by decide +kernel)) (by decide +kernel)⟩
theorem lk_L_55 : Lk RL 55 m5_save 1 := ⟨ok_5_save, tG_of (List.mem_of_getElem? (i := 595) (by decide +kernel)) (by decide +kernel), by decide +kernel, by decide⟩
theorem ok_6_save : MOK m6_save := ⟨by decide +kernel, tG_of (List.mem_of_getElem? (i := 941) (by decide +kernel)) (by decide +kernel), tG_of (List.mem_of_getElem? (i := 71) (by decide +kernel)) (by decide +kernel), by decide +kernel, by decide +kernel⟩
theorem v_6_save : Jvm.Cond.instanceMethod (mY m6_save) ∈ tG ∧ Jvm.Cond.selects (mY m6_save).cls (mY m6_save) (mY m6_save) ∈ tG := ⟨tG_of (List.mem_of_getElem? (i := 939) (by decide +kernel)) (by decide +kernel), tG_of (List.mem_of_getElem? (i := 940) (by decide +kernel)) (by decide +kernel)⟩
theorem lk_L_58 : Lk RL 58 m6_save 1 := ⟨ok_6_save, tG_of (List.mem_of_getElem? (i := 938) (by decide +kernel)) (by decide +kernel), by decide +kernel, by decide⟩
theorem ok_5_restore : MOK m5_restore := ⟨by decide +kernel, tG_of (List.mem_of_getElem? (i := 606) (by decide +kernel)) (by decide +kernel), tG_of (List.mem_of_getElem? (i := 64) (by decide +kernel)) (by decide +kernel), by decide +kernel, by decide +kernel⟩
theorem v_5_restore : Jvm.Cond.instanceMethod (mY m5_restore) ∈ tG ∧ Jvm.Cond.selects (mY m5_restore).cls (mY m5_restore) (mY m5_restore) ∈ tG := ⟨tG_of (List.mem_of_getElem? (i := 604) (by decide +kernel)) (by decide +kernel), tG_of (List.mem_of_getElem? (i := 605) (by decide +kernel)) (by decide +kernel)⟩
theorem lk_L_59 : Lk RL 59 m5_restore 1 := ⟨ok_5_restore, tG_of (List.mem_of_getElem? (i := 603) (by decide +kernel)) (by decide +kernel), by decide +kernel, by decide⟩
theorem ok_6_restore : MOK m6_restore := ⟨by decide +kernel, tG_of (List.mem_of_getElem? (i := 945) (by decide +kernel)) (by decide +kernel), tG_of (List.mem_of_getElem? (i := 71) (by decide +kernel)) (by decide +kernel), by decide +kernel, by decide +kernel⟩
theorem v_6_restore : Jvm.Cond.instanceMethod (mY m6_restore) ∈ tG ∧ Jvm.Cond.selects (mY m6_restore).cls (mY m6_restore) (mY m6_restore) ∈ tG := ⟨tG_of (List.mem_of_getElem? (i := 943) (by decide +kernel)) (by decide +kernel), tG_of (List.mem_of_getElem? (i := 944) (by decide +kernel)) (by decide +kernel)⟩
theorem lk_L_62 : Lk RL 62 m6_restore 1 := ⟨ok_6_restore, tG_of (List.mem_of_getElem? (i := 942) (by decide +kernel)) (by decide +kernel), by decide +kernel, by decide⟩
theorem lk_L_63 : Lk RL 63 m5_shown 1 := ⟨ok_5_shown, tG_of (List.mem_of_getElem? (i := 611) (by decide +kernel)) (by decide +kernel), by decide +kernel, by decide⟩
theorem lk_L_66 : Lk RL 66 m6_shown 1 := ⟨ok_6_shown, tG_of (List.mem_of_getElem? (i := 946) (by decide +kernel)) (by decide +kernel), by decide +kernel, by decide⟩
theorem lk_L_67 : Lk RL 67 m5_portrait 2 := ⟨ok_5_portrait, tG_of (List.mem_of_getElem? (i := 622) (by decide +kernel)) (by decide +kernel), by decide +kernel, by decide⟩
theorem lk_L_71 : Lk RL 71 m6_portrait 2 := ⟨ok_6_portrait, tG_of (List.mem_of_getElem? (i := 958) (by decide +kernel)) (by decide +kernel), by decide +kernel, by decide⟩
theorem lk_L_72 : Lk RL 72 m5_node 2 := ⟨ok_5_node, tG_of (List.mem_of_getElem? (i := 626) (by decide +kernel)) (by decide +kernel), by decide +kernel, by decide⟩
theorem ok_6_node : MOK m6_node := ⟨by decide +kernel, tG_of (List.mem_of_getElem? (i := 965) (by decide +kernel)) (by decide +kernel), tG_of (List.mem_of_getElem? (i := 71) (by decide +kernel)) (by decide +kernel), by decide +kernel, by decide +kernel⟩
theorem v_6_node : Jvm.Cond.instanceMethod (mY m6_node) ∈ tG ∧ Jvm.Cond.selects (mY m6_node).cls (mY m6_node) (mY m6_node) ∈ tG := ⟨tG_of (List.mem_of_getElem? (i := 963) (by decide +kernel)) (by decide +kernel), tG_of (List.mem_of_getElem? (i := 964) (by decide +kernel)) (by decide +kernel)⟩
theorem lk_L_76 : Lk RL 76 m6_node 2 := ⟨ok_6_node, tG_of (List.mem_of_getElem? (i := 962) (by decide +kernel)) (by decide +kernel), by decide +kernel, by decide⟩
theorem lk_L_77 : Lk RL 77 m5_option 3 := ⟨ok_5_option, tG_of (List.mem_of_getElem? (i := 632) (by decide +kernel)) (by decide +kernel), by decide +kernel, by decide⟩
theorem lk_L_81 : Lk RL 81 m6_option 3 := ⟨ok_6_option, tG_of (List.mem_of_getElem? (i := 970) (by decide +kernel)) (by decide +kernel), by decide +kernel, by decide⟩
theorem lk_L_82 : Lk RL 82 m5_situations 1 := ⟨ok_5_situations, tG_of (List.mem_of_getElem? (i := 636) (by decide +kernel)) (by decide +kernel), by decide +kernel, by decide⟩
theorem ok_6_situations : MOK m6_situations := ⟨by decide +kernel, tG_of (List.mem_of_getElem? (i := 981) (by decide +kernel)) (by decide +kernel), tG_of (List.mem_of_getElem? (i := 71) (by decide +kernel)) (by decide +kernel), by decide +kernel, by decide +kernel⟩
theorem v_6_situations : Jvm.Cond.instanceMethod (mY m6_situations) ∈ tG ∧ Jvm.Cond.selects (mY m6_situations).cls (mY m6_situations) (mY m6_situations) ∈ tG := ⟨tG_of (List.mem_of_getElem? (i := 979) (by decide +kernel)) (by decide +kernel), tG_of (List.mem_of_getElem? (i := 980) (by decide +kernel)) (by decide +kernel)⟩
theorem lk_L_85 : Lk RL 85 m6_situations 1 := ⟨ok_6_situations, tG_of (List.mem_of_getElem? (i := 978) (by decide +kernel)) (by decide +kernel), by decide +kernel, by decide⟩
theorem ok_5_choicesTo : MOK m5_choicesTo := ⟨by decide +kernel, tG_of (List.mem_of_getElem? (i := 651) (by decide +kernel)) (by decide +kernel), tG_of (List.mem_of_getElem? (i := 64) (by decide +kernel)) (by decide +kernel), by decide +kernel, by decide +kernel⟩
theorem v_5_choicesTo : Jvm.Cond.instanceMethod (mY m5_choicesTo) ∈ tG ∧ Jvm.Cond.selects (mY m5_choicesTo).cls (mY m5_choicesTo) (mY m5_choicesTo) ∈ tG := ⟨tG_of (List.mem_of_getElem? (i := 649) (by decide +kernel)) (by decide +kernel), tG_of (List.mem_of_getElem? (i := 650) (by decide +kernel)) (by decide +kernel)⟩
theorem lk_L_86 : Lk RL 86 m5_choicesTo 1 := ⟨ok_5_choicesTo, tG_of (List.mem_of_getElem? (i := 648) (by decide +kernel)) (by decide +kernel), by decide +kernel, by decide⟩
theorem ok_6_choicesTo : MOK m6_choicesTo := ⟨by decide +kernel, tG_of (List.mem_of_getElem? (i := 997) (by decide +kernel)) (by decide +kernel), tG_of (List.mem_of_getElem? (i := 71) (by decide +kernel)) (by decide +kernel), by decide +kernel, by decide +kernel⟩
theorem v_6_choicesTo : Jvm.Cond.instanceMethod (mY m6_choicesTo) ∈ tG ∧ Jvm.Cond.selects (mY m6_choicesTo).cls (mY m6_choicesTo) (mY m6_choicesTo) ∈ tG := ⟨tG_of (List.mem_of_getElem? (i := 995) (by decide +kernel)) (by decide +kernel), tG_of (List.mem_of_getElem? (i := 996) (by decide +kernel)) (by decide +kernel)⟩
theorem lk_L_89 : Lk RL 89 m6_choicesTo 1 := ⟨ok_6_choicesTo, tG_of (List.mem_of_getElem? (i := 994) (by decide +kernel)) (by decide +kernel), by decide +kernel, by decide⟩
theorem ok_5_wayTo : MOK m5_wayTo := ⟨by decide +kernel, tG_of (List.mem_of_getElem? (i := 660) (by decide +kernel)) (by decide +kernel), tG_of (List.mem_of_getElem? (i := 64) (by decide +kernel)) (by decide +kernel), by decide +kernel, by decide +kernel⟩
theorem v_5_wayTo : Jvm.Cond.instanceMethod (mY m5_wayTo) ∈ tG ∧ Jvm.Cond.selects (mY m5_wayTo).cls (mY m5_wayTo) (mY m5_wayTo) ∈ tG := ⟨tG_of (List.mem_of_getElem? (i := 658) (by decide +kernel)) (by decide +kernel), tG_of (List.mem_of_getElem? (i := 659) (by decide +kernel)) (by decide +kernel)⟩
theorem lk_L_90 : Lk RL 90 m5_wayTo 2 := ⟨ok_5_wayTo, tG_of (List.mem_of_getElem? (i := 657) (by decide +kernel)) (by decide +kernel), by decide +kernel, by decide⟩
theorem ok_6_wayTo : MOK m6_wayTo := ⟨by decide +kernel, tG_of (List.mem_of_getElem? (i := 1008) (by decide +kernel)) (by decide +kernel), tG_of (List.mem_of_getElem? (i := 71) (by decide +kernel)) (by decide +kernel), by decide +kernel, by decide +kernel⟩
theorem v_6_wayTo : Jvm.Cond.instanceMethod (mY m6_wayTo) ∈ tG ∧ Jvm.Cond.selects (mY m6_wayTo).cls (mY m6_wayTo) (mY m6_wayTo) ∈ tG := ⟨tG_of (List.mem_of_getElem? (i := 1006) (by decide +kernel)) (by decide +kernel), tG_of (List.mem_of_getElem? (i := 1007) (by decide +kernel)) (by decide +kernel)⟩
theorem lk_L_93 : Lk RL 93 m6_wayTo 2 := ⟨ok_6_wayTo, tG_of (List.mem_of_getElem? (i := 1005) (by decide +kernel)) (by decide +kernel), by decide +kernel, by decide⟩
theorem lk_L_94 : Lk RL 94 m5_usable 2 := ⟨ok_5_usable, tG_of (List.mem_of_getElem? (i := 666) (by decide +kernel)) (by decide +kernel), by decide +kernel, by decide⟩
theorem ok_6_usable : MOK m6_usable := ⟨by decide +kernel, tG_of (List.mem_of_getElem? (i := 1012) (by decide +kernel)) (by decide +kernel), tG_of (List.mem_of_getElem? (i := 71) (by decide +kernel)) (by decide +kernel), by decide +kernel, by decide +kernel⟩
theorem v_6_usable : Jvm.Cond.instanceMethod (mY m6_usable) ∈ tG ∧ Jvm.Cond.selects (mY m6_usable).cls (mY m6_usable) (mY m6_usable) ∈ tG := ⟨tG_of (List.mem_of_getElem? (i := 1010) (by decide +kernel)) (by decide +kernel), tG_of (List.mem_of_getElem? (i := 1011) (by decide +kernel)) (by decide +kernel)⟩
theorem lk_L_97 : Lk RL 97 m6_usable 2 := ⟨ok_6_usable, tG_of (List.mem_of_getElem? (i := 1009) (by decide +kernel)) (by decide +kernel), by decide +kernel, by decide⟩
theorem lk_L_98 : Lk RL 98 m5_count 1 := ⟨ok_5_count, tG_of (List.mem_of_getElem? (i := 675) (by decide +kernel)) (by decide +kernel), by decide +kernel, by decide⟩
theorem lk_L_101 : Lk RL 101 m6_count 1 := ⟨ok_6_count, tG_of (List.mem_of_getElem? (i := 1017) (by decide +kernel)) (by decide +kernel), by decide +kernel, by decide⟩
theorem ok_5_digest : MOK m5_digest := ⟨by decide +kernel, tG_of (List.mem_of_getElem? (i := 694) (by decide +kernel)) (by decide +kernel), tG_of (List.mem_of_getElem? (i := 64) (by decide +kernel)) (by decide +kernel), by decide +kernel, by decide +kernel⟩
theorem v_5_digest : Jvm.Cond.instanceMethod (mY m5_digest) ∈ tG ∧ Jvm.Cond.selects (mY m5_digest).cls (mY m5_digest) (mY m5_digest) ∈ tG := ⟨tG_of (List.mem_of_getElem? (i := 692) (by decide +kernel)) (by decide +kernel), tG_of (List.mem_of_getElem? (i := 693) (by decide +kernel)) (by decide +kernel)⟩
theorem lk_L_102 : Lk RL 102 m5_digest 0 := ⟨ok_5_digest, tG_of (List.mem_of_getElem? (i := 691) (by decide +kernel)) (by decide +kernel), by decide +kernel, by decide⟩
theorem ok_6_digest : MOK m6_digest := ⟨by decide +kernel, tG_of (List.mem_of_getElem? (i := 1036) (by decide +kernel)) (by decide +kernel), tG_of (List.mem_of_getElem? (i := 71) (by decide +kernel)) (by decide +kernel), by decide +kernel, by decide +kernel⟩
theorem v_6_digest : Jvm.Cond.instanceMethod (mY m6_digest) ∈ tG ∧ Jvm.Cond.selects (mY m6_digest).cls (mY m6_digest) (mY m6_digest) ∈ tG := ⟨tG_of (List.mem_of_getElem? (i := 1034) (by decide +kernel)) (by decide +kernel), tG_of (List.mem_of_getElem? (i := 1035) (by decide +kernel)) (by decide +kernel)⟩
theorem lk_L_106 : Lk RL 106 m6_digest 0 := ⟨ok_6_digest, tG_of (List.mem_of_getElem? (i := 1033) (by decide +kernel)) (by decide +kernel), by decide +kernel, by decide⟩
end
section
/-! ===== decode rows of X3 ===== -/
theorem d3_init_0 : Dal m3_init 0 0 1 := Or.inl ⟨0, by decide +kernel, rfl, rfl⟩
theorem d3_init_1 : Doi m3_init 1 4 := ⟨3, by decide +kernel, oi_X3_3, oi_i, oi_c, rfl⟩
theorem d3_init_4 : Dal m3_init 4 0 5 := Or.inl ⟨0, by decide +kernel, rfl, rfl⟩
theorem d3_init_5 : Dc m3_init 5 (.bipush 29) 2 7 := ⟨by decide +kernel, rfl⟩
theorem d3_init_7 : Dna m3_init 7 0 9 := ⟨.int, by decide +kernel, rfl, na_int, rfl, by decide, ⟨by decide, by decide⟩, rfl⟩
theorem d3_init_9 : Dpf m3_init 9 3 1 (.array .int) true 12 := ⟨9, by decide +kernel, f_X3_9, p_X3_X3_1, rfl⟩
theorem d3_init_12 : Dal m3_init 12 0 13 := Or.inl ⟨0, by decide +kernel, rfl, rfl⟩
theorem d3_init_13 : Dc m3_init 13 (.bipush 29) 2 15 := ⟨by decide +kernel, rfl⟩
theorem d3_init_15 : Dna m3_init 15 0 17 := ⟨.int, by decide +kernel, rfl, na_int, rfl, by decide, ⟨by decide, by decide⟩, rfl⟩
theorem d3_init_17 : Dpf m3_init 17 3 2 (.array .int) true 20 := ⟨15, by decide +kernel, f_X3_15, p_X3_X3_2, rfl⟩
theorem d3_init_20 : Dal m3_init 20 0 21 := Or.inl ⟨0, by decide +kernel, rfl, rfl⟩
theorem d3_init_21 : Dc m3_init 21 (.bipush 87) 2 23 := ⟨by decide +kernel, rfl⟩
theorem d3_init_23 : Dna m3_init 23 0 25 := ⟨.int, by decide +kernel, rfl, na_int, rfl, by decide, ⟨by decide, by decide⟩, rfl⟩
theorem d3_init_25 : Dpf m3_init 25 3 3 (.array .int) true 28 := ⟨18, by decide +kernel, f_X3_18, p_X3_X3_3, rfl⟩
theorem d3_init_28 : Dal m3_init 28 0 29 := Or.inl ⟨0, by decide +kernel, rfl, rfl⟩
theorem d3_init_29 : Dc m3_init 29 (.bipush 29) 2 31 := ⟨by decide +kernel, rfl⟩
theorem d3_init_31 : Dna m3_init 31 0 33 := ⟨.int, by decide +kernel, rfl, na_int, rfl, by decide, ⟨by decide, by decide⟩, rfl⟩
theorem d3_init_33 : Dpf m3_init 33 3 4 (.array .int) true 36 := ⟨21, by decide +kernel, f_X3_21, p_X3_X3_4, rfl⟩
theorem d3_init_36 : Dal m3_init 36 0 37 := Or.inl ⟨0, by decide +kernel, rfl, rfl⟩
theorem d3_init_37 : Dc m3_init 37 (.sipush 348) 3 40 := ⟨by decide +kernel, rfl⟩
theorem d3_init_40 : Dna m3_init 40 0 42 := ⟨.int, by decide +kernel, rfl, na_int, rfl, by decide, ⟨by decide, by decide⟩, rfl⟩
theorem d3_init_42 : Dpf m3_init 42 3 5 (.array .int) true 45 := ⟨24, by decide +kernel, f_X3_24, p_X3_X3_5, rfl⟩
theorem d3_init_45 : mR m3_init = none ∧ decode (mB m3_init) 45 = .ok (.return_, 1) := ⟨rfl, by decide +kernel⟩
theorem d3_clear_0 : Dal m3_clear 0 0 1 := Or.inl ⟨0, by decide +kernel, rfl, rfl⟩
theorem d3_clear_1 : Dc m3_clear 1 (.iconst 0) 1 2 := ⟨by decide +kernel, rfl⟩
theorem d3_clear_2 : Dpf m3_clear 2 3 0 .int false 5 := ⟨27, by decide +kernel, f_X3_27, p_X3_X3_0, rfl⟩
theorem d3_clear_5 : mR m3_clear = none ∧ decode (mB m3_clear) 5 = .ok (.return_, 1) := ⟨rfl, by decide +kernel⟩
theorem d3_addNode_0 : Dal m3_addNode 0 0 1 := Or.inl ⟨0, by decide +kernel, rfl, rfl⟩
theorem d3_addNode_1 : Dgf m3_addNode 1 3 0 4 := ⟨27, by decide +kernel, f_X3_27, rfl⟩
theorem d3_addNode_4 : Dc m3_addNode 4 (.bipush 29) 2 6 := ⟨by decide +kernel, rfl⟩
theorem d3_addNode_6 : Dic m3_addNode 6 .ge 49 9 := ⟨(43), by decide +kernel, by decide, rfl⟩
theorem d3_addNode_9 : Dal m3_addNode 9 0 10 := Or.inl ⟨0, by decide +kernel, rfl, rfl⟩
theorem d3_addNode_10 : Dgf m3_addNode 10 3 1 13 := ⟨9, by decide +kernel, f_X3_9, rfl⟩
theorem d3_addNode_13 : Dal m3_addNode 13 0 14 := Or.inl ⟨0, by decide +kernel, rfl, rfl⟩
theorem d3_addNode_14 : Dgf m3_addNode 14 3 0 17 := ⟨27, by decide +kernel, f_X3_27, rfl⟩
theorem d3_addNode_17 : Dil m3_addNode 17 1 18 := Or.inl ⟨1, by decide +kernel, rfl, rfl⟩
theorem d3_addNode_18 : Dc m3_addNode 18 .iastore 1 19 := ⟨by decide +kernel, rfl⟩
theorem d3_addNode_19 : Dal m3_addNode 19 0 20 := Or.inl ⟨0, by decide +kernel, rfl, rfl⟩
theorem d3_addNode_20 : Dgf m3_addNode 20 3 2 23 := ⟨15, by decide +kernel, f_X3_15, rfl⟩
theorem d3_addNode_23 : Dal m3_addNode 23 0 24 := Or.inl ⟨0, by decide +kernel, rfl, rfl⟩
theorem d3_addNode_24 : Dgf m3_addNode 24 3 0 27 := ⟨27, by decide +kernel, f_X3_27, rfl⟩
theorem d3_addNode_27 : Dc m3_addNode 27 (.iconst 0) 1 28 := ⟨by decide +kernel, rfl⟩
theorem d3_addNode_28 : Dc m3_addNode 28 .iastore 1 29 := ⟨by decide +kernel, rfl⟩
theorem d3_addNode_29 : Dal m3_addNode 29 0 30 := Or.inl ⟨0, by decide +kernel, rfl, rfl⟩
theorem d3_addNode_30 : Dgf m3_addNode 30 3 4 33 := ⟨21, by decide +kernel, f_X3_21, rfl⟩
theorem d3_addNode_33 : Dal m3_addNode 33 0 34 := Or.inl ⟨0, by decide +kernel, rfl, rfl⟩
theorem d3_addNode_34 : Dgf m3_addNode 34 3 0 37 := ⟨27, by decide +kernel, f_X3_27, rfl⟩
theorem d3_addNode_37 : Dc m3_addNode 37 (.iconst 0) 1 38 := ⟨by decide +kernel, rfl⟩
theorem d3_addNode_38 : Dc m3_addNode 38 .iastore 1 39 := ⟨by decide +kernel, rfl⟩
theorem d3_addNode_39 : Dal m3_addNode 39 0 40 := Or.inl ⟨0, by decide +kernel, rfl, rfl⟩
theorem d3_addNode_40 : Dc m3_addNode 40 .dup 1 41 := ⟨by decide +kernel, rfl⟩
theorem d3_addNode_41 : Dgf m3_addNode 41 3 0 44 := ⟨27, by decide +kernel, f_X3_27, rfl⟩
theorem d3_addNode_44 : Dc m3_addNode 44 (.iconst 1) 1 45 := ⟨by decide +kernel, rfl⟩
theorem d3_addNode_45 : Dc m3_addNode 45 .iadd 1 46 := ⟨by decide +kernel, rfl⟩
theorem d3_addNode_46 : Dpf m3_addNode 46 3 0 .int false 49 := ⟨27, by decide +kernel, f_X3_27, p_X3_X3_0, rfl⟩
theorem d3_addNode_49 : mR m3_addNode = none ∧ decode (mB m3_addNode) 49 = .ok (.return_, 1) := ⟨rfl, by decide +kernel⟩
theorem d3_addNumber_0 : Dal m3_addNumber 0 0 1 := Or.inl ⟨0, by decide +kernel, rfl, rfl⟩
theorem d3_addNumber_1 : Dgf m3_addNumber 1 3 0 4 := ⟨27, by decide +kernel, f_X3_27, rfl⟩
theorem d3_addNumber_4 : Dc m3_addNumber 4 (.iconst 1) 1 5 := ⟨by decide +kernel, rfl⟩
theorem d3_addNumber_5 : Dc m3_addNumber 5 .isub 1 6 := ⟨by decide +kernel, rfl⟩
theorem d3_addNumber_6 : Dis m3_addNumber 6 2 7 := Or.inl ⟨2, by decide +kernel, rfl, rfl⟩
theorem d3_addNumber_7 : Dal m3_addNumber 7 0 8 := Or.inl ⟨0, by decide +kernel, rfl, rfl⟩
theorem d3_addNumber_8 : Dil m3_addNumber 8 2 9 := Or.inl ⟨2, by decide +kernel, rfl, rfl⟩
theorem d3_addNumber_9 : Div m3_addNumber 9 m3_has 1 12 := ⟨31, by decide +kernel, lk_X3_31, v_3_has, rfl⟩
theorem d3_addNumber_12 : Dif m3_addNumber 12 .eq 51 15 := ⟨(39), by decide +kernel, by decide, rfl⟩
theorem d3_addNumber_15 : Dal m3_addNumber 15 0 16 := Or.inl ⟨0, by decide +kernel, rfl, rfl⟩
theorem d3_addNumber_16 : Dgf m3_addNumber 16 3 2 19 := ⟨15, by decide +kernel, f_X3_15, rfl⟩
theorem d3_addNumber_19 : Dil m3_addNumber 19 2 20 := Or.inl ⟨2, by decide +kernel, rfl, rfl⟩
theorem d3_addNumber_20 : Dc m3_addNumber 20 .iaload 1 21 := ⟨by decide +kernel, rfl⟩
theorem d3_addNumber_21 : Dc m3_addNumber 21 (.iconst 3) 1 22 := ⟨by decide +kernel, rfl⟩
theorem d3_addNumber_22 : Dic m3_addNumber 22 .ge 51 25 := ⟨(29), by decide +kernel, by decide, rfl⟩
theorem d3_addNumber_25 : Dal m3_addNumber 25 0 26 := Or.inl ⟨0, by decide +kernel, rfl, rfl⟩
theorem d3_addNumber_26 : Dgf m3_addNumber 26 3 3 29 := ⟨18, by decide +kernel, f_X3_18, rfl⟩
theorem d3_addNumber_29 : Dil m3_addNumber 29 2 30 := Or.inl ⟨2, by decide +kernel, rfl, rfl⟩
theorem d3_addNumber_30 : Dc m3_addNumber 30 (.iconst 3) 1 31 := ⟨by decide +kernel, rfl⟩
theorem d3_addNumber_31 : Dc m3_addNumber 31 .imul 1 32 := ⟨by decide +kernel, rfl⟩
theorem d3_addNumber_32 : Dal m3_addNumber 32 0 33 := Or.inl ⟨0, by decide +kernel, rfl, rfl⟩
theorem d3_addNumber_33 : Dgf m3_addNumber 33 3 2 36 := ⟨15, by decide +kernel, f_X3_15, rfl⟩
theorem d3_addNumber_36 : Dil m3_addNumber 36 2 37 := Or.inl ⟨2, by decide +kernel, rfl, rfl⟩
theorem d3_addNumber_37 : Dc m3_addNumber 37 .iaload 1 38 := ⟨by decide +kernel, rfl⟩
theorem d3_addNumber_38 : Dc m3_addNumber 38 .iadd 1 39 := ⟨by decide +kernel, rfl⟩
theorem d3_addNumber_39 : Dil m3_addNumber 39 1 40 := Or.inl ⟨1, by decide +kernel, rfl, rfl⟩
theorem d3_addNumber_40 : Dc m3_addNumber 40 .iastore 1 41 := ⟨by decide +kernel, rfl⟩
theorem d3_addNumber_41 : Dal m3_addNumber 41 0 42 := Or.inl ⟨0, by decide +kernel, rfl, rfl⟩
theorem d3_addNumber_42 : Dgf m3_addNumber 42 3 2 45 := ⟨15, by decide +kernel, f_X3_15, rfl⟩
theorem d3_addNumber_45 : Dil m3_addNumber 45 2 46 := Or.inl ⟨2, by decide +kernel, rfl, rfl⟩
theorem d3_addNumber_46 : Dc m3_addNumber 46 .dup2 1 47 := ⟨by decide +kernel, rfl⟩
theorem d3_addNumber_47 : Dc m3_addNumber 47 .iaload 1 48 := ⟨by decide +kernel, rfl⟩
theorem d3_addNumber_48 : Dc m3_addNumber 48 (.iconst 1) 1 49 := ⟨by decide +kernel, rfl⟩
theorem d3_addNumber_49 : Dc m3_addNumber 49 .iadd 1 50 := ⟨by decide +kernel, rfl⟩
theorem d3_addNumber_50 : Dc m3_addNumber 50 .iastore 1 51 := ⟨by decide +kernel, rfl⟩
theorem d3_addNumber_51 : mR m3_addNumber = none ∧ decode (mB m3_addNumber) 51 = .ok (.return_, 1) := ⟨rfl, by decide +kernel⟩
theorem d3_addOption_0 : Dal m3_addOption 0 0 1 := Or.inl ⟨0, by decide +kernel, rfl, rfl⟩
theorem d3_addOption_1 : Dgf m3_addOption 1 3 0 4 := ⟨27, by decide +kernel, f_X3_27, rfl⟩
theorem d3_addOption_4 : Dc m3_addOption 4 (.iconst 1) 1 5 := ⟨by decide +kernel, rfl⟩
theorem d3_addOption_5 : Dc m3_addOption 5 .isub 1 6 := ⟨by decide +kernel, rfl⟩
theorem d3_addOption_6 : Dis m3_addOption 6 4 8 := Or.inr ⟨by decide +kernel, rfl⟩
theorem d3_addOption_8 : Dal m3_addOption 8 0 9 := Or.inl ⟨0, by decide +kernel, rfl, rfl⟩
theorem d3_addOption_9 : Dil m3_addOption 9 4 11 := Or.inr ⟨by decide +kernel, rfl⟩
theorem d3_addOption_11 : Div m3_addOption 11 m3_has 1 14 := ⟨31, by decide +kernel, lk_X3_31, v_3_has, rfl⟩
theorem d3_addOption_14 : Dif m3_addOption 14 .eq 85 17 := ⟨(71), by decide +kernel, by decide, rfl⟩
theorem d3_addOption_17 : Dal m3_addOption 17 0 18 := Or.inl ⟨0, by decide +kernel, rfl, rfl⟩
theorem d3_addOption_18 : Dgf m3_addOption 18 3 4 21 := ⟨21, by decide +kernel, f_X3_21, rfl⟩
theorem d3_addOption_21 : Dil m3_addOption 21 4 23 := Or.inr ⟨by decide +kernel, rfl⟩
theorem d3_addOption_23 : Dc m3_addOption 23 .iaload 1 24 := ⟨by decide +kernel, rfl⟩
theorem d3_addOption_24 : Dc m3_addOption 24 (.iconst 4) 1 25 := ⟨by decide +kernel, rfl⟩
theorem d3_addOption_25 : Dic m3_addOption 25 .ge 85 28 := ⟨(60), by decide +kernel, by decide, rfl⟩
theorem d3_addOption_28 : Dil m3_addOption 28 4 30 := Or.inr ⟨by decide +kernel, rfl⟩
theorem d3_addOption_30 : Dc m3_addOption 30 (.iconst 4) 1 31 := ⟨by decide +kernel, rfl⟩
theorem d3_addOption_31 : Dc m3_addOption 31 .imul 1 32 := ⟨by decide +kernel, rfl⟩
theorem d3_addOption_32 : Dal m3_addOption 32 0 33 := Or.inl ⟨0, by decide +kernel, rfl, rfl⟩
theorem d3_addOption_33 : Dgf m3_addOption 33 3 4 36 := ⟨21, by decide +kernel, f_X3_21, rfl⟩
theorem d3_addOption_36 : Dil m3_addOption 36 4 38 := Or.inr ⟨by decide +kernel, rfl⟩
theorem d3_addOption_38 : Dc m3_addOption 38 .iaload 1 39 := ⟨by decide +kernel, rfl⟩
theorem d3_addOption_39 : Dc m3_addOption 39 .iadd 1 40 := ⟨by decide +kernel, rfl⟩
theorem d3_addOption_40 : Dc m3_addOption 40 (.iconst 3) 1 41 := ⟨by decide +kernel, rfl⟩
theorem d3_addOption_41 : Dc m3_addOption 41 .imul 1 42 := ⟨by decide +kernel, rfl⟩
theorem d3_addOption_42 : Dis m3_addOption 42 5 44 := Or.inr ⟨by decide +kernel, rfl⟩
theorem d3_addOption_44 : Dal m3_addOption 44 0 45 := Or.inl ⟨0, by decide +kernel, rfl, rfl⟩
theorem d3_addOption_45 : Dgf m3_addOption 45 3 5 48 := ⟨24, by decide +kernel, f_X3_24, rfl⟩
theorem d3_addOption_48 : Dil m3_addOption 48 5 50 := Or.inr ⟨by decide +kernel, rfl⟩
theorem d3_addOption_50 : Dc m3_addOption 50 (.iconst 0) 1 51 := ⟨by decide +kernel, rfl⟩
theorem d3_addOption_51 : Dc m3_addOption 51 .iadd 1 52 := ⟨by decide +kernel, rfl⟩
theorem d3_addOption_52 : Dil m3_addOption 52 1 53 := Or.inl ⟨1, by decide +kernel, rfl, rfl⟩
theorem d3_addOption_53 : Dc m3_addOption 53 .iastore 1 54 := ⟨by decide +kernel, rfl⟩
theorem d3_addOption_54 : Dal m3_addOption 54 0 55 := Or.inl ⟨0, by decide +kernel, rfl, rfl⟩
theorem d3_addOption_55 : Dgf m3_addOption 55 3 5 58 := ⟨24, by decide +kernel, f_X3_24, rfl⟩
theorem d3_addOption_58 : Dil m3_addOption 58 5 60 := Or.inr ⟨by decide +kernel, rfl⟩
theorem d3_addOption_60 : Dc m3_addOption 60 (.iconst 1) 1 61 := ⟨by decide +kernel, rfl⟩
theorem d3_addOption_61 : Dc m3_addOption 61 .iadd 1 62 := ⟨by decide +kernel, rfl⟩
theorem d3_addOption_62 : Dil m3_addOption 62 2 63 := Or.inl ⟨2, by decide +kernel, rfl, rfl⟩
theorem d3_addOption_63 : Dc m3_addOption 63 .iastore 1 64 := ⟨by decide +kernel, rfl⟩
theorem d3_addOption_64 : Dal m3_addOption 64 0 65 := Or.inl ⟨0, by decide +kernel, rfl, rfl⟩
theorem d3_addOption_65 : Dgf m3_addOption 65 3 5 68 := ⟨24, by decide +kernel, f_X3_24, rfl⟩
theorem d3_addOption_68 : Dil m3_addOption 68 5 70 := Or.inr ⟨by decide +kernel, rfl⟩
theorem d3_addOption_70 : Dc m3_addOption 70 (.iconst 2) 1 71 := ⟨by decide +kernel, rfl⟩
theorem d3_addOption_71 : Dc m3_addOption 71 .iadd 1 72 := ⟨by decide +kernel, rfl⟩
theorem d3_addOption_72 : Dil m3_addOption 72 3 73 := Or.inl ⟨3, by decide +kernel, rfl, rfl⟩
theorem d3_addOption_73 : Dc m3_addOption 73 .iastore 1 74 := ⟨by decide +kernel, rfl⟩
theorem d3_addOption_74 : Dal m3_addOption 74 0 75 := Or.inl ⟨0, by decide +kernel, rfl, rfl⟩
theorem d3_addOption_75 : Dgf m3_addOption 75 3 4 78 := ⟨21, by decide +kernel, f_X3_21, rfl⟩
theorem d3_addOption_78 : Dil m3_addOption 78 4 80 := Or.inr ⟨by decide +kernel, rfl⟩
theorem d3_addOption_80 : Dc m3_addOption 80 .dup2 1 81 := ⟨by decide +kernel, rfl⟩
theorem d3_addOption_81 : Dc m3_addOption 81 .iaload 1 82 := ⟨by decide +kernel, rfl⟩
theorem d3_addOption_82 : Dc m3_addOption 82 (.iconst 1) 1 83 := ⟨by decide +kernel, rfl⟩
theorem d3_addOption_83 : Dc m3_addOption 83 .iadd 1 84 := ⟨by decide +kernel, rfl⟩
theorem d3_addOption_84 : Dc m3_addOption 84 .iastore 1 85 := ⟨by decide +kernel, rfl⟩
theorem d3_addOption_85 : mR m3_addOption = none ∧ decode (mB m3_addOption) 85 = .ok (.return_, 1) := ⟨rfl, by decide +kernel⟩
theorem d3_has_0 : Dil m3_has 0 1 1 := Or.inl ⟨1, by decide +kernel, rfl, rfl⟩
theorem d3_has_1 : Dif m3_has 1 .lt 22 4 := ⟨(21), by decide +kernel, by decide, rfl⟩
theorem d3_has_4 : Dil m3_has 4 1 5 := Or.inl ⟨1, by decide +kernel, rfl, rfl⟩
theorem d3_has_5 : Dal m3_has 5 0 6 := Or.inl ⟨0, by decide +kernel, rfl, rfl⟩
theorem d3_has_6 : Dgf m3_has 6 3 0 9 := ⟨27, by decide +kernel, f_X3_27, rfl⟩
theorem d3_has_9 : Dic m3_has 9 .ge 22 12 := ⟨(13), by decide +kernel, by decide, rfl⟩
theorem d3_has_12 : Dil m3_has 12 1 13 := Or.inl ⟨1, by decide +kernel, rfl, rfl⟩
theorem d3_has_13 : Dc m3_has 13 (.bipush 29) 2 15 := ⟨by decide +kernel, rfl⟩
theorem d3_has_15 : Dic m3_has 15 .ge 22 18 := ⟨(7), by decide +kernel, by decide, rfl⟩
theorem d3_has_18 : Dc m3_has 18 (.iconst 1) 1 19 := ⟨by decide +kernel, rfl⟩
theorem d3_has_19 : Dgo m3_has 19 23 := ⟨4, by decide +kernel, by decide⟩
theorem d3_has_22 : Dc m3_has 22 (.iconst 0) 1 23 := ⟨by decide +kernel, rfl⟩
theorem d3_has_23 : mR m3_has = some .boolean ∧ decode (mB m3_has) 23 = .ok (.ireturn, 1) := ⟨rfl, by decide +kernel⟩
theorem d3_kindOf_0 : Dal m3_kindOf 0 0 1 := Or.inl ⟨0, by decide +kernel, rfl, rfl⟩
theorem d3_kindOf_1 : Dil m3_kindOf 1 1 2 := Or.inl ⟨1, by decide +kernel, rfl, rfl⟩
theorem d3_kindOf_2 : Div m3_kindOf 2 m3_has 1 5 := ⟨31, by decide +kernel, lk_X3_31, v_3_has, rfl⟩
theorem d3_kindOf_5 : Dif m3_kindOf 5 .eq 17 8 := ⟨(12), by decide +kernel, by decide, rfl⟩
theorem d3_kindOf_8 : Dal m3_kindOf 8 0 9 := Or.inl ⟨0, by decide +kernel, rfl, rfl⟩
theorem d3_kindOf_9 : Dgf m3_kindOf 9 3 1 12 := ⟨9, by decide +kernel, f_X3_9, rfl⟩
theorem d3_kindOf_12 : Dil m3_kindOf 12 1 13 := Or.inl ⟨1, by decide +kernel, rfl, rfl⟩
theorem d3_kindOf_13 : Dc m3_kindOf 13 .iaload 1 14 := ⟨by decide +kernel, rfl⟩
theorem d3_kindOf_14 : Dgo m3_kindOf 14 18 := ⟨4, by decide +kernel, by decide⟩
theorem d3_kindOf_17 : Dc m3_kindOf 17 (.iconst (-1)) 1 18 := ⟨by decide +kernel, rfl⟩
theorem d3_kindOf_18 : mR m3_kindOf = some .int ∧ decode (mB m3_kindOf) 18 = .ok (.ireturn, 1) := ⟨rfl, by decide +kernel⟩
theorem d3_optionsOf_0 : Dal m3_optionsOf 0 0 1 := Or.inl ⟨0, by decide +kernel, rfl, rfl⟩
theorem d3_optionsOf_1 : Dil m3_optionsOf 1 1 2 := Or.inl ⟨1, by decide +kernel, rfl, rfl⟩
theorem d3_optionsOf_2 : Div m3_optionsOf 2 m3_has 1 5 := ⟨31, by decide +kernel, lk_X3_31, v_3_has, rfl⟩
theorem d3_optionsOf_5 : Dif m3_optionsOf 5 .eq 17 8 := ⟨(12), by decide +kernel, by decide, rfl⟩
theorem d3_optionsOf_8 : Dal m3_optionsOf 8 0 9 := Or.inl ⟨0, by decide +kernel, rfl, rfl⟩
theorem d3_optionsOf_9 : Dgf m3_optionsOf 9 3 4 12 := ⟨21, by decide +kernel, f_X3_21, rfl⟩
theorem d3_optionsOf_12 : Dil m3_optionsOf 12 1 13 := Or.inl ⟨1, by decide +kernel, rfl, rfl⟩
theorem d3_optionsOf_13 : Dc m3_optionsOf 13 .iaload 1 14 := ⟨by decide +kernel, rfl⟩
theorem d3_optionsOf_14 : Dgo m3_optionsOf 14 18 := ⟨4, by decide +kernel, by decide⟩
theorem d3_optionsOf_17 : Dc m3_optionsOf 17 (.iconst 0) 1 18 := ⟨by decide +kernel, rfl⟩
theorem d3_optionsOf_18 : mR m3_optionsOf = some .int ∧ decode (mB m3_optionsOf) 18 = .ok (.ireturn, 1) := ⟨rfl, by decide +kernel⟩
theorem d3_numberOf_0 : Dal m3_numberOf 0 0 1 := Or.inl ⟨0, by decide +kernel, rfl, rfl⟩
theorem d3_numberOf_1 : Dil m3_numberOf 1 1 2 := Or.inl ⟨1, by decide +kernel, rfl, rfl⟩
theorem d3_numberOf_2 : Div m3_numberOf 2 m3_has 1 5 := ⟨31, by decide +kernel, lk_X3_31, v_3_has, rfl⟩
theorem d3_numberOf_5 : Dif m3_numberOf 5 .eq 17 8 := ⟨(12), by decide +kernel, by decide, rfl⟩
theorem d3_numberOf_8 : Dil m3_numberOf 8 2 9 := Or.inl ⟨2, by decide +kernel, rfl, rfl⟩
theorem d3_numberOf_9 : Dif m3_numberOf 9 .lt 17 12 := ⟨(8), by decide +kernel, by decide, rfl⟩
theorem d3_numberOf_12 : Dil m3_numberOf 12 2 13 := Or.inl ⟨2, by decide +kernel, rfl, rfl⟩
theorem d3_numberOf_13 : Dc m3_numberOf 13 (.iconst 3) 1 14 := ⟨by decide +kernel, rfl⟩
theorem d3_numberOf_14 : Dic m3_numberOf 14 .lt 20 17 := ⟨(6), by decide +kernel, by decide, rfl⟩
theorem d3_numberOf_17 : Dc m3_numberOf 17 (.bipush (-11)) 2 19 := ⟨by decide +kernel, rfl⟩
theorem d3_numberOf_19 : mR m3_numberOf = some .int ∧ decode (mB m3_numberOf) 19 = .ok (.ireturn, 1) := ⟨rfl, by decide +kernel⟩
theorem d3_numberOf_20 : Dal m3_numberOf 20 0 21 := Or.inl ⟨0, by decide +kernel, rfl, rfl⟩
theorem d3_numberOf_21 : Dgf m3_numberOf 21 3 1 24 := ⟨9, by decide +kernel, f_X3_9, rfl⟩
theorem d3_numberOf_24 : Dil m3_numberOf 24 1 25 := Or.inl ⟨1, by decide +kernel, rfl, rfl⟩
theorem d3_numberOf_25 : Dc m3_numberOf 25 .iaload 1 26 := ⟨by decide +kernel, rfl⟩
theorem d3_numberOf_26 : Dc m3_numberOf 26 (.bipush 6) 2 28 := ⟨by decide +kernel, rfl⟩
theorem d3_numberOf_28 : Dic m3_numberOf 28 .ne 47 31 := ⟨(19), by decide +kernel, by decide, rfl⟩
theorem d3_numberOf_31 : Dil m3_numberOf 31 2 32 := Or.inl ⟨2, by decide +kernel, rfl, rfl⟩
theorem d3_numberOf_32 : Dif m3_numberOf 32 .ne 44 35 := ⟨(12), by decide +kernel, by decide, rfl⟩
theorem d3_numberOf_35 : Dal m3_numberOf 35 0 36 := Or.inl ⟨0, by decide +kernel, rfl, rfl⟩
theorem d3_numberOf_36 : Dgf m3_numberOf 36 3 4 39 := ⟨21, by decide +kernel, f_X3_21, rfl⟩
theorem d3_numberOf_39 : Dil m3_numberOf 39 1 40 := Or.inl ⟨1, by decide +kernel, rfl, rfl⟩
theorem d3_numberOf_40 : Dc m3_numberOf 40 .iaload 1 41 := ⟨by decide +kernel, rfl⟩
theorem d3_numberOf_41 : Dgo m3_numberOf 41 46 := ⟨5, by decide +kernel, by decide⟩
theorem d3_numberOf_44 : Dc m3_numberOf 44 (.bipush (-11)) 2 46 := ⟨by decide +kernel, rfl⟩
theorem d3_numberOf_46 : mR m3_numberOf = some .int ∧ decode (mB m3_numberOf) 46 = .ok (.ireturn, 1) := ⟨rfl, by decide +kernel⟩
theorem d3_numberOf_47 : Dil m3_numberOf 47 2 48 := Or.inl ⟨2, by decide +kernel, rfl, rfl⟩
theorem d3_numberOf_48 : Dal m3_numberOf 48 0 49 := Or.inl ⟨0, by decide +kernel, rfl, rfl⟩
theorem d3_numberOf_49 : Dgf m3_numberOf 49 3 2 52 := ⟨15, by decide +kernel, f_X3_15, rfl⟩
theorem d3_numberOf_52 : Dil m3_numberOf 52 1 53 := Or.inl ⟨1, by decide +kernel, rfl, rfl⟩
theorem d3_numberOf_53 : Dc m3_numberOf 53 .iaload 1 54 := ⟨by decide +kernel, rfl⟩
theorem d3_numberOf_54 : Dic m3_numberOf 54 .ge 70 57 := ⟨(16), by decide +kernel, by decide, rfl⟩
theorem d3_numberOf_57 : Dal m3_numberOf 57 0 58 := Or.inl ⟨0, by decide +kernel, rfl, rfl⟩
theorem d3_numberOf_58 : Dgf m3_numberOf 58 3 3 61 := ⟨18, by decide +kernel, f_X3_18, rfl⟩
theorem d3_numberOf_61 : Dil m3_numberOf 61 1 62 := Or.inl ⟨1, by decide +kernel, rfl, rfl⟩
theorem d3_numberOf_62 : Dc m3_numberOf 62 (.iconst 3) 1 63 := ⟨by decide +kernel, rfl⟩
theorem d3_numberOf_63 : Dc m3_numberOf 63 .imul 1 64 := ⟨by decide +kernel, rfl⟩
theorem d3_numberOf_64 : Dil m3_numberOf 64 2 65 := Or.inl ⟨2, by decide +kernel, rfl, rfl⟩
theorem d3_numberOf_65 : Dc m3_numberOf 65 .iadd 1 66 := ⟨by decide +kernel, rfl⟩
theorem d3_numberOf_66 : Dc m3_numberOf 66 .iaload 1 67 := ⟨by decide +kernel, rfl⟩
theorem d3_numberOf_67 : Dgo m3_numberOf 67 72 := ⟨5, by decide +kernel, by decide⟩
theorem d3_numberOf_70 : Dc m3_numberOf 70 (.bipush (-11)) 2 72 := ⟨by decide +kernel, rfl⟩
theorem d3_numberOf_72 : mR m3_numberOf = some .int ∧ decode (mB m3_numberOf) 72 = .ok (.ireturn, 1) := ⟨rfl, by decide +kernel⟩
theorem d3_optionPart_0 : Dal m3_optionPart 0 0 1 := Or.inl ⟨0, by decide +kernel, rfl, rfl⟩
theorem d3_optionPart_1 : Dil m3_optionPart 1 1 2 := Or.inl ⟨1, by decide +kernel, rfl, rfl⟩
theorem d3_optionPart_2 : Div m3_optionPart 2 m3_has 1 5 := ⟨31, by decide +kernel, lk_X3_31, v_3_has, rfl⟩
theorem d3_optionPart_5 : Dif m3_optionPart 5 .eq 27 8 := ⟨(22), by decide +kernel, by decide, rfl⟩
theorem d3_optionPart_8 : Dil m3_optionPart 8 2 9 := Or.inl ⟨2, by decide +kernel, rfl, rfl⟩
theorem d3_optionPart_9 : Dif m3_optionPart 9 .lt 27 12 := ⟨(18), by decide +kernel, by decide, rfl⟩
theorem d3_optionPart_12 : Dil m3_optionPart 12 2 13 := Or.inl ⟨2, by decide +kernel, rfl, rfl⟩
theorem d3_optionPart_13 : Dal m3_optionPart 13 0 14 := Or.inl ⟨0, by decide +kernel, rfl, rfl⟩
theorem d3_optionPart_14 : Dgf m3_optionPart 14 3 4 17 := ⟨21, by decide +kernel, f_X3_21, rfl⟩
theorem d3_optionPart_17 : Dil m3_optionPart 17 1 18 := Or.inl ⟨1, by decide +kernel, rfl, rfl⟩
theorem d3_optionPart_18 : Dc m3_optionPart 18 .iaload 1 19 := ⟨by decide +kernel, rfl⟩
theorem d3_optionPart_19 : Dic m3_optionPart 19 .ge 27 22 := ⟨(8), by decide +kernel, by decide, rfl⟩
theorem d3_optionPart_22 : Dil m3_optionPart 22 2 23 := Or.inl ⟨2, by decide +kernel, rfl, rfl⟩
theorem d3_optionPart_23 : Dc m3_optionPart 23 (.iconst 4) 1 24 := ⟨by decide +kernel, rfl⟩
theorem d3_optionPart_24 : Dic m3_optionPart 24 .lt 30 27 := ⟨(6), by decide +kernel, by decide, rfl⟩
theorem d3_optionPart_27 : Dc m3_optionPart 27 (.bipush (-11)) 2 29 := ⟨by decide +kernel, rfl⟩
theorem d3_optionPart_29 : mR m3_optionPart = some .int ∧ decode (mB m3_optionPart) 29 = .ok (.ireturn, 1) := ⟨rfl, by decide +kernel⟩
theorem d3_optionPart_30 : Dil m3_optionPart 30 3 31 := Or.inl ⟨3, by decide +kernel, rfl, rfl⟩
theorem d3_optionPart_31 : Dif m3_optionPart 31 .lt 39 34 := ⟨(8), by decide +kernel, by decide, rfl⟩
theorem d3_optionPart_34 : Dil m3_optionPart 34 3 35 := Or.inl ⟨3, by decide +kernel, rfl, rfl⟩
theorem d3_optionPart_35 : Dc m3_optionPart 35 (.iconst 3) 1 36 := ⟨by decide +kernel, rfl⟩
theorem d3_optionPart_36 : Dic m3_optionPart 36 .lt 42 39 := ⟨(6), by decide +kernel, by decide, rfl⟩
theorem d3_optionPart_39 : Dc m3_optionPart 39 (.bipush (-11)) 2 41 := ⟨by decide +kernel, rfl⟩
theorem d3_optionPart_41 : mR m3_optionPart = some .int ∧ decode (mB m3_optionPart) 41 = .ok (.ireturn, 1) := ⟨rfl, by decide +kernel⟩
theorem d3_optionPart_42 : Dal m3_optionPart 42 0 43 := Or.inl ⟨0, by decide +kernel, rfl, rfl⟩
theorem d3_optionPart_43 : Dgf m3_optionPart 43 3 5 46 := ⟨24, by decide +kernel, f_X3_24, rfl⟩
theorem d3_optionPart_46 : Dil m3_optionPart 46 1 47 := Or.inl ⟨1, by decide +kernel, rfl, rfl⟩
theorem d3_optionPart_47 : Dc m3_optionPart 47 (.iconst 4) 1 48 := ⟨by decide +kernel, rfl⟩
theorem d3_optionPart_48 : Dc m3_optionPart 48 .imul 1 49 := ⟨by decide +kernel, rfl⟩
theorem d3_optionPart_49 : Dil m3_optionPart 49 2 50 := Or.inl ⟨2, by decide +kernel, rfl, rfl⟩
theorem d3_optionPart_50 : Dc m3_optionPart 50 .iadd 1 51 := ⟨by decide +kernel, rfl⟩
theorem d3_optionPart_51 : Dc m3_optionPart 51 (.iconst 3) 1 52 := ⟨by decide +kernel, rfl⟩
theorem d3_optionPart_52 : Dc m3_optionPart 52 .imul 1 53 := ⟨by decide +kernel, rfl⟩
theorem d3_optionPart_53 : Dil m3_optionPart 53 3 54 := Or.inl ⟨3, by decide +kernel, rfl, rfl⟩
theorem d3_optionPart_54 : Dc m3_optionPart 54 .iadd 1 55 := ⟨by decide +kernel, rfl⟩
theorem d3_optionPart_55 : Dc m3_optionPart 55 .iaload 1 56 := ⟨by decide +kernel, rfl⟩
theorem d3_optionPart_56 : mR m3_optionPart = some .int ∧ decode (mB m3_optionPart) 56 = .ok (.ireturn, 1) := ⟨rfl, by decide +kernel⟩
theorem d3_isOpen_0 : Dil m3_isOpen 0 2 1 := Or.inl ⟨2, by decide +kernel, rfl, rfl⟩
theorem d3_isOpen_1 : Dif m3_isOpen 1 .lt 13 4 := ⟨(12), by decide +kernel, by decide, rfl⟩
theorem d3_isOpen_4 : Dil m3_isOpen 4 2 5 := Or.inl ⟨2, by decide +kernel, rfl, rfl⟩
theorem d3_isOpen_5 : Dal m3_isOpen 5 0 6 := Or.inl ⟨0, by decide +kernel, rfl, rfl⟩
theorem d3_isOpen_6 : Dil m3_isOpen 6 1 7 := Or.inl ⟨1, by decide +kernel, rfl, rfl⟩
theorem d3_isOpen_7 : Div m3_isOpen 7 m3_optionsOf 1 10 := ⟨35, by decide +kernel, lk_X3_35, v_3_optionsOf, rfl⟩
theorem d3_isOpen_10 : Dic m3_isOpen 10 .lt 15 13 := ⟨(5), by decide +kernel, by decide, rfl⟩
theorem d3_isOpen_13 : Dc m3_isOpen 13 (.iconst 0) 1 14 := ⟨by decide +kernel, rfl⟩
theorem d3_isOpen_14 : mR m3_isOpen = some .boolean ∧ decode (mB m3_isOpen) 14 = .ok (.ireturn, 1) := ⟨rfl, by decide +kernel⟩
theorem d3_isOpen_15 : Dal m3_isOpen 15 0 16 := Or.inl ⟨0, by decide +kernel, rfl, rfl⟩
theorem d3_isOpen_16 : Dil m3_isOpen 16 1 17 := Or.inl ⟨1, by decide +kernel, rfl, rfl⟩
theorem d3_isOpen_17 : Dil m3_isOpen 17 2 18 := Or.inl ⟨2, by decide +kernel, rfl, rfl⟩
theorem d3_isOpen_18 : Dc m3_isOpen 18 (.iconst 1) 1 19 := ⟨by decide +kernel, rfl⟩
theorem d3_isOpen_19 : Div m3_isOpen 19 m3_optionPart 3 22 := ⟨39, by decide +kernel, lk_X3_39, v_3_optionPart, rfl⟩
theorem d3_isOpen_22 : Dis m3_isOpen 22 4 24 := Or.inr ⟨by decide +kernel, rfl⟩
theorem d3_isOpen_24 : Dil m3_isOpen 24 4 26 := Or.inr ⟨by decide +kernel, rfl⟩
theorem d3_isOpen_26 : Dif m3_isOpen 26 .ne 31 29 := ⟨(5), by decide +kernel, by decide, rfl⟩
theorem d3_isOpen_29 : Dc m3_isOpen 29 (.iconst 1) 1 30 := ⟨by decide +kernel, rfl⟩
theorem d3_isOpen_30 : mR m3_isOpen = some .boolean ∧ decode (mB m3_isOpen) 30 = .ok (.ireturn, 1) := ⟨rfl, by decide +kernel⟩
theorem d3_isOpen_31 : Dil m3_isOpen 31 3 32 := Or.inl ⟨3, by decide +kernel, rfl, rfl⟩
theorem d3_isOpen_32 : Dal m3_isOpen 32 0 33 := Or.inl ⟨0, by decide +kernel, rfl, rfl⟩
theorem d3_isOpen_33 : Dil m3_isOpen 33 1 34 := Or.inl ⟨1, by decide +kernel, rfl, rfl⟩
theorem d3_isOpen_34 : Dil m3_isOpen 34 2 35 := Or.inl ⟨2, by decide +kernel, rfl, rfl⟩
theorem d3_isOpen_35 : Dc m3_isOpen 35 (.iconst 2) 1 36 := ⟨by decide +kernel, rfl⟩
theorem d3_isOpen_36 : Div m3_isOpen 36 m3_optionPart 3 39 := ⟨39, by decide +kernel, lk_X3_39, v_3_optionPart, rfl⟩
theorem d3_isOpen_39 : Dc m3_isOpen 39 .ishr 1 40 := ⟨by decide +kernel, rfl⟩
theorem d3_isOpen_40 : Dc m3_isOpen 40 (.iconst 1) 1 41 := ⟨by decide +kernel, rfl⟩
theorem d3_isOpen_41 : Dc m3_isOpen 41 .iand 1 42 := ⟨by decide +kernel, rfl⟩
theorem d3_isOpen_42 : Dc m3_isOpen 42 (.iconst 1) 1 43 := ⟨by decide +kernel, rfl⟩
theorem d3_isOpen_43 : Dic m3_isOpen 43 .ne 50 46 := ⟨(7), by decide +kernel, by decide, rfl⟩
theorem d3_isOpen_46 : Dc m3_isOpen 46 (.iconst 1) 1 47 := ⟨by decide +kernel, rfl⟩
theorem d3_isOpen_47 : Dgo m3_isOpen 47 51 := ⟨4, by decide +kernel, by decide⟩
theorem d3_isOpen_50 : Dc m3_isOpen 50 (.iconst 0) 1 51 := ⟨by decide +kernel, rfl⟩
theorem d3_isOpen_51 : Dis m3_isOpen 51 5 53 := Or.inr ⟨by decide +kernel, rfl⟩
theorem d3_isOpen_53 : Dil m3_isOpen 53 5 55 := Or.inr ⟨by decide +kernel, rfl⟩
theorem d3_isOpen_55 : Dil m3_isOpen 55 4 57 := Or.inr ⟨by decide +kernel, rfl⟩
theorem d3_isOpen_57 : Dc m3_isOpen 57 (.iconst 1) 1 58 := ⟨by decide +kernel, rfl⟩
theorem d3_isOpen_58 : Dic m3_isOpen 58 .ne 65 61 := ⟨(7), by decide +kernel, by decide, rfl⟩
theorem d3_isOpen_61 : Dc m3_isOpen 61 (.iconst 1) 1 62 := ⟨by decide +kernel, rfl⟩
theorem d3_isOpen_62 : Dgo m3_isOpen 62 66 := ⟨4, by decide +kernel, by decide⟩
theorem d3_isOpen_65 : Dc m3_isOpen 65 (.iconst 0) 1 66 := ⟨by decide +kernel, rfl⟩
theorem d3_isOpen_66 : Dic m3_isOpen 66 .ne 73 69 := ⟨(7), by decide +kernel, by decide, rfl⟩
theorem d3_isOpen_69 : Dc m3_isOpen 69 (.iconst 1) 1 70 := ⟨by decide +kernel, rfl⟩
theorem d3_isOpen_70 : Dgo m3_isOpen 70 74 := ⟨4, by decide +kernel, by decide⟩
theorem d3_isOpen_73 : Dc m3_isOpen 73 (.iconst 0) 1 74 := ⟨by decide +kernel, rfl⟩
theorem d3_isOpen_74 : mR m3_isOpen = some .boolean ∧ decode (mB m3_isOpen) 74 = .ok (.ireturn, 1) := ⟨rfl, by decide +kernel⟩
theorem d3_openOptions_0 : Dal m3_openOptions 0 0 1 := Or.inl ⟨0, by decide +kernel, rfl, rfl⟩
theorem d3_openOptions_1 : Dil m3_openOptions 1 1 2 := Or.inl ⟨1, by decide +kernel, rfl, rfl⟩
theorem d3_openOptions_2 : Div m3_openOptions 2 m3_kindOf 1 5 := ⟨43, by decide +kernel, lk_X3_43, v_3_kindOf, rfl⟩
theorem d3_openOptions_5 : Dc m3_openOptions 5 (.bipush 6) 2 7 := ⟨by decide +kernel, rfl⟩
theorem d3_openOptions_7 : Dic m3_openOptions 7 .eq 13 10 := ⟨(6), by decide +kernel, by decide, rfl⟩
theorem d3_openOptions_10 : Dc m3_openOptions 10 (.bipush (-11)) 2 12 := ⟨by decide +kernel, rfl⟩
theorem d3_openOptions_12 : mR m3_openOptions = some .int ∧ decode (mB m3_openOptions) 12 = .ok (.ireturn, 1) := ⟨rfl, by decide +kernel⟩
theorem d3_openOptions_13 : Dc m3_openOptions 13 (.iconst 0) 1 14 := ⟨by decide +kernel, rfl⟩
theorem d3_openOptions_14 : Dis m3_openOptions 14 3 15 := Or.inl ⟨3, by decide +kernel, rfl, rfl⟩
theorem d3_openOptions_15 : Dc m3_openOptions 15 (.iconst 0) 1 16 := ⟨by decide +kernel, rfl⟩
theorem d3_openOptions_16 : Dis m3_openOptions 16 4 18 := Or.inr ⟨by decide +kernel, rfl⟩
theorem d3_openOptions_18 : Dil m3_openOptions 18 4 20 := Or.inr ⟨by decide +kernel, rfl⟩
theorem d3_openOptions_20 : Dc m3_openOptions 20 (.iconst 4) 1 21 := ⟨by decide +kernel, rfl⟩
theorem d3_openOptions_21 : Dic m3_openOptions 21 .ge 48 24 := ⟨(27), by decide +kernel, by decide, rfl⟩
theorem d3_openOptions_24 : Dal m3_openOptions 24 0 25 := Or.inl ⟨0, by decide +kernel, rfl, rfl⟩
theorem d3_openOptions_25 : Dil m3_openOptions 25 1 26 := Or.inl ⟨1, by decide +kernel, rfl, rfl⟩
theorem d3_openOptions_26 : Dil m3_openOptions 26 4 28 := Or.inr ⟨by decide +kernel, rfl⟩
theorem d3_openOptions_28 : Dil m3_openOptions 28 2 29 := Or.inl ⟨2, by decide +kernel, rfl, rfl⟩
theorem d3_openOptions_29 : Div m3_openOptions 29 m3_isOpen 3 32 := ⟨46, by decide +kernel, lk_X3_46, v_3_isOpen, rfl⟩
theorem d3_openOptions_32 : Dif m3_openOptions 32 .eq 42 35 := ⟨(10), by decide +kernel, by decide, rfl⟩
theorem d3_openOptions_35 : Dil m3_openOptions 35 3 36 := Or.inl ⟨3, by decide +kernel, rfl, rfl⟩
theorem d3_openOptions_36 : Dc m3_openOptions 36 (.iconst 1) 1 37 := ⟨by decide +kernel, rfl⟩
theorem d3_openOptions_37 : Dil m3_openOptions 37 4 39 := Or.inr ⟨by decide +kernel, rfl⟩
theorem d3_openOptions_39 : Dc m3_openOptions 39 .ishl 1 40 := ⟨by decide +kernel, rfl⟩
theorem d3_openOptions_40 : Dc m3_openOptions 40 .ior 1 41 := ⟨by decide +kernel, rfl⟩
theorem d3_openOptions_41 : Dis m3_openOptions 41 3 42 := Or.inl ⟨3, by decide +kernel, rfl, rfl⟩
theorem d3_openOptions_42 : Dc m3_openOptions 42 (.iinc 4 1) 3 45 := ⟨by decide +kernel, rfl⟩
theorem d3_openOptions_45 : Dgo m3_openOptions 45 18 := ⟨(-27), by decide +kernel, by decide⟩
theorem d3_openOptions_48 : Dil m3_openOptions 48 3 49 := Or.inl ⟨3, by decide +kernel, rfl, rfl⟩
theorem d3_openOptions_49 : mR m3_openOptions = some .int ∧ decode (mB m3_openOptions) 49 = .ok (.ireturn, 1) := ⟨rfl, by decide +kernel⟩
theorem d3_isShown_0 : Dal m3_isShown 0 0 1 := Or.inl ⟨0, by decide +kernel, rfl, rfl⟩
theorem d3_isShown_1 : Dil m3_isShown 1 1 2 := Or.inl ⟨1, by decide +kernel, rfl, rfl⟩
theorem d3_isShown_2 : Div m3_isShown 2 m3_kindOf 1 5 := ⟨43, by decide +kernel, lk_X3_43, v_3_kindOf, rfl⟩
theorem d3_isShown_5 : Dis m3_isShown 5 2 6 := Or.inl ⟨2, by decide +kernel, rfl, rfl⟩
theorem d3_isShown_6 : Dil m3_isShown 6 2 7 := Or.inl ⟨2, by decide +kernel, rfl, rfl⟩
theorem d3_isShown_7 : Dc m3_isShown 7 (.iconst (-1)) 1 8 := ⟨by decide +kernel, rfl⟩
theorem d3_isShown_8 : Dic m3_isShown 8 .eq 27 11 := ⟨(19), by decide +kernel, by decide, rfl⟩
theorem d3_isShown_11 : Dil m3_isShown 11 2 12 := Or.inl ⟨2, by decide +kernel, rfl, rfl⟩
theorem d3_isShown_12 : Dif m3_isShown 12 .eq 27 15 := ⟨(15), by decide +kernel, by decide, rfl⟩
theorem d3_isShown_15 : Dil m3_isShown 15 2 16 := Or.inl ⟨2, by decide +kernel, rfl, rfl⟩
theorem d3_isShown_16 : Dc m3_isShown 16 (.bipush 6) 2 18 := ⟨by decide +kernel, rfl⟩
theorem d3_isShown_18 : Dic m3_isShown 18 .eq 27 21 := ⟨(9), by decide +kernel, by decide, rfl⟩
theorem d3_isShown_21 : Dil m3_isShown 21 2 22 := Or.inl ⟨2, by decide +kernel, rfl, rfl⟩
theorem d3_isShown_22 : Dc m3_isShown 22 (.bipush 7) 2 24 := ⟨by decide +kernel, rfl⟩
theorem d3_isShown_24 : Dic m3_isShown 24 .ne 31 27 := ⟨(7), by decide +kernel, by decide, rfl⟩
theorem d3_isShown_27 : Dc m3_isShown 27 (.iconst 1) 1 28 := ⟨by decide +kernel, rfl⟩
theorem d3_isShown_28 : Dgo m3_isShown 28 32 := ⟨4, by decide +kernel, by decide⟩
theorem d3_isShown_31 : Dc m3_isShown 31 (.iconst 0) 1 32 := ⟨by decide +kernel, rfl⟩
theorem d3_isShown_32 : mR m3_isShown = some .boolean ∧ decode (mB m3_isShown) 32 = .ok (.ireturn, 1) := ⟨rfl, by decide +kernel⟩
theorem d3_shownKind_0 : Dal m3_shownKind 0 0 1 := Or.inl ⟨0, by decide +kernel, rfl, rfl⟩
theorem d3_shownKind_1 : Dil m3_shownKind 1 1 2 := Or.inl ⟨1, by decide +kernel, rfl, rfl⟩
theorem d3_shownKind_2 : Div m3_shownKind 2 m3_kindOf 1 5 := ⟨43, by decide +kernel, lk_X3_43, v_3_kindOf, rfl⟩
theorem d3_shownKind_5 : Dis m3_shownKind 5 2 6 := Or.inl ⟨2, by decide +kernel, rfl, rfl⟩
theorem d3_shownKind_6 : Dil m3_shownKind 6 2 7 := Or.inl ⟨2, by decide +kernel, rfl, rfl⟩
theorem d3_shownKind_7 : Dif m3_shownKind 7 .ne 12 10 := ⟨(5), by decide +kernel, by decide, rfl⟩
theorem d3_shownKind_10 : Dc m3_shownKind 10 (.iconst 0) 1 11 := ⟨by decide +kernel, rfl⟩
theorem d3_shownKind_11 : mR m3_shownKind = some .int ∧ decode (mB m3_shownKind) 11 = .ok (.ireturn, 1) := ⟨rfl, by decide +kernel⟩
theorem d3_shownKind_12 : Dil m3_shownKind 12 2 13 := Or.inl ⟨2, by decide +kernel, rfl, rfl⟩
theorem d3_shownKind_13 : Dc m3_shownKind 13 (.bipush 6) 2 15 := ⟨by decide +kernel, rfl⟩
theorem d3_shownKind_15 : Dic m3_shownKind 15 .ne 22 18 := ⟨(7), by decide +kernel, by decide, rfl⟩
theorem d3_shownKind_18 : Dc m3_shownKind 18 (.iconst 1) 1 19 := ⟨by decide +kernel, rfl⟩
theorem d3_shownKind_19 : Dgo m3_shownKind 19 23 := ⟨4, by decide +kernel, by decide⟩
theorem d3_shownKind_22 : Dc m3_shownKind 22 (.iconst 2) 1 23 := ⟨by decide +kernel, rfl⟩
theorem d3_shownKind_23 : mR m3_shownKind = some .int ∧ decode (mB m3_shownKind) 23 = .ok (.ireturn, 1) := ⟨rfl, by decide +kernel⟩
theorem d3_shownNumber_0 : Dil m3_shownNumber 0 1 1 := Or.inl ⟨1, by decide +kernel, rfl, rfl⟩
theorem d3_shownNumber_1 : Dc m3_shownNumber 1 (.bipush 30) 2 3 := ⟨by decide +kernel, rfl⟩
theorem d3_shownNumber_3 : Dic m3_shownNumber 3 .ne 9 6 := ⟨(6), by decide +kernel, by decide, rfl⟩
theorem d3_shownNumber_6 : Dc m3_shownNumber 6 (.bipush (-3)) 2 8 := ⟨by decide +kernel, rfl⟩
theorem d3_shownNumber_8 : mR m3_shownNumber = some .int ∧ decode (mB m3_shownNumber) 8 = .ok (.ireturn, 1) := ⟨rfl, by decide +kernel⟩
theorem d3_shownNumber_9 : Dal m3_shownNumber 9 0 10 := Or.inl ⟨0, by decide +kernel, rfl, rfl⟩
theorem d3_shownNumber_10 : Dil m3_shownNumber 10 1 11 := Or.inl ⟨1, by decide +kernel, rfl, rfl⟩
theorem d3_shownNumber_11 : Div m3_shownNumber 11 m3_has 1 14 := ⟨31, by decide +kernel, lk_X3_31, v_3_has, rfl⟩
theorem d3_shownNumber_14 : Dif m3_shownNumber 14 .ne 20 17 := ⟨(6), by decide +kernel, by decide, rfl⟩
theorem d3_shownNumber_17 : Dc m3_shownNumber 17 (.bipush (-2)) 2 19 := ⟨by decide +kernel, rfl⟩
theorem d3_shownNumber_19 : mR m3_shownNumber = some .int ∧ decode (mB m3_shownNumber) 19 = .ok (.ireturn, 1) := ⟨rfl, by decide +kernel⟩
theorem d3_shownNumber_20 : Dal m3_shownNumber 20 0 21 := Or.inl ⟨0, by decide +kernel, rfl, rfl⟩
theorem d3_shownNumber_21 : Dil m3_shownNumber 21 1 22 := Or.inl ⟨1, by decide +kernel, rfl, rfl⟩
theorem d3_shownNumber_22 : Dal m3_shownNumber 22 0 23 := Or.inl ⟨0, by decide +kernel, rfl, rfl⟩
theorem d3_shownNumber_23 : Dil m3_shownNumber 23 1 24 := Or.inl ⟨1, by decide +kernel, rfl, rfl⟩
theorem d3_shownNumber_24 : Div m3_shownNumber 24 m3_kindOf 1 27 := ⟨43, by decide +kernel, lk_X3_43, v_3_kindOf, rfl⟩
theorem d3_shownNumber_27 : Dif m3_shownNumber 27 .ne 34 30 := ⟨(7), by decide +kernel, by decide, rfl⟩
theorem d3_shownNumber_30 : Dc m3_shownNumber 30 (.iconst 1) 1 31 := ⟨by decide +kernel, rfl⟩
theorem d3_shownNumber_31 : Dgo m3_shownNumber 31 35 := ⟨4, by decide +kernel, by decide⟩
theorem d3_shownNumber_34 : Dc m3_shownNumber 34 (.iconst 0) 1 35 := ⟨by decide +kernel, rfl⟩
theorem d3_shownNumber_35 : Div m3_shownNumber 35 m3_numberOf 2 38 := ⟨50, by decide +kernel, lk_X3_50, v_3_numberOf, rfl⟩
theorem d3_shownNumber_38 : mR m3_shownNumber = some .int ∧ decode (mB m3_shownNumber) 38 = .ok (.ireturn, 1) := ⟨rfl, by decide +kernel⟩
end
section
/-! ===== decode rows of X1 ===== -/
theorem d1_init_0 : Dal m1_init 0 0 1 := Or.inl ⟨0, by decide +kernel, rfl, rfl⟩
theorem d1_init_1 : Doi m1_init 1 4 := ⟨3, by decide +kernel, oi_X1_3, oi_i, oi_c, rfl⟩
theorem d1_init_4 : Dal m1_init 4 0 5 := Or.inl ⟨0, by decide +kernel, rfl, rfl⟩
theorem d1_init_5 : Dc m1_init 5 (.iconst 3) 1 6 := ⟨by decide +kernel, rfl⟩
theorem d1_init_6 : Dna m1_init 6 0 8 := ⟨.int, by decide +kernel, rfl, na_int, rfl, by decide, ⟨by decide, by decide⟩, rfl⟩
theorem d1_init_8 : Dpf m1_init 8 1 2 (.array .int) true 11 := ⟨9, by decide +kernel, f_X1_9, p_X1_X1_2, rfl⟩
theorem d1_init_11 : Dal m1_init 11 0 12 := Or.inl ⟨0, by decide +kernel, rfl, rfl⟩
theorem d1_init_12 : Dc m1_init 12 (.iconst 3) 1 13 := ⟨by decide +kernel, rfl⟩
theorem d1_init_13 : Dna m1_init 13 0 15 := ⟨.int, by decide +kernel, rfl, na_int, rfl, by decide, ⟨by decide, by decide⟩, rfl⟩
theorem d1_init_15 : Dpf m1_init 15 1 3 (.array .int) true 18 := ⟨15, by decide +kernel, f_X1_15, p_X1_X1_3, rfl⟩
theorem d1_init_18 : mR m1_init = none ∧ decode (mB m1_init) 18 = .ok (.return_, 1) := ⟨rfl, by decide +kernel⟩
theorem d1_makeEmpty_0 : Dal m1_makeEmpty 0 0 1 := Or.inl ⟨0, by decide +kernel, rfl, rfl⟩
theorem d1_makeEmpty_1 : Dc m1_makeEmpty 1 (.iconst 0) 1 2 := ⟨by decide +kernel, rfl⟩
theorem d1_makeEmpty_2 : Dpf m1_makeEmpty 2 1 0 .int false 5 := ⟨18, by decide +kernel, f_X1_18, p_X1_X1_0, rfl⟩
theorem d1_makeEmpty_5 : Dal m1_makeEmpty 5 0 6 := Or.inl ⟨0, by decide +kernel, rfl, rfl⟩
theorem d1_makeEmpty_6 : Dc m1_makeEmpty 6 (.iconst 0) 1 7 := ⟨by decide +kernel, rfl⟩
theorem d1_makeEmpty_7 : Dpf m1_makeEmpty 7 1 1 .int false 10 := ⟨22, by decide +kernel, f_X1_22, p_X1_X1_1, rfl⟩
theorem d1_makeEmpty_10 : Dal m1_makeEmpty 10 0 11 := Or.inl ⟨0, by decide +kernel, rfl, rfl⟩
theorem d1_makeEmpty_11 : Dgf m1_makeEmpty 11 1 2 14 := ⟨9, by decide +kernel, f_X1_9, rfl⟩
theorem d1_makeEmpty_14 : Dc m1_makeEmpty 14 (.bipush (-11)) 2 16 := ⟨by decide +kernel, rfl⟩
theorem d1_makeEmpty_16 : Dis' m1_makeEmpty 16 mJ7_fill 2 19 := ⟨25, by decide +kernel, lk_X1_25, s_J7_fill, rfl⟩
theorem d1_makeEmpty_19 : Dal m1_makeEmpty 19 0 20 := Or.inl ⟨0, by decide +kernel, rfl, rfl⟩
theorem d1_makeEmpty_20 : Dgf m1_makeEmpty 20 1 3 23 := ⟨15, by decide +kernel, f_X1_15, rfl⟩
theorem d1_makeEmpty_23 : Dc m1_makeEmpty 23 (.bipush (-11)) 2 25 := ⟨by decide +kernel, rfl⟩
theorem d1_makeEmpty_25 : Dis' m1_makeEmpty 25 mJ7_fill 2 28 := ⟨25, by decide +kernel, lk_X1_25, s_J7_fill, rfl⟩
theorem d1_makeEmpty_28 : mR m1_makeEmpty = none ∧ decode (mB m1_makeEmpty) 28 = .ok (.return_, 1) := ⟨rfl, by decide +kernel⟩
theorem d1_makeLike_0 : Dal m1_makeLike 0 0 1 := Or.inl ⟨0, by decide +kernel, rfl, rfl⟩
theorem d1_makeLike_1 : Dal m1_makeLike 1 1 2 := Or.inl ⟨1, by decide +kernel, rfl, rfl⟩
theorem d1_makeLike_2 : Dgf m1_makeLike 2 1 0 5 := ⟨18, by decide +kernel, f_X1_18, rfl⟩
theorem d1_makeLike_5 : Dpf m1_makeLike 5 1 0 .int false 8 := ⟨18, by decide +kernel, f_X1_18, p_X1_X1_0, rfl⟩
theorem d1_makeLike_8 : Dal m1_makeLike 8 0 9 := Or.inl ⟨0, by decide +kernel, rfl, rfl⟩
theorem d1_makeLike_9 : Dal m1_makeLike 9 1 10 := Or.inl ⟨1, by decide +kernel, rfl, rfl⟩
theorem d1_makeLike_10 : Dgf m1_makeLike 10 1 1 13 := ⟨22, by decide +kernel, f_X1_22, rfl⟩
theorem d1_makeLike_13 : Dpf m1_makeLike 13 1 1 .int false 16 := ⟨22, by decide +kernel, f_X1_22, p_X1_X1_1, rfl⟩
theorem d1_makeLike_16 : Dal m1_makeLike 16 1 17 := Or.inl ⟨1, by decide +kernel, rfl, rfl⟩
theorem d1_makeLike_17 : Dgf m1_makeLike 17 1 2 20 := ⟨9, by decide +kernel, f_X1_9, rfl⟩
theorem d1_makeLike_20 : Dc m1_makeLike 20 (.iconst 0) 1 21 := ⟨by decide +kernel, rfl⟩
theorem d1_makeLike_21 : Dal m1_makeLike 21 0 22 := Or.inl ⟨0, by decide +kernel, rfl, rfl⟩
theorem d1_makeLike_22 : Dgf m1_makeLike 22 1 2 25 := ⟨9, by decide +kernel, f_X1_9, rfl⟩
theorem d1_makeLike_25 : Dc m1_makeLike 25 (.iconst 0) 1 26 := ⟨by decide +kernel, rfl⟩
theorem d1_makeLike_26 : Dc m1_makeLike 26 (.iconst 3) 1 27 := ⟨by decide +kernel, rfl⟩
theorem d1_makeLike_27 : Dac m1_makeLike 27 30 := ⟨31, by decide +kernel, ac_X1_31, ac_n, ac_s, ac_i, rfl⟩
theorem d1_makeLike_30 : Dal m1_makeLike 30 1 31 := Or.inl ⟨1, by decide +kernel, rfl, rfl⟩
theorem d1_makeLike_31 : Dgf m1_makeLike 31 1 3 34 := ⟨15, by decide +kernel, f_X1_15, rfl⟩
theorem d1_makeLike_34 : Dc m1_makeLike 34 (.iconst 0) 1 35 := ⟨by decide +kernel, rfl⟩
theorem d1_makeLike_35 : Dal m1_makeLike 35 0 36 := Or.inl ⟨0, by decide +kernel, rfl, rfl⟩
theorem d1_makeLike_36 : Dgf m1_makeLike 36 1 3 39 := ⟨15, by decide +kernel, f_X1_15, rfl⟩
theorem d1_makeLike_39 : Dc m1_makeLike 39 (.iconst 0) 1 40 := ⟨by decide +kernel, rfl⟩
theorem d1_makeLike_40 : Dc m1_makeLike 40 (.iconst 3) 1 41 := ⟨by decide +kernel, rfl⟩
theorem d1_makeLike_41 : Dac m1_makeLike 41 44 := ⟨31, by decide +kernel, ac_X1_31, ac_n, ac_s, ac_i, rfl⟩
theorem d1_makeLike_44 : mR m1_makeLike = none ∧ decode (mB m1_makeLike) 44 = .ok (.return_, 1) := ⟨rfl, by decide +kernel⟩
theorem d1_comeFrom_0 : Dil m1_comeFrom 0 2 1 := Or.inl ⟨2, by decide +kernel, rfl, rfl⟩
theorem d1_comeFrom_1 : Dis m1_comeFrom 1 3 2 := Or.inl ⟨3, by decide +kernel, rfl, rfl⟩
theorem d1_comeFrom_2 : Dc m1_comeFrom 2 (.iconst 0) 1 3 := ⟨by decide +kernel, rfl⟩
theorem d1_comeFrom_3 : Dis m1_comeFrom 3 4 5 := Or.inr ⟨by decide +kernel, rfl⟩
theorem d1_comeFrom_5 : Dil m1_comeFrom 5 4 7 := Or.inr ⟨by decide +kernel, rfl⟩
theorem d1_comeFrom_7 : Dc m1_comeFrom 7 (.bipush 60) 2 9 := ⟨by decide +kernel, rfl⟩
theorem d1_comeFrom_9 : Dic m1_comeFrom 9 .ge 33 12 := ⟨(24), by decide +kernel, by decide, rfl⟩
theorem d1_comeFrom_12 : Dal m1_comeFrom 12 1 13 := Or.inl ⟨1, by decide +kernel, rfl, rfl⟩
theorem d1_comeFrom_13 : Dil m1_comeFrom 13 3 14 := Or.inl ⟨3, by decide +kernel, rfl, rfl⟩
theorem d1_comeFrom_14 : Div m1_comeFrom 14 m3_isShown 1 17 := ⟨37, by decide +kernel, lk_X1_37, v_3_isShown, rfl⟩
theorem d1_comeFrom_17 : Dif m1_comeFrom 17 .ne 33 20 := ⟨(16), by decide +kernel, by decide, rfl⟩
theorem d1_comeFrom_20 : Dal m1_comeFrom 20 0 21 := Or.inl ⟨0, by decide +kernel, rfl, rfl⟩
theorem d1_comeFrom_21 : Dal m1_comeFrom 21 1 22 := Or.inl ⟨1, by decide +kernel, rfl, rfl⟩
theorem d1_comeFrom_22 : Dil m1_comeFrom 22 3 23 := Or.inl ⟨3, by decide +kernel, rfl, rfl⟩
theorem d1_comeFrom_23 : Div m1_comeFrom 23 m1_carryOut 2 26 := ⟨43, by decide +kernel, lk_X1_43, v_1_carryOut, rfl⟩
theorem d1_comeFrom_26 : Dis m1_comeFrom 26 3 27 := Or.inl ⟨3, by decide +kernel, rfl, rfl⟩
theorem d1_comeFrom_27 : Dc m1_comeFrom 27 (.iinc 4 1) 3 30 := ⟨by decide +kernel, rfl⟩
theorem d1_comeFrom_30 : Dgo m1_comeFrom 30 5 := ⟨(-25), by decide +kernel, by decide⟩
theorem d1_comeFrom_33 : Dal m1_comeFrom 33 0 34 := Or.inl ⟨0, by decide +kernel, rfl, rfl⟩
theorem d1_comeFrom_34 : Dal m1_comeFrom 34 1 35 := Or.inl ⟨1, by decide +kernel, rfl, rfl⟩
theorem d1_comeFrom_35 : Dil m1_comeFrom 35 3 36 := Or.inl ⟨3, by decide +kernel, rfl, rfl⟩
theorem d1_comeFrom_36 : Div m1_comeFrom 36 m3_isShown 1 39 := ⟨37, by decide +kernel, lk_X1_37, v_3_isShown, rfl⟩
theorem d1_comeFrom_39 : Dif m1_comeFrom 39 .eq 46 42 := ⟨(7), by decide +kernel, by decide, rfl⟩
theorem d1_comeFrom_42 : Dil m1_comeFrom 42 3 43 := Or.inl ⟨3, by decide +kernel, rfl, rfl⟩
theorem d1_comeFrom_43 : Dgo m1_comeFrom 43 48 := ⟨5, by decide +kernel, by decide⟩
theorem d1_comeFrom_46 : Dc m1_comeFrom 46 (.bipush 30) 2 48 := ⟨by decide +kernel, rfl⟩
theorem d1_comeFrom_48 : Dpf m1_comeFrom 48 1 0 .int false 51 := ⟨18, by decide +kernel, f_X1_18, p_X1_X1_0, rfl⟩
theorem d1_comeFrom_51 : mR m1_comeFrom = none ∧ decode (mB m1_comeFrom) 51 = .ok (.return_, 1) := ⟨rfl, by decide +kernel⟩
theorem d1_carryOut_0 : Dal m1_carryOut 0 1 1 := Or.inl ⟨1, by decide +kernel, rfl, rfl⟩
theorem d1_carryOut_1 : Dil m1_carryOut 1 2 2 := Or.inl ⟨2, by decide +kernel, rfl, rfl⟩
theorem d1_carryOut_2 : Dc m1_carryOut 2 (.iconst 0) 1 3 := ⟨by decide +kernel, rfl⟩
theorem d1_carryOut_3 : Div m1_carryOut 3 m3_numberOf 2 6 := ⟨47, by decide +kernel, lk_X1_47, v_3_numberOf, rfl⟩
theorem d1_carryOut_6 : Dis m1_carryOut 6 3 7 := Or.inl ⟨3, by decide +kernel, rfl, rfl⟩
theorem d1_carryOut_7 : Dal m1_carryOut 7 1 8 := Or.inl ⟨1, by decide +kernel, rfl, rfl⟩
theorem d1_carryOut_8 : Dil m1_carryOut 8 2 9 := Or.inl ⟨2, by decide +kernel, rfl, rfl⟩
theorem d1_carryOut_9 : Dc m1_carryOut 9 (.iconst 1) 1 10 := ⟨by decide +kernel, rfl⟩
theorem d1_carryOut_10 : Div m1_carryOut 10 m3_numberOf 2 13 := ⟨47, by decide +kernel, lk_X1_47, v_3_numberOf, rfl⟩
theorem d1_carryOut_13 : Dis m1_carryOut 13 4 15 := Or.inr ⟨by decide +kernel, rfl⟩
theorem d1_carryOut_15 : Dal m1_carryOut 15 1 16 := Or.inl ⟨1, by decide +kernel, rfl, rfl⟩
theorem d1_carryOut_16 : Dil m1_carryOut 16 2 17 := Or.inl ⟨2, by decide +kernel, rfl, rfl⟩
theorem d1_carryOut_17 : Div m1_carryOut 17 m3_kindOf 1 20 := ⟨51, by decide +kernel, lk_X1_51, v_3_kindOf, rfl⟩
theorem d1_carryOut_20 : Dts m1_carryOut 20 1 [56, 73, 82, 117, 119] 140 := ⟨120, 5, #[36, 53, 62, 97, 99], 36, by decide +kernel, by decide, by decide, rfl, by decide⟩
theorem d1_carryOut_56 : Dal m1_carryOut 56 0 57 := Or.inl ⟨0, by decide +kernel, rfl, rfl⟩
theorem d1_carryOut_57 : Dil m1_carryOut 57 4 59 := Or.inr ⟨by decide +kernel, rfl⟩
theorem d1_carryOut_59 : Dil m1_carryOut 59 3 60 := Or.inl ⟨3, by decide +kernel, rfl, rfl⟩
theorem d1_carryOut_60 : Dal m1_carryOut 60 1 61 := Or.inl ⟨1, by decide +kernel, rfl, rfl⟩
theorem d1_carryOut_61 : Dil m1_carryOut 61 2 62 := Or.inl ⟨2, by decide +kernel, rfl, rfl⟩
theorem d1_carryOut_62 : Dc m1_carryOut 62 (.iconst 2) 1 63 := ⟨by decide +kernel, rfl⟩
theorem d1_carryOut_63 : Div m1_carryOut 63 m3_numberOf 2 66 := ⟨47, by decide +kernel, lk_X1_47, v_3_numberOf, rfl⟩
theorem d1_carryOut_66 : Div m1_carryOut 66 m1_putAt 3 69 := ⟨55, by decide +kernel, lk_X1_55, v_1_putAt, rfl⟩
theorem d1_carryOut_69 : Dil m1_carryOut 69 2 70 := Or.inl ⟨2, by decide +kernel, rfl, rfl⟩
theorem d1_carryOut_70 : Dc m1_carryOut 70 (.iconst 1) 1 71 := ⟨by decide +kernel, rfl⟩
theorem d1_carryOut_71 : Dc m1_carryOut 71 .iadd 1 72 := ⟨by decide +kernel, rfl⟩
theorem d1_carryOut_72 : mR m1_carryOut = some .int ∧ decode (mB m1_carryOut) 72 = .ok (.ireturn, 1) := ⟨rfl, by decide +kernel⟩
theorem d1_carryOut_73 : Dal m1_carryOut 73 0 74 := Or.inl ⟨0, by decide +kernel, rfl, rfl⟩
theorem d1_carryOut_74 : Dil m1_carryOut 74 3 75 := Or.inl ⟨3, by decide +kernel, rfl, rfl⟩
theorem d1_carryOut_75 : Div m1_carryOut 75 m1_hide 1 78 := ⟨59, by decide +kernel, lk_X1_59, v_1_hide, rfl⟩
theorem d1_carryOut_78 : Dil m1_carryOut 78 2 79 := Or.inl ⟨2, by decide +kernel, rfl, rfl⟩
theorem d1_carryOut_79 : Dc m1_carryOut 79 (.iconst 1) 1 80 := ⟨by decide +kernel, rfl⟩
theorem d1_carryOut_80 : Dc m1_carryOut 80 .iadd 1 81 := ⟨by decide +kernel, rfl⟩
theorem d1_carryOut_81 : mR m1_carryOut = some .int ∧ decode (mB m1_carryOut) 81 = .ok (.ireturn, 1) := ⟨rfl, by decide +kernel⟩
theorem d1_carryOut_82 : Dal m1_carryOut 82 0 83 := Or.inl ⟨0, by decide +kernel, rfl, rfl⟩
theorem d1_carryOut_83 : Dil m1_carryOut 83 4 85 := Or.inr ⟨by decide +kernel, rfl⟩
theorem d1_carryOut_85 : Dc m1_carryOut 85 (.iconst 1) 1 86 := ⟨by decide +kernel, rfl⟩
theorem d1_carryOut_86 : Dic m1_carryOut 86 .ne 100 89 := ⟨(14), by decide +kernel, by decide, rfl⟩
theorem d1_carryOut_89 : Dal m1_carryOut 89 0 90 := Or.inl ⟨0, by decide +kernel, rfl, rfl⟩
theorem d1_carryOut_90 : Dgf m1_carryOut 90 1 1 93 := ⟨22, by decide +kernel, f_X1_22, rfl⟩
theorem d1_carryOut_93 : Dc m1_carryOut 93 (.iconst 1) 1 94 := ⟨by decide +kernel, rfl⟩
theorem d1_carryOut_94 : Dil m1_carryOut 94 3 95 := Or.inl ⟨3, by decide +kernel, rfl, rfl⟩
theorem d1_carryOut_95 : Dc m1_carryOut 95 .ishl 1 96 := ⟨by decide +kernel, rfl⟩
theorem d1_carryOut_96 : Dc m1_carryOut 96 .ior 1 97 := ⟨by decide +kernel, rfl⟩
theorem d1_carryOut_97 : Dgo m1_carryOut 97 110 := ⟨13, by decide +kernel, by decide⟩
theorem d1_carryOut_100 : Dal m1_carryOut 100 0 101 := Or.inl ⟨0, by decide +kernel, rfl, rfl⟩
theorem d1_carryOut_101 : Dgf m1_carryOut 101 1 1 104 := ⟨22, by decide +kernel, f_X1_22, rfl⟩
theorem d1_carryOut_104 : Dc m1_carryOut 104 (.iconst 1) 1 105 := ⟨by decide +kernel, rfl⟩
theorem d1_carryOut_105 : Dil m1_carryOut 105 3 106 := Or.inl ⟨3, by decide +kernel, rfl, rfl⟩
theorem d1_carryOut_106 : Dc m1_carryOut 106 .ishl 1 107 := ⟨by decide +kernel, rfl⟩
theorem d1_carryOut_107 : Dc m1_carryOut 107 (.iconst (-1)) 1 108 := ⟨by decide +kernel, rfl⟩
theorem d1_carryOut_108 : Dc m1_carryOut 108 .ixor 1 109 := ⟨by decide +kernel, rfl⟩
theorem d1_carryOut_109 : Dc m1_carryOut 109 .iand 1 110 := ⟨by decide +kernel, rfl⟩
theorem d1_carryOut_110 : Dpf m1_carryOut 110 1 1 .int false 113 := ⟨22, by decide +kernel, f_X1_22, p_X1_X1_1, rfl⟩
theorem d1_carryOut_113 : Dil m1_carryOut 113 2 114 := Or.inl ⟨2, by decide +kernel, rfl, rfl⟩
theorem d1_carryOut_114 : Dc m1_carryOut 114 (.iconst 1) 1 115 := ⟨by decide +kernel, rfl⟩
theorem d1_carryOut_115 : Dc m1_carryOut 115 .iadd 1 116 := ⟨by decide +kernel, rfl⟩
theorem d1_carryOut_116 : mR m1_carryOut = some .int ∧ decode (mB m1_carryOut) 116 = .ok (.ireturn, 1) := ⟨rfl, by decide +kernel⟩
theorem d1_carryOut_117 : Dil m1_carryOut 117 3 118 := Or.inl ⟨3, by decide +kernel, rfl, rfl⟩
theorem d1_carryOut_118 : mR m1_carryOut = some .int ∧ decode (mB m1_carryOut) 118 = .ok (.ireturn, 1) := ⟨rfl, by decide +kernel⟩
theorem d1_carryOut_119 : Dal m1_carryOut 119 0 120 := Or.inl ⟨0, by decide +kernel, rfl, rfl⟩
theorem d1_carryOut_120 : Dgf m1_carryOut 120 1 1 123 := ⟨22, by decide +kernel, f_X1_22, rfl⟩
theorem d1_carryOut_123 : Dil m1_carryOut 123 3 124 := Or.inl ⟨3, by decide +kernel, rfl, rfl⟩
theorem d1_carryOut_124 : Dc m1_carryOut 124 .ishr 1 125 := ⟨by decide +kernel, rfl⟩
theorem d1_carryOut_125 : Dc m1_carryOut 125 (.iconst 1) 1 126 := ⟨by decide +kernel, rfl⟩
theorem d1_carryOut_126 : Dc m1_carryOut 126 .iand 1 127 := ⟨by decide +kernel, rfl⟩
theorem d1_carryOut_127 : Dc m1_carryOut 127 (.iconst 1) 1 128 := ⟨by decide +kernel, rfl⟩
theorem d1_carryOut_128 : Dic m1_carryOut 128 .ne 136 131 := ⟨(8), by decide +kernel, by decide, rfl⟩
theorem d1_carryOut_131 : Dil m1_carryOut 131 4 133 := Or.inr ⟨by decide +kernel, rfl⟩
theorem d1_carryOut_133 : Dgo m1_carryOut 133 139 := ⟨6, by decide +kernel, by decide⟩
theorem d1_carryOut_136 : Dil m1_carryOut 136 2 137 := Or.inl ⟨2, by decide +kernel, rfl, rfl⟩
theorem d1_carryOut_137 : Dc m1_carryOut 137 (.iconst 1) 1 138 := ⟨by decide +kernel, rfl⟩
theorem d1_carryOut_138 : Dc m1_carryOut 138 .iadd 1 139 := ⟨by decide +kernel, rfl⟩
theorem d1_carryOut_139 : mR m1_carryOut = some .int ∧ decode (mB m1_carryOut) 139 = .ok (.ireturn, 1) := ⟨rfl, by decide +kernel⟩
theorem d1_carryOut_140 : Dil m1_carryOut 140 2 141 := Or.inl ⟨2, by decide +kernel, rfl, rfl⟩
theorem d1_carryOut_141 : Dc m1_carryOut 141 (.iconst 1) 1 142 := ⟨by decide +kernel, rfl⟩
theorem d1_carryOut_142 : Dc m1_carryOut 142 .iadd 1 143 := ⟨by decide +kernel, rfl⟩
theorem d1_carryOut_143 : mR m1_carryOut = some .int ∧ decode (mB m1_carryOut) 143 = .ok (.ireturn, 1) := ⟨rfl, by decide +kernel⟩
theorem d1_putAt_0 : Dal m1_putAt 0 0 1 := Or.inl ⟨0, by decide +kernel, rfl, rfl⟩
theorem d1_putAt_1 : Dil m1_putAt 1 2 2 := Or.inl ⟨2, by decide +kernel, rfl, rfl⟩
theorem d1_putAt_2 : Div m1_putAt 2 m1_hide 1 5 := ⟨59, by decide +kernel, lk_X1_59, v_1_hide, rfl⟩
theorem d1_putAt_5 : Dil m1_putAt 5 1 6 := Or.inl ⟨1, by decide +kernel, rfl, rfl⟩
theorem d1_putAt_6 : Dif m1_putAt 6 .lt 28 9 := ⟨(22), by decide +kernel, by decide, rfl⟩
theorem d1_putAt_9 : Dil m1_putAt 9 1 10 := Or.inl ⟨1, by decide +kernel, rfl, rfl⟩
theorem d1_putAt_10 : Dc m1_putAt 10 (.iconst 3) 1 11 := ⟨by decide +kernel, rfl⟩
theorem d1_putAt_11 : Dic m1_putAt 11 .ge 28 14 := ⟨(17), by decide +kernel, by decide, rfl⟩
theorem d1_putAt_14 : Dal m1_putAt 14 0 15 := Or.inl ⟨0, by decide +kernel, rfl, rfl⟩
theorem d1_putAt_15 : Dgf m1_putAt 15 1 2 18 := ⟨9, by decide +kernel, f_X1_9, rfl⟩
theorem d1_putAt_18 : Dil m1_putAt 18 1 19 := Or.inl ⟨1, by decide +kernel, rfl, rfl⟩
theorem d1_putAt_19 : Dil m1_putAt 19 2 20 := Or.inl ⟨2, by decide +kernel, rfl, rfl⟩
theorem d1_putAt_20 : Dc m1_putAt 20 .iastore 1 21 := ⟨by decide +kernel, rfl⟩
theorem d1_putAt_21 : Dal m1_putAt 21 0 22 := Or.inl ⟨0, by decide +kernel, rfl, rfl⟩
theorem d1_putAt_22 : Dgf m1_putAt 22 1 3 25 := ⟨15, by decide +kernel, f_X1_15, rfl⟩
theorem d1_putAt_25 : Dil m1_putAt 25 1 26 := Or.inl ⟨1, by decide +kernel, rfl, rfl⟩
theorem d1_putAt_26 : Dil m1_putAt 26 3 27 := Or.inl ⟨3, by decide +kernel, rfl, rfl⟩
theorem d1_putAt_27 : Dc m1_putAt 27 .iastore 1 28 := ⟨by decide +kernel, rfl⟩
theorem d1_putAt_28 : mR m1_putAt = none ∧ decode (mB m1_putAt) 28 = .ok (.return_, 1) := ⟨rfl, by decide +kernel⟩
theorem d1_hide_0 : Dc m1_hide 0 (.iconst 0) 1 1 := ⟨by decide +kernel, rfl⟩
theorem d1_hide_1 : Dis m1_hide 1 2 2 := Or.inl ⟨2, by decide +kernel, rfl, rfl⟩
theorem d1_hide_2 : Dil m1_hide 2 2 3 := Or.inl ⟨2, by decide +kernel, rfl, rfl⟩
theorem d1_hide_3 : Dc m1_hide 3 (.iconst 3) 1 4 := ⟨by decide +kernel, rfl⟩
theorem d1_hide_4 : Dic m1_hide 4 .ge 39 7 := ⟨(35), by decide +kernel, by decide, rfl⟩
theorem d1_hide_7 : Dal m1_hide 7 0 8 := Or.inl ⟨0, by decide +kernel, rfl, rfl⟩
theorem d1_hide_8 : Dgf m1_hide 8 1 2 11 := ⟨9, by decide +kernel, f_X1_9, rfl⟩
theorem d1_hide_11 : Dil m1_hide 11 2 12 := Or.inl ⟨2, by decide +kernel, rfl, rfl⟩
theorem d1_hide_12 : Dc m1_hide 12 .iaload 1 13 := ⟨by decide +kernel, rfl⟩
theorem d1_hide_13 : Dil m1_hide 13 1 14 := Or.inl ⟨1, by decide +kernel, rfl, rfl⟩
theorem d1_hide_14 : Dic m1_hide 14 .ne 33 17 := ⟨(19), by decide +kernel, by decide, rfl⟩
theorem d1_hide_17 : Dal m1_hide 17 0 18 := Or.inl ⟨0, by decide +kernel, rfl, rfl⟩
theorem d1_hide_18 : Dgf m1_hide 18 1 2 21 := ⟨9, by decide +kernel, f_X1_9, rfl⟩
theorem d1_hide_21 : Dil m1_hide 21 2 22 := Or.inl ⟨2, by decide +kernel, rfl, rfl⟩
theorem d1_hide_22 : Dc m1_hide 22 (.bipush (-11)) 2 24 := ⟨by decide +kernel, rfl⟩
theorem d1_hide_24 : Dc m1_hide 24 .iastore 1 25 := ⟨by decide +kernel, rfl⟩
theorem d1_hide_25 : Dal m1_hide 25 0 26 := Or.inl ⟨0, by decide +kernel, rfl, rfl⟩
theorem d1_hide_26 : Dgf m1_hide 26 1 3 29 := ⟨15, by decide +kernel, f_X1_15, rfl⟩
theorem d1_hide_29 : Dil m1_hide 29 2 30 := Or.inl ⟨2, by decide +kernel, rfl, rfl⟩
theorem d1_hide_30 : Dc m1_hide 30 (.bipush (-11)) 2 32 := ⟨by decide +kernel, rfl⟩
theorem d1_hide_32 : Dc m1_hide 32 .iastore 1 33 := ⟨by decide +kernel, rfl⟩
theorem d1_hide_33 : Dc m1_hide 33 (.iinc 2 1) 3 36 := ⟨by decide +kernel, rfl⟩
theorem d1_hide_36 : Dgo m1_hide 36 2 := ⟨(-34), by decide +kernel, by decide⟩
theorem d1_hide_39 : mR m1_hide = none ∧ decode (mB m1_hide) 39 = .ok (.return_, 1) := ⟨rfl, by decide +kernel⟩
end
section
/-! ===== decode rows of X4 ===== -/
theorem d4_init_0 : Dal m4_init 0 0 1 := Or.inl ⟨0, by decide +kernel, rfl, rfl⟩
theorem d4_init_1 : Doi m4_init 1 4 := ⟨3, by decide +kernel, oi_X4_3, oi_i, oi_c, rfl⟩
theorem d4_init_4 : Dal m4_init 4 0 5 := Or.inl ⟨0, by decide +kernel, rfl, rfl⟩
theorem d4_init_5 : Dc m4_init 5 (.bipush 100) 2 7 := ⟨by decide +kernel, rfl⟩
theorem d4_init_7 : Dna m4_init 7 1 9 := ⟨.byte, by decide +kernel, rfl, na_byte, rfl, by decide, ⟨by decide, by decide⟩, rfl⟩
theorem d4_init_9 : Dpf m4_init 9 4 1 (.array .byte) true 12 := ⟨9, by decide +kernel, f_X4_9, p_X4_X4_1, rfl⟩
theorem d4_init_12 : Dal m4_init 12 0 13 := Or.inl ⟨0, by decide +kernel, rfl, rfl⟩
theorem d4_init_13 : Dnew m4_init 13 3 6 [vI 0, vN, vN, vN, vN, vN] 16 := ⟨15, RX3, TX3, tyX3, by decide +kernel, rfl, inGX3, tyX3_ok, tG_of (List.mem_of_getElem? (i := 93) (by decide +kernel)) (by decide +kernel), tG_of (List.mem_of_getElem? (i := 94) (by decide +kernel)) (by decide +kernel), tG_of (List.mem_of_getElem? (i := 66) (by decide +kernel)) (by decide +kernel), nw_X3.1, nw_X3.2, rfl⟩
theorem d4_init_16 : Dc m4_init 16 .dup 1 17 := ⟨by decide +kernel, rfl⟩
theorem d4_init_17 : Dii m4_init 17 m3_init 20 := ⟨17, by decide +kernel, ok_3_init, (Or.inr ⟨RX5, by decide +kernel⟩), by decide +kernel, by decide, rfl, i_3_init, rfl, rfl⟩
theorem d4_init_20 : Dpf m4_init 20 4 2 (.object "PictureScript$Script") false 23 := ⟨18, by decide +kernel, f_X4_18, p_X4_X4_2, rfl⟩
theorem d4_init_23 : mR m4_init = none ∧ decode (mB m4_init) 23 = .ok (.return_, 1) := ⟨rfl, by decide +kernel⟩
theorem d4_append_0 : Dal m4_append 0 0 1 := Or.inl ⟨0, by decide +kernel, rfl, rfl⟩
theorem d4_append_1 : Dgf m4_append 1 4 0 4 := ⟨22, by decide +kernel, f_X4_22, rfl⟩
theorem d4_append_4 : Dif m4_append 4 .lt 16 7 := ⟨(12), by decide +kernel, by decide, rfl⟩
theorem d4_append_7 : Dal m4_append 7 0 8 := Or.inl ⟨0, by decide +kernel, rfl, rfl⟩
theorem d4_append_8 : Dgf m4_append 8 4 0 11 := ⟨22, by decide +kernel, f_X4_22, rfl⟩
theorem d4_append_11 : Dc m4_append 11 (.bipush 100) 2 13 := ⟨by decide +kernel, rfl⟩
theorem d4_append_13 : Dic m4_append 13 .lt 18 16 := ⟨(5), by decide +kernel, by decide, rfl⟩
theorem d4_append_16 : Dc m4_append 16 (.iconst 0) 1 17 := ⟨by decide +kernel, rfl⟩
theorem d4_append_17 : mR m4_append = some .boolean ∧ decode (mB m4_append) 17 = .ok (.ireturn, 1) := ⟨rfl, by decide +kernel⟩
theorem d4_append_18 : Dal m4_append 18 0 19 := Or.inl ⟨0, by decide +kernel, rfl, rfl⟩
theorem d4_append_19 : Dgf m4_append 19 4 1 22 := ⟨9, by decide +kernel, f_X4_9, rfl⟩
theorem d4_append_22 : Dal m4_append 22 0 23 := Or.inl ⟨0, by decide +kernel, rfl, rfl⟩
theorem d4_append_23 : Dgf m4_append 23 4 0 26 := ⟨22, by decide +kernel, f_X4_22, rfl⟩
theorem d4_append_26 : Dil m4_append 26 1 27 := Or.inl ⟨1, by decide +kernel, rfl, rfl⟩
theorem d4_append_27 : Dc m4_append 27 .bastore 1 28 := ⟨by decide +kernel, rfl⟩
theorem d4_append_28 : Dal m4_append 28 0 29 := Or.inl ⟨0, by decide +kernel, rfl, rfl⟩
theorem d4_append_29 : Dc m4_append 29 .dup 1 30 := ⟨by decide +kernel, rfl⟩
theorem d4_append_30 : Dgf m4_append 30 4 0 33 := ⟨22, by decide +kernel, f_X4_22, rfl⟩
theorem d4_append_33 : Dc m4_append 33 (.iconst 1) 1 34 := ⟨by decide +kernel, rfl⟩
theorem d4_append_34 : Dc m4_append 34 .iadd 1 35 := ⟨by decide +kernel, rfl⟩
theorem d4_append_35 : Dpf m4_append 35 4 0 .int false 38 := ⟨22, by decide +kernel, f_X4_22, p_X4_X4_0, rfl⟩
theorem d4_append_38 : Dc m4_append 38 (.iconst 1) 1 39 := ⟨by decide +kernel, rfl⟩
theorem d4_append_39 : mR m4_append = some .boolean ∧ decode (mB m4_append) 39 = .ok (.ireturn, 1) := ⟨rfl, by decide +kernel⟩
theorem d4_byteAt_0 : Dil m4_byteAt 0 1 1 := Or.inl ⟨1, by decide +kernel, rfl, rfl⟩
theorem d4_byteAt_1 : Dif m4_byteAt 1 .lt 27 4 := ⟨(26), by decide +kernel, by decide, rfl⟩
theorem d4_byteAt_4 : Dil m4_byteAt 4 1 5 := Or.inl ⟨1, by decide +kernel, rfl, rfl⟩
theorem d4_byteAt_5 : Dal m4_byteAt 5 0 6 := Or.inl ⟨0, by decide +kernel, rfl, rfl⟩
theorem d4_byteAt_6 : Dgf m4_byteAt 6 4 0 9 := ⟨22, by decide +kernel, f_X4_22, rfl⟩
theorem d4_byteAt_9 : Dic m4_byteAt 9 .ge 27 12 := ⟨(18), by decide +kernel, by decide, rfl⟩
theorem d4_byteAt_12 : Dil m4_byteAt 12 1 13 := Or.inl ⟨1, by decide +kernel, rfl, rfl⟩
theorem d4_byteAt_13 : Dc m4_byteAt 13 (.bipush 100) 2 15 := ⟨by decide +kernel, rfl⟩
theorem d4_byteAt_15 : Dic m4_byteAt 15 .ge 27 18 := ⟨(12), by decide +kernel, by decide, rfl⟩
theorem d4_byteAt_18 : Dal m4_byteAt 18 0 19 := Or.inl ⟨0, by decide +kernel, rfl, rfl⟩
theorem d4_byteAt_19 : Dgf m4_byteAt 19 4 1 22 := ⟨9, by decide +kernel, f_X4_9, rfl⟩
theorem d4_byteAt_22 : Dil m4_byteAt 22 1 23 := Or.inl ⟨1, by decide +kernel, rfl, rfl⟩
theorem d4_byteAt_23 : Dc m4_byteAt 23 .baload 1 24 := ⟨by decide +kernel, rfl⟩
theorem d4_byteAt_24 : Dgo m4_byteAt 24 28 := ⟨4, by decide +kernel, by decide⟩
theorem d4_byteAt_27 : Dc m4_byteAt 27 (.iconst 0) 1 28 := ⟨by decide +kernel, rfl⟩
theorem d4_byteAt_28 : mR m4_byteAt = some .int ∧ decode (mB m4_byteAt) 28 = .ok (.ireturn, 1) := ⟨rfl, by decide +kernel⟩
theorem d4_findFault_0 : Dal m4_findFault 0 0 1 := Or.inl ⟨0, by decide +kernel, rfl, rfl⟩
theorem d4_findFault_1 : Dc m4_findFault 1 (.iconst 0) 1 2 := ⟨by decide +kernel, rfl⟩
theorem d4_findFault_2 : Dpf m4_findFault 2 4 3 .int false 5 := ⟨26, by decide +kernel, f_X4_26, p_X4_X4_3, rfl⟩
theorem d4_findFault_5 : Dal m4_findFault 5 0 6 := Or.inl ⟨0, by decide +kernel, rfl, rfl⟩
theorem d4_findFault_6 : Dgf m4_findFault 6 4 2 9 := ⟨18, by decide +kernel, f_X4_18, rfl⟩
theorem d4_findFault_9 : Div m4_findFault 9 m3_clear 0 12 := ⟨29, by decide +kernel, lk_X4_29, v_3_clear, rfl⟩
theorem d4_findFault_12 : Dc m4_findFault 12 (.iconst 0) 1 13 := ⟨by decide +kernel, rfl⟩
theorem d4_findFault_13 : Dis m4_findFault 13 1 14 := Or.inl ⟨1, by decide +kernel, rfl, rfl⟩
theorem d4_findFault_14 : Dil m4_findFault 14 1 15 := Or.inl ⟨1, by decide +kernel, rfl, rfl⟩
theorem d4_findFault_15 : Dc m4_findFault 15 (.bipush 29) 2 17 := ⟨by decide +kernel, rfl⟩
theorem d4_findFault_17 : Dic m4_findFault 17 .ge 61 20 := ⟨(44), by decide +kernel, by decide, rfl⟩
theorem d4_findFault_20 : Dal m4_findFault 20 0 21 := Or.inl ⟨0, by decide +kernel, rfl, rfl⟩
theorem d4_findFault_21 : Div m4_findFault 21 m4_skipBlanks 0 24 := ⟨32, by decide +kernel, lk_X4_32, v_4_skipBlanks, rfl⟩
theorem d4_findFault_24 : Dal m4_findFault 24 0 25 := Or.inl ⟨0, by decide +kernel, rfl, rfl⟩
theorem d4_findFault_25 : Div m4_findFault 25 m4_isAtEnd 0 28 := ⟨35, by decide +kernel, lk_X4_35, v_4_isAtEnd, rfl⟩
theorem d4_findFault_28 : Dif m4_findFault 28 .eq 34 31 := ⟨(6), by decide +kernel, by decide, rfl⟩
theorem d4_findFault_31 : Dc m4_findFault 31 (.bipush (-11)) 2 33 := ⟨by decide +kernel, rfl⟩
theorem d4_findFault_33 : mR m4_findFault = some .int ∧ decode (mB m4_findFault) 33 = .ok (.ireturn, 1) := ⟨rfl, by decide +kernel⟩
theorem d4_findFault_34 : Dal m4_findFault 34 0 35 := Or.inl ⟨0, by decide +kernel, rfl, rfl⟩
theorem d4_findFault_35 : Div m4_findFault 35 m4_takeNode 0 38 := ⟨39, by decide +kernel, lk_X4_39, v_4_takeNode, rfl⟩
theorem d4_findFault_38 : Dif m4_findFault 38 .eq 50 41 := ⟨(12), by decide +kernel, by decide, rfl⟩
theorem d4_findFault_41 : Dal m4_findFault 41 0 42 := Or.inl ⟨0, by decide +kernel, rfl, rfl⟩
theorem d4_findFault_42 : Dc m4_findFault 42 (.bipush 59) 2 44 := ⟨by decide +kernel, rfl⟩
theorem d4_findFault_44 : Div m4_findFault 44 m4_takeSign 1 47 := ⟨42, by decide +kernel, lk_X4_42, v_4_takeSign, rfl⟩
theorem d4_findFault_47 : Dif m4_findFault 47 .ne 55 50 := ⟨(8), by decide +kernel, by decide, rfl⟩
theorem d4_findFault_50 : Dal m4_findFault 50 0 51 := Or.inl ⟨0, by decide +kernel, rfl, rfl⟩
theorem d4_findFault_51 : Dgf m4_findFault 51 4 3 54 := ⟨26, by decide +kernel, f_X4_26, rfl⟩
theorem d4_findFault_54 : mR m4_findFault = some .int ∧ decode (mB m4_findFault) 54 = .ok (.ireturn, 1) := ⟨rfl, by decide +kernel⟩
theorem d4_findFault_55 : Dc m4_findFault 55 (.iinc 1 1) 3 58 := ⟨by decide +kernel, rfl⟩
theorem d4_findFault_58 : Dgo m4_findFault 58 14 := ⟨(-44), by decide +kernel, by decide⟩
theorem d4_findFault_61 : Dal m4_findFault 61 0 62 := Or.inl ⟨0, by decide +kernel, rfl, rfl⟩
theorem d4_findFault_62 : Div m4_findFault 62 m4_skipBlanks 0 65 := ⟨32, by decide +kernel, lk_X4_32, v_4_skipBlanks, rfl⟩
theorem d4_findFault_65 : Dal m4_findFault 65 0 66 := Or.inl ⟨0, by decide +kernel, rfl, rfl⟩
theorem d4_findFault_66 : Div m4_findFault 66 m4_isAtEnd 0 69 := ⟨35, by decide +kernel, lk_X4_35, v_4_isAtEnd, rfl⟩
theorem d4_findFault_69 : Dif m4_findFault 69 .eq 77 72 := ⟨(8), by decide +kernel, by decide, rfl⟩
theorem d4_findFault_72 : Dc m4_findFault 72 (.bipush (-11)) 2 74 := ⟨by decide +kernel, rfl⟩
theorem d4_findFault_74 : Dgo m4_findFault 74 81 := ⟨7, by decide +kernel, by decide⟩
theorem d4_findFault_77 : Dal m4_findFault 77 0 78 := Or.inl ⟨0, by decide +kernel, rfl, rfl⟩
theorem d4_findFault_78 : Dgf m4_findFault 78 4 3 81 := ⟨26, by decide +kernel, f_X4_26, rfl⟩
theorem d4_findFault_81 : mR m4_findFault = some .int ∧ decode (mB m4_findFault) 81 = .ok (.ireturn, 1) := ⟨rfl, by decide +kernel⟩
theorem d4_takeNode_0 : Dst m4_takeNode 0 2 := ⟨by decide +kernel, rfl, rfl⟩
theorem d4_takeNode_2 : Dal m4_takeNode 2 0 3 := Or.inl ⟨0, by decide +kernel, rfl, rfl⟩
theorem d4_takeNode_3 : Div m4_takeNode 3 m4_here 0 6 := ⟨48, by decide +kernel, lk_X4_48, v_4_here, rfl⟩
theorem d4_takeNode_6 : Dc m4_takeNode 6 .i2c 1 7 := ⟨by decide +kernel, rfl⟩
theorem d4_takeNode_10 : Dis m4_takeNode 10 1 11 := Or.inl ⟨1, by decide +kernel, rfl, rfl⟩
theorem d4_takeNode_11 : Dil m4_takeNode 11 1 12 := Or.inl ⟨1, by decide +kernel, rfl, rfl⟩
theorem d4_takeNode_12 : Dc m4_takeNode 12 (.iconst (-1)) 1 13 := ⟨by decide +kernel, rfl⟩
theorem d4_takeNode_13 : Dic m4_takeNode 13 .ne 18 16 := ⟨(5), by decide +kernel, by decide, rfl⟩
theorem d4_takeNode_16 : Dc m4_takeNode 16 (.iconst 0) 1 17 := ⟨by decide +kernel, rfl⟩
theorem d4_takeNode_17 : mR m4_takeNode = some .boolean ∧ decode (mB m4_takeNode) 17 = .ok (.ireturn, 1) := ⟨rfl, by decide +kernel⟩
theorem d4_takeNode_18 : Dal m4_takeNode 18 0 19 := Or.inl ⟨0, by decide +kernel, rfl, rfl⟩
theorem d4_takeNode_19 : Dc m4_takeNode 19 .dup 1 20 := ⟨by decide +kernel, rfl⟩
theorem d4_takeNode_20 : Dgf m4_takeNode 20 4 3 23 := ⟨26, by decide +kernel, f_X4_26, rfl⟩
theorem d4_takeNode_23 : Dc m4_takeNode 23 (.iconst 1) 1 24 := ⟨by decide +kernel, rfl⟩
theorem d4_takeNode_24 : Dc m4_takeNode 24 .iadd 1 25 := ⟨by decide +kernel, rfl⟩
theorem d4_takeNode_25 : Dpf m4_takeNode 25 4 3 .int false 28 := ⟨26, by decide +kernel, f_X4_26, p_X4_X4_3, rfl⟩
theorem d4_takeNode_28 : Dal m4_takeNode 28 0 29 := Or.inl ⟨0, by decide +kernel, rfl, rfl⟩
theorem d4_takeNode_29 : Dgf m4_takeNode 29 4 2 32 := ⟨18, by decide +kernel, f_X4_18, rfl⟩
theorem d4_takeNode_32 : Dil m4_takeNode 32 1 33 := Or.inl ⟨1, by decide +kernel, rfl, rfl⟩
theorem d4_takeNode_33 : Div m4_takeNode 33 m3_addNode 1 36 := ⟨58, by decide +kernel, lk_X4_58, v_3_addNode, rfl⟩
theorem d4_takeNode_36 : Dil m4_takeNode 36 1 37 := Or.inl ⟨1, by decide +kernel, rfl, rfl⟩
theorem d4_takeNode_37 : Dts m4_takeNode 37 0 [80, 102, 131, 136, 157, 164, 187] 192 := ⟨155, 6, #[43, 65, 94, 99, 120, 127, 150], 43, by decide +kernel, by decide, by decide, rfl, by decide⟩
theorem d4_takeNode_80 : Dal m4_takeNode 80 0 81 := Or.inl ⟨0, by decide +kernel, rfl, rfl⟩
theorem d4_takeNode_81 : Div m4_takeNode 81 m4_addVoice 0 84 := ⟨62, by decide +kernel, lk_X4_62, v_4_addVoice, rfl⟩
theorem d4_takeNode_84 : Dif m4_takeNode 84 .eq 100 87 := ⟨(16), by decide +kernel, by decide, rfl⟩
theorem d4_takeNode_87 : Dal m4_takeNode 87 0 88 := Or.inl ⟨0, by decide +kernel, rfl, rfl⟩
theorem d4_takeNode_88 : Dc m4_takeNode 88 (.bipush 99) 2 90 := ⟨by decide +kernel, rfl⟩
theorem d4_takeNode_90 : Div m4_takeNode 90 m4_addNumber 1 93 := ⟨65, by decide +kernel, lk_X4_65, v_4_addNumber, rfl⟩
theorem d4_takeNode_93 : Dif m4_takeNode 93 .eq 100 96 := ⟨(7), by decide +kernel, by decide, rfl⟩
theorem d4_takeNode_96 : Dc m4_takeNode 96 (.iconst 1) 1 97 := ⟨by decide +kernel, rfl⟩
theorem d4_takeNode_97 : Dgo m4_takeNode 97 101 := ⟨4, by decide +kernel, by decide⟩
theorem d4_takeNode_100 : Dc m4_takeNode 100 (.iconst 0) 1 101 := ⟨by decide +kernel, rfl⟩
theorem d4_takeNode_101 : mR m4_takeNode = some .boolean ∧ decode (mB m4_takeNode) 101 = .ok (.ireturn, 1) := ⟨rfl, by decide +kernel⟩
theorem d4_takeNode_102 : Dal m4_takeNode 102 0 103 := Or.inl ⟨0, by decide +kernel, rfl, rfl⟩
theorem d4_takeNode_103 : Div m4_takeNode 103 m4_addVoice 0 106 := ⟨62, by decide +kernel, lk_X4_62, v_4_addVoice, rfl⟩
theorem d4_takeNode_106 : Dif m4_takeNode 106 .eq 129 109 := ⟨(23), by decide +kernel, by decide, rfl⟩
theorem d4_takeNode_109 : Dal m4_takeNode 109 0 110 := Or.inl ⟨0, by decide +kernel, rfl, rfl⟩
theorem d4_takeNode_110 : Dc m4_takeNode 110 (.iconst 2) 1 111 := ⟨by decide +kernel, rfl⟩
theorem d4_takeNode_111 : Div m4_takeNode 111 m4_addDigit 1 114 := ⟨69, by decide +kernel, lk_X4_69, v_4_addDigit, rfl⟩
theorem d4_takeNode_114 : Dif m4_takeNode 114 .eq 129 117 := ⟨(15), by decide +kernel, by decide, rfl⟩
theorem d4_takeNode_117 : Dal m4_takeNode 117 0 118 := Or.inl ⟨0, by decide +kernel, rfl, rfl⟩
theorem d4_takeNode_118 : Dc m4_takeNode 118 (.iconst 4) 1 119 := ⟨by decide +kernel, rfl⟩
theorem d4_takeNode_119 : Div m4_takeNode 119 m4_addDigit 1 122 := ⟨69, by decide +kernel, lk_X4_69, v_4_addDigit, rfl⟩
theorem d4_takeNode_122 : Dif m4_takeNode 122 .eq 129 125 := ⟨(7), by decide +kernel, by decide, rfl⟩
theorem d4_takeNode_125 : Dc m4_takeNode 125 (.iconst 1) 1 126 := ⟨by decide +kernel, rfl⟩
theorem d4_takeNode_126 : Dgo m4_takeNode 126 130 := ⟨4, by decide +kernel, by decide⟩
theorem d4_takeNode_129 : Dc m4_takeNode 129 (.iconst 0) 1 130 := ⟨by decide +kernel, rfl⟩
theorem d4_takeNode_130 : mR m4_takeNode = some .boolean ∧ decode (mB m4_takeNode) 130 = .ok (.ireturn, 1) := ⟨rfl, by decide +kernel⟩
theorem d4_takeNode_131 : Dal m4_takeNode 131 0 132 := Or.inl ⟨0, by decide +kernel, rfl, rfl⟩
theorem d4_takeNode_132 : Div m4_takeNode 132 m4_addVoice 0 135 := ⟨62, by decide +kernel, lk_X4_62, v_4_addVoice, rfl⟩
theorem d4_takeNode_135 : mR m4_takeNode = some .boolean ∧ decode (mB m4_takeNode) 135 = .ok (.ireturn, 1) := ⟨rfl, by decide +kernel⟩
theorem d4_takeNode_136 : Dal m4_takeNode 136 0 137 := Or.inl ⟨0, by decide +kernel, rfl, rfl⟩
theorem d4_takeNode_137 : Dc m4_takeNode 137 (.iconst 5) 1 138 := ⟨by decide +kernel, rfl⟩
theorem d4_takeNode_138 : Div m4_takeNode 138 m4_addDigit 1 141 := ⟨69, by decide +kernel, lk_X4_69, v_4_addDigit, rfl⟩
theorem d4_takeNode_141 : Dif m4_takeNode 141 .eq 155 144 := ⟨(14), by decide +kernel, by decide, rfl⟩
theorem d4_takeNode_144 : Dal m4_takeNode 144 0 145 := Or.inl ⟨0, by decide +kernel, rfl, rfl⟩
theorem d4_takeNode_145 : Div m4_takeNode 145 m4_addPlusOrMinus 0 148 := ⟨72, by decide +kernel, lk_X4_72, v_4_addPlusOrMinus, rfl⟩
theorem d4_takeNode_148 : Dif m4_takeNode 148 .eq 155 151 := ⟨(7), by decide +kernel, by decide, rfl⟩
theorem d4_takeNode_151 : Dc m4_takeNode 151 (.iconst 1) 1 152 := ⟨by decide +kernel, rfl⟩
theorem d4_takeNode_152 : Dgo m4_takeNode 152 156 := ⟨4, by decide +kernel, by decide⟩
theorem d4_takeNode_155 : Dc m4_takeNode 155 (.iconst 0) 1 156 := ⟨by decide +kernel, rfl⟩
theorem d4_takeNode_156 : mR m4_takeNode = some .boolean ∧ decode (mB m4_takeNode) 156 = .ok (.ireturn, 1) := ⟨rfl, by decide +kernel⟩
theorem d4_takeNode_157 : Dal m4_takeNode 157 0 158 := Or.inl ⟨0, by decide +kernel, rfl, rfl⟩
theorem d4_takeNode_158 : Dc m4_takeNode 158 (.bipush 29) 2 160 := ⟨by decide +kernel, rfl⟩
theorem d4_takeNode_160 : Div m4_takeNode 160 m4_addNumber 1 163 := ⟨65, by decide +kernel, lk_X4_65, v_4_addNumber, rfl⟩
theorem d4_takeNode_163 : mR m4_takeNode = some .boolean ∧ decode (mB m4_takeNode) 163 = .ok (.ireturn, 1) := ⟨rfl, by decide +kernel⟩
theorem d4_takeNode_164 : Dal m4_takeNode 164 0 165 := Or.inl ⟨0, by decide +kernel, rfl, rfl⟩
theorem d4_takeNode_165 : Dc m4_takeNode 165 (.iconst 5) 1 166 := ⟨by decide +kernel, rfl⟩
theorem d4_takeNode_166 : Div m4_takeNode 166 m4_addDigit 1 169 := ⟨69, by decide +kernel, lk_X4_69, v_4_addDigit, rfl⟩
theorem d4_takeNode_169 : Dif m4_takeNode 169 .eq 185 172 := ⟨(16), by decide +kernel, by decide, rfl⟩
theorem d4_takeNode_172 : Dal m4_takeNode 172 0 173 := Or.inl ⟨0, by decide +kernel, rfl, rfl⟩
theorem d4_takeNode_173 : Dc m4_takeNode 173 (.bipush 29) 2 175 := ⟨by decide +kernel, rfl⟩
theorem d4_takeNode_175 : Div m4_takeNode 175 m4_addNumber 1 178 := ⟨65, by decide +kernel, lk_X4_65, v_4_addNumber, rfl⟩
theorem d4_takeNode_178 : Dif m4_takeNode 178 .eq 185 181 := ⟨(7), by decide +kernel, by decide, rfl⟩
theorem d4_takeNode_181 : Dc m4_takeNode 181 (.iconst 1) 1 182 := ⟨by decide +kernel, rfl⟩
theorem d4_takeNode_182 : Dgo m4_takeNode 182 186 := ⟨4, by decide +kernel, by decide⟩
theorem d4_takeNode_185 : Dc m4_takeNode 185 (.iconst 0) 1 186 := ⟨by decide +kernel, rfl⟩
theorem d4_takeNode_186 : mR m4_takeNode = some .boolean ∧ decode (mB m4_takeNode) 186 = .ok (.ireturn, 1) := ⟨rfl, by decide +kernel⟩
theorem d4_takeNode_187 : Dal m4_takeNode 187 0 188 := Or.inl ⟨0, by decide +kernel, rfl, rfl⟩
theorem d4_takeNode_188 : Div m4_takeNode 188 m4_takeOptions 0 191 := ⟨75, by decide +kernel, lk_X4_75, v_4_takeOptions, rfl⟩
theorem d4_takeNode_191 : mR m4_takeNode = some .boolean ∧ decode (mB m4_takeNode) 191 = .ok (.ireturn, 1) := ⟨rfl, by decide +kernel⟩
theorem d4_takeNode_192 : Dal m4_takeNode 192 0 193 := Or.inl ⟨0, by decide +kernel, rfl, rfl⟩
theorem d4_takeNode_193 : Dc m4_takeNode 193 (.bipush 9) 2 195 := ⟨by decide +kernel, rfl⟩
theorem d4_takeNode_195 : Div m4_takeNode 195 m4_addDigit 1 198 := ⟨69, by decide +kernel, lk_X4_69, v_4_addDigit, rfl⟩
theorem d4_takeNode_198 : mR m4_takeNode = some .boolean ∧ decode (mB m4_takeNode) 198 = .ok (.ireturn, 1) := ⟨rfl, by decide +kernel⟩
theorem d4_takeOptions_0 : Dc m4_takeOptions 0 (.iconst 0) 1 1 := ⟨by decide +kernel, rfl⟩
theorem d4_takeOptions_1 : Dis m4_takeOptions 1 1 2 := Or.inl ⟨1, by decide +kernel, rfl, rfl⟩
theorem d4_takeOptions_2 : Dil m4_takeOptions 2 1 3 := Or.inl ⟨1, by decide +kernel, rfl, rfl⟩
theorem d4_takeOptions_3 : Dc m4_takeOptions 3 (.iconst 4) 1 4 := ⟨by decide +kernel, rfl⟩
theorem d4_takeOptions_4 : Dic m4_takeOptions 4 .ge 33 7 := ⟨(29), by decide +kernel, by decide, rfl⟩
theorem d4_takeOptions_7 : Dal m4_takeOptions 7 0 8 := Or.inl ⟨0, by decide +kernel, rfl, rfl⟩
theorem d4_takeOptions_8 : Div m4_takeOptions 8 m4_takeOption 0 11 := ⟨78, by decide +kernel, lk_X4_78, v_4_takeOption, rfl⟩
theorem d4_takeOptions_11 : Dif m4_takeOptions 11 .ne 16 14 := ⟨(5), by decide +kernel, by decide, rfl⟩
theorem d4_takeOptions_14 : Dc m4_takeOptions 14 (.iconst 0) 1 15 := ⟨by decide +kernel, rfl⟩
theorem d4_takeOptions_15 : mR m4_takeOptions = some .boolean ∧ decode (mB m4_takeOptions) 15 = .ok (.ireturn, 1) := ⟨rfl, by decide +kernel⟩
theorem d4_takeOptions_16 : Dal m4_takeOptions 16 0 17 := Or.inl ⟨0, by decide +kernel, rfl, rfl⟩
theorem d4_takeOptions_17 : Dc m4_takeOptions 17 (.bipush 44) 2 19 := ⟨by decide +kernel, rfl⟩
theorem d4_takeOptions_19 : Div m4_takeOptions 19 m4_takeSign 1 22 := ⟨42, by decide +kernel, lk_X4_42, v_4_takeSign, rfl⟩
theorem d4_takeOptions_22 : Dif m4_takeOptions 22 .ne 27 25 := ⟨(5), by decide +kernel, by decide, rfl⟩
theorem d4_takeOptions_25 : Dc m4_takeOptions 25 (.iconst 1) 1 26 := ⟨by decide +kernel, rfl⟩
theorem d4_takeOptions_26 : mR m4_takeOptions = some .boolean ∧ decode (mB m4_takeOptions) 26 = .ok (.ireturn, 1) := ⟨rfl, by decide +kernel⟩
theorem d4_takeOptions_27 : Dc m4_takeOptions 27 (.iinc 1 1) 3 30 := ⟨by decide +kernel, rfl⟩
theorem d4_takeOptions_30 : Dgo m4_takeOptions 30 2 := ⟨(-28), by decide +kernel, by decide⟩
theorem d4_takeOptions_33 : Dal m4_takeOptions 33 0 34 := Or.inl ⟨0, by decide +kernel, rfl, rfl⟩
theorem d4_takeOptions_34 : Div m4_takeOptions 34 m4_skipBlanks 0 37 := ⟨32, by decide +kernel, lk_X4_32, v_4_skipBlanks, rfl⟩
theorem d4_takeOptions_37 : Dc m4_takeOptions 37 (.iconst 0) 1 38 := ⟨by decide +kernel, rfl⟩
theorem d4_takeOptions_38 : mR m4_takeOptions = some .boolean ∧ decode (mB m4_takeOptions) 38 = .ok (.ireturn, 1) := ⟨rfl, by decide +kernel⟩
theorem d4_takeOption_0 : Dal m4_takeOption 0 0 1 := Or.inl ⟨0, by decide +kernel, rfl, rfl⟩
theorem d4_takeOption_1 : Dc m4_takeOption 1 (.bipush 29) 2 3 := ⟨by decide +kernel, rfl⟩
theorem d4_takeOption_3 : Div m4_takeOption 3 m4_takeNumber 1 6 := ⟨81, by decide +kernel, lk_X4_81, v_4_takeNumber, rfl⟩
theorem d4_takeOption_6 : Dif m4_takeOption 6 .ne 11 9 := ⟨(5), by decide +kernel, by decide, rfl⟩
theorem d4_takeOption_9 : Dc m4_takeOption 9 (.iconst 0) 1 10 := ⟨by decide +kernel, rfl⟩
theorem d4_takeOption_10 : mR m4_takeOption = some .boolean ∧ decode (mB m4_takeOption) 10 = .ok (.ireturn, 1) := ⟨rfl, by decide +kernel⟩
theorem d4_takeOption_11 : Dal m4_takeOption 11 0 12 := Or.inl ⟨0, by decide +kernel, rfl, rfl⟩
theorem d4_takeOption_12 : Dgf m4_takeOption 12 4 4 15 := ⟨84, by decide +kernel, f_X4_84, rfl⟩
theorem d4_takeOption_15 : Dis m4_takeOption 15 1 16 := Or.inl ⟨1, by decide +kernel, rfl, rfl⟩
theorem d4_takeOption_16 : Dal m4_takeOption 16 0 17 := Or.inl ⟨0, by decide +kernel, rfl, rfl⟩
theorem d4_takeOption_17 : Dc m4_takeOption 17 (.bipush 63) 2 19 := ⟨by decide +kernel, rfl⟩
theorem d4_takeOption_19 : Div m4_takeOption 19 m4_takeSign 1 22 := ⟨42, by decide +kernel, lk_X4_42, v_4_takeSign, rfl⟩
theorem d4_takeOption_22 : Dis m4_takeOption 22 2 23 := Or.inl ⟨2, by decide +kernel, rfl, rfl⟩
theorem d4_takeOption_23 : Dil m4_takeOption 23 2 24 := Or.inl ⟨2, by decide +kernel, rfl, rfl⟩
theorem d4_takeOption_24 : Dif m4_takeOption 24 .ne 49 27 := ⟨(25), by decide +kernel, by decide, rfl⟩
theorem d4_takeOption_27 : Dal m4_takeOption 27 0 28 := Or.inl ⟨0, by decide +kernel, rfl, rfl⟩
theorem d4_takeOption_28 : Dc m4_takeOption 28 (.bipush 33) 2 30 := ⟨by decide +kernel, rfl⟩
theorem d4_takeOption_30 : Div m4_takeOption 30 m4_takeSign 1 33 := ⟨42, by decide +kernel, lk_X4_42, v_4_takeSign, rfl⟩
theorem d4_takeOption_33 : Dif m4_takeOption 33 .ne 49 36 := ⟨(16), by decide +kernel, by decide, rfl⟩
theorem d4_takeOption_36 : Dal m4_takeOption 36 0 37 := Or.inl ⟨0, by decide +kernel, rfl, rfl⟩
theorem d4_takeOption_37 : Dgf m4_takeOption 37 4 2 40 := ⟨18, by decide +kernel, f_X4_18, rfl⟩
theorem d4_takeOption_40 : Dil m4_takeOption 40 1 41 := Or.inl ⟨1, by decide +kernel, rfl, rfl⟩
theorem d4_takeOption_41 : Dc m4_takeOption 41 (.iconst 0) 1 42 := ⟨by decide +kernel, rfl⟩
theorem d4_takeOption_42 : Dc m4_takeOption 42 (.bipush (-11)) 2 44 := ⟨by decide +kernel, rfl⟩
theorem d4_takeOption_44 : Div m4_takeOption 44 m3_addOption 3 47 := ⟨87, by decide +kernel, lk_X4_87, v_3_addOption, rfl⟩
theorem d4_takeOption_47 : Dc m4_takeOption 47 (.iconst 1) 1 48 := ⟨by decide +kernel, rfl⟩
theorem d4_takeOption_48 : mR m4_takeOption = some .boolean ∧ decode (mB m4_takeOption) 48 = .ok (.ireturn, 1) := ⟨rfl, by decide +kernel⟩
theorem d4_takeOption_49 : Dal m4_takeOption 49 0 50 := Or.inl ⟨0, by decide +kernel, rfl, rfl⟩
theorem d4_takeOption_50 : Dc m4_takeOption 50 (.iconst 5) 1 51 := ⟨by decide +kernel, rfl⟩
theorem d4_takeOption_51 : Div m4_takeOption 51 m4_takeDigit 1 54 := ⟨91, by decide +kernel, lk_X4_91, v_4_takeDigit, rfl⟩
theorem d4_takeOption_54 : Dif m4_takeOption 54 .ne 59 57 := ⟨(5), by decide +kernel, by decide, rfl⟩
theorem d4_takeOption_57 : Dc m4_takeOption 57 (.iconst 0) 1 58 := ⟨by decide +kernel, rfl⟩
theorem d4_takeOption_58 : mR m4_takeOption = some .boolean ∧ decode (mB m4_takeOption) 58 = .ok (.ireturn, 1) := ⟨rfl, by decide +kernel⟩
theorem d4_takeOption_59 : Dal m4_takeOption 59 0 60 := Or.inl ⟨0, by decide +kernel, rfl, rfl⟩
theorem d4_takeOption_60 : Dgf m4_takeOption 60 4 2 63 := ⟨18, by decide +kernel, f_X4_18, rfl⟩
theorem d4_takeOption_63 : Dil m4_takeOption 63 1 64 := Or.inl ⟨1, by decide +kernel, rfl, rfl⟩
theorem d4_takeOption_64 : Dil m4_takeOption 64 2 65 := Or.inl ⟨2, by decide +kernel, rfl, rfl⟩
theorem d4_takeOption_65 : Dif m4_takeOption 65 .eq 72 68 := ⟨(7), by decide +kernel, by decide, rfl⟩
theorem d4_takeOption_68 : Dc m4_takeOption 68 (.iconst 1) 1 69 := ⟨by decide +kernel, rfl⟩
theorem d4_takeOption_69 : Dgo m4_takeOption 69 73 := ⟨4, by decide +kernel, by decide⟩
theorem d4_takeOption_72 : Dc m4_takeOption 72 (.iconst 2) 1 73 := ⟨by decide +kernel, rfl⟩
theorem d4_takeOption_73 : Dal m4_takeOption 73 0 74 := Or.inl ⟨0, by decide +kernel, rfl, rfl⟩
theorem d4_takeOption_74 : Dgf m4_takeOption 74 4 4 77 := ⟨84, by decide +kernel, f_X4_84, rfl⟩
theorem d4_takeOption_77 : Div m4_takeOption 77 m3_addOption 3 80 := ⟨87, by decide +kernel, lk_X4_87, v_3_addOption, rfl⟩
theorem d4_takeOption_80 : Dc m4_takeOption 80 (.iconst 1) 1 81 := ⟨by decide +kernel, rfl⟩
theorem d4_takeOption_81 : mR m4_takeOption = some .boolean ∧ decode (mB m4_takeOption) 81 = .ok (.ireturn, 1) := ⟨rfl, by decide +kernel⟩
theorem d4_addVoice_0 : Dal m4_addVoice 0 0 1 := Or.inl ⟨0, by decide +kernel, rfl, rfl⟩
theorem d4_addVoice_1 : Div m4_addVoice 1 m4_skipBlanks 0 4 := ⟨32, by decide +kernel, lk_X4_32, v_4_skipBlanks, rfl⟩
theorem d4_addVoice_4 : Dal m4_addVoice 4 0 5 := Or.inl ⟨0, by decide +kernel, rfl, rfl⟩
theorem d4_addVoice_5 : Div m4_addVoice 5 m4_here 0 8 := ⟨48, by decide +kernel, lk_X4_48, v_4_here, rfl⟩
theorem d4_addVoice_8 : Dc m4_addVoice 8 (.bipush 97) 2 10 := ⟨by decide +kernel, rfl⟩
theorem d4_addVoice_10 : Dc m4_addVoice 10 .isub 1 11 := ⟨by decide +kernel, rfl⟩
theorem d4_addVoice_11 : Dis m4_addVoice 11 1 12 := Or.inl ⟨1, by decide +kernel, rfl, rfl⟩
theorem d4_addVoice_12 : Dil m4_addVoice 12 1 13 := Or.inl ⟨1, by decide +kernel, rfl, rfl⟩
theorem d4_addVoice_13 : Dif m4_addVoice 13 .lt 22 16 := ⟨(9), by decide +kernel, by decide, rfl⟩
theorem d4_addVoice_16 : Dil m4_addVoice 16 1 17 := Or.inl ⟨1, by decide +kernel, rfl, rfl⟩
theorem d4_addVoice_17 : Dc m4_addVoice 17 (.bipush 6) 2 19 := ⟨by decide +kernel, rfl⟩
theorem d4_addVoice_19 : Dic m4_addVoice 19 .lt 24 22 := ⟨(5), by decide +kernel, by decide, rfl⟩
theorem d4_addVoice_22 : Dc m4_addVoice 22 (.iconst 0) 1 23 := ⟨by decide +kernel, rfl⟩
theorem d4_addVoice_23 : mR m4_addVoice = some .boolean ∧ decode (mB m4_addVoice) 23 = .ok (.ireturn, 1) := ⟨rfl, by decide +kernel⟩
theorem d4_addVoice_24 : Dal m4_addVoice 24 0 25 := Or.inl ⟨0, by decide +kernel, rfl, rfl⟩
theorem d4_addVoice_25 : Dgf m4_addVoice 25 4 2 28 := ⟨18, by decide +kernel, f_X4_18, rfl⟩
theorem d4_addVoice_28 : Dil m4_addVoice 28 1 29 := Or.inl ⟨1, by decide +kernel, rfl, rfl⟩
theorem d4_addVoice_29 : Div m4_addVoice 29 m3_addNumber 1 32 := ⟨94, by decide +kernel, lk_X4_94, v_3_addNumber, rfl⟩
theorem d4_addVoice_32 : Dal m4_addVoice 32 0 33 := Or.inl ⟨0, by decide +kernel, rfl, rfl⟩
theorem d4_addVoice_33 : Dc m4_addVoice 33 .dup 1 34 := ⟨by decide +kernel, rfl⟩
theorem d4_addVoice_34 : Dgf m4_addVoice 34 4 3 37 := ⟨26, by decide +kernel, f_X4_26, rfl⟩
theorem d4_addVoice_37 : Dc m4_addVoice 37 (.iconst 1) 1 38 := ⟨by decide +kernel, rfl⟩
theorem d4_addVoice_38 : Dc m4_addVoice 38 .iadd 1 39 := ⟨by decide +kernel, rfl⟩
theorem d4_addVoice_39 : Dpf m4_addVoice 39 4 3 .int false 42 := ⟨26, by decide +kernel, f_X4_26, p_X4_X4_3, rfl⟩
theorem d4_addVoice_42 : Dc m4_addVoice 42 (.iconst 1) 1 43 := ⟨by decide +kernel, rfl⟩
theorem d4_addVoice_43 : mR m4_addVoice = some .boolean ∧ decode (mB m4_addVoice) 43 = .ok (.ireturn, 1) := ⟨rfl, by decide +kernel⟩
theorem d4_addPlusOrMinus_0 : Dal m4_addPlusOrMinus 0 0 1 := Or.inl ⟨0, by decide +kernel, rfl, rfl⟩
theorem d4_addPlusOrMinus_1 : Dc m4_addPlusOrMinus 1 (.bipush 43) 2 3 := ⟨by decide +kernel, rfl⟩
theorem d4_addPlusOrMinus_3 : Div m4_addPlusOrMinus 3 m4_takeSign 1 6 := ⟨42, by decide +kernel, lk_X4_42, v_4_takeSign, rfl⟩
theorem d4_addPlusOrMinus_6 : Dis m4_addPlusOrMinus 6 1 7 := Or.inl ⟨1, by decide +kernel, rfl, rfl⟩
theorem d4_addPlusOrMinus_7 : Dil m4_addPlusOrMinus 7 1 8 := Or.inl ⟨1, by decide +kernel, rfl, rfl⟩
theorem d4_addPlusOrMinus_8 : Dif m4_addPlusOrMinus 8 .ne 22 11 := ⟨(14), by decide +kernel, by decide, rfl⟩
theorem d4_addPlusOrMinus_11 : Dal m4_addPlusOrMinus 11 0 12 := Or.inl ⟨0, by decide +kernel, rfl, rfl⟩
theorem d4_addPlusOrMinus_12 : Dc m4_addPlusOrMinus 12 (.bipush 45) 2 14 := ⟨by decide +kernel, rfl⟩
theorem d4_addPlusOrMinus_14 : Div m4_addPlusOrMinus 14 m4_takeSign 1 17 := ⟨42, by decide +kernel, lk_X4_42, v_4_takeSign, rfl⟩
theorem d4_addPlusOrMinus_17 : Dif m4_addPlusOrMinus 17 .ne 22 20 := ⟨(5), by decide +kernel, by decide, rfl⟩
theorem d4_addPlusOrMinus_20 : Dc m4_addPlusOrMinus 20 (.iconst 0) 1 21 := ⟨by decide +kernel, rfl⟩
theorem d4_addPlusOrMinus_21 : mR m4_addPlusOrMinus = some .boolean ∧ decode (mB m4_addPlusOrMinus) 21 = .ok (.ireturn, 1) := ⟨rfl, by decide +kernel⟩
theorem d4_addPlusOrMinus_22 : Dal m4_addPlusOrMinus 22 0 23 := Or.inl ⟨0, by decide +kernel, rfl, rfl⟩
theorem d4_addPlusOrMinus_23 : Dgf m4_addPlusOrMinus 23 4 2 26 := ⟨18, by decide +kernel, f_X4_18, rfl⟩
theorem d4_addPlusOrMinus_26 : Dil m4_addPlusOrMinus 26 1 27 := Or.inl ⟨1, by decide +kernel, rfl, rfl⟩
theorem d4_addPlusOrMinus_27 : Dif m4_addPlusOrMinus 27 .eq 34 30 := ⟨(7), by decide +kernel, by decide, rfl⟩
theorem d4_addPlusOrMinus_30 : Dc m4_addPlusOrMinus 30 (.iconst 1) 1 31 := ⟨by decide +kernel, rfl⟩
theorem d4_addPlusOrMinus_31 : Dgo m4_addPlusOrMinus 31 35 := ⟨4, by decide +kernel, by decide⟩
theorem d4_addPlusOrMinus_34 : Dc m4_addPlusOrMinus 34 (.iconst 0) 1 35 := ⟨by decide +kernel, rfl⟩
theorem d4_addPlusOrMinus_35 : Div m4_addPlusOrMinus 35 m3_addNumber 1 38 := ⟨94, by decide +kernel, lk_X4_94, v_3_addNumber, rfl⟩
theorem d4_addPlusOrMinus_38 : Dc m4_addPlusOrMinus 38 (.iconst 1) 1 39 := ⟨by decide +kernel, rfl⟩
theorem d4_addPlusOrMinus_39 : mR m4_addPlusOrMinus = some .boolean ∧ decode (mB m4_addPlusOrMinus) 39 = .ok (.ireturn, 1) := ⟨rfl, by decide +kernel⟩
theorem d4_addDigit_0 : Dal m4_addDigit 0 0 1 := Or.inl ⟨0, by decide +kernel, rfl, rfl⟩
theorem d4_addDigit_1 : Dil m4_addDigit 1 1 2 := Or.inl ⟨1, by decide +kernel, rfl, rfl⟩
theorem d4_addDigit_2 : Div m4_addDigit 2 m4_takeDigit 1 5 := ⟨91, by decide +kernel, lk_X4_91, v_4_takeDigit, rfl⟩
theorem d4_addDigit_5 : Dif m4_addDigit 5 .ne 10 8 := ⟨(5), by decide +kernel, by decide, rfl⟩
theorem d4_addDigit_8 : Dc m4_addDigit 8 (.iconst 0) 1 9 := ⟨by decide +kernel, rfl⟩
theorem d4_addDigit_9 : mR m4_addDigit = some .boolean ∧ decode (mB m4_addDigit) 9 = .ok (.ireturn, 1) := ⟨rfl, by decide +kernel⟩
theorem d4_addDigit_10 : Dal m4_addDigit 10 0 11 := Or.inl ⟨0, by decide +kernel, rfl, rfl⟩
theorem d4_addDigit_11 : Dgf m4_addDigit 11 4 2 14 := ⟨18, by decide +kernel, f_X4_18, rfl⟩
theorem d4_addDigit_14 : Dal m4_addDigit 14 0 15 := Or.inl ⟨0, by decide +kernel, rfl, rfl⟩
theorem d4_addDigit_15 : Dgf m4_addDigit 15 4 4 18 := ⟨84, by decide +kernel, f_X4_84, rfl⟩
theorem d4_addDigit_18 : Div m4_addDigit 18 m3_addNumber 1 21 := ⟨94, by decide +kernel, lk_X4_94, v_3_addNumber, rfl⟩
theorem d4_addDigit_21 : Dc m4_addDigit 21 (.iconst 1) 1 22 := ⟨by decide +kernel, rfl⟩
theorem d4_addDigit_22 : mR m4_addDigit = some .boolean ∧ decode (mB m4_addDigit) 22 = .ok (.ireturn, 1) := ⟨rfl, by decide +kernel⟩
theorem d4_addNumber_0 : Dal m4_addNumber 0 0 1 := Or.inl ⟨0, by decide +kernel, rfl, rfl⟩
theorem d4_addNumber_1 : Dil m4_addNumber 1 1 2 := Or.inl ⟨1, by decide +kernel, rfl, rfl⟩
theorem d4_addNumber_2 : Div m4_addNumber 2 m4_takeNumber 1 5 := ⟨81, by decide +kernel, lk_X4_81, v_4_takeNumber, rfl⟩
theorem d4_addNumber_5 : Dif m4_addNumber 5 .ne 10 8 := ⟨(5), by decide +kernel, by decide, rfl⟩
theorem d4_addNumber_8 : Dc m4_addNumber 8 (.iconst 0) 1 9 := ⟨by decide +kernel, rfl⟩
theorem d4_addNumber_9 : mR m4_addNumber = some .boolean ∧ decode (mB m4_addNumber) 9 = .ok (.ireturn, 1) := ⟨rfl, by decide +kernel⟩
theorem d4_addNumber_10 : Dal m4_addNumber 10 0 11 := Or.inl ⟨0, by decide +kernel, rfl, rfl⟩
theorem d4_addNumber_11 : Dgf m4_addNumber 11 4 2 14 := ⟨18, by decide +kernel, f_X4_18, rfl⟩
theorem d4_addNumber_14 : Dal m4_addNumber 14 0 15 := Or.inl ⟨0, by decide +kernel, rfl, rfl⟩
theorem d4_addNumber_15 : Dgf m4_addNumber 15 4 4 18 := ⟨84, by decide +kernel, f_X4_84, rfl⟩
theorem d4_addNumber_18 : Div m4_addNumber 18 m3_addNumber 1 21 := ⟨94, by decide +kernel, lk_X4_94, v_3_addNumber, rfl⟩
theorem d4_addNumber_21 : Dc m4_addNumber 21 (.iconst 1) 1 22 := ⟨by decide +kernel, rfl⟩
theorem d4_addNumber_22 : mR m4_addNumber = some .boolean ∧ decode (mB m4_addNumber) 22 = .ok (.ireturn, 1) := ⟨rfl, by decide +kernel⟩
theorem d4_takeDigit_0 : Dal m4_takeDigit 0 0 1 := Or.inl ⟨0, by decide +kernel, rfl, rfl⟩
theorem d4_takeDigit_1 : Div m4_takeDigit 1 m4_skipBlanks 0 4 := ⟨32, by decide +kernel, lk_X4_32, v_4_skipBlanks, rfl⟩
theorem d4_takeDigit_4 : Dal m4_takeDigit 4 0 5 := Or.inl ⟨0, by decide +kernel, rfl, rfl⟩
theorem d4_takeDigit_5 : Dal m4_takeDigit 5 0 6 := Or.inl ⟨0, by decide +kernel, rfl, rfl⟩
theorem d4_takeDigit_6 : Div m4_takeDigit 6 m4_here 0 9 := ⟨48, by decide +kernel, lk_X4_48, v_4_here, rfl⟩
theorem d4_takeDigit_9 : Dc m4_takeDigit 9 (.bipush 48) 2 11 := ⟨by decide +kernel, rfl⟩
theorem d4_takeDigit_11 : Dc m4_takeDigit 11 .isub 1 12 := ⟨by decide +kernel, rfl⟩
theorem d4_takeDigit_12 : Dpf m4_takeDigit 12 4 4 .int false 15 := ⟨84, by decide +kernel, f_X4_84, p_X4_X4_4, rfl⟩
theorem d4_takeDigit_15 : Dal m4_takeDigit 15 0 16 := Or.inl ⟨0, by decide +kernel, rfl, rfl⟩
theorem d4_takeDigit_16 : Dgf m4_takeDigit 16 4 4 19 := ⟨84, by decide +kernel, f_X4_84, rfl⟩
theorem d4_takeDigit_19 : Dif m4_takeDigit 19 .lt 30 22 := ⟨(11), by decide +kernel, by decide, rfl⟩
theorem d4_takeDigit_22 : Dal m4_takeDigit 22 0 23 := Or.inl ⟨0, by decide +kernel, rfl, rfl⟩
theorem d4_takeDigit_23 : Dgf m4_takeDigit 23 4 4 26 := ⟨84, by decide +kernel, f_X4_84, rfl⟩
theorem d4_takeDigit_26 : Dil m4_takeDigit 26 1 27 := Or.inl ⟨1, by decide +kernel, rfl, rfl⟩
theorem d4_takeDigit_27 : Dic m4_takeDigit 27 .le 32 30 := ⟨(5), by decide +kernel, by decide, rfl⟩
theorem d4_takeDigit_30 : Dc m4_takeDigit 30 (.iconst 0) 1 31 := ⟨by decide +kernel, rfl⟩
theorem d4_takeDigit_31 : mR m4_takeDigit = some .boolean ∧ decode (mB m4_takeDigit) 31 = .ok (.ireturn, 1) := ⟨rfl, by decide +kernel⟩
theorem d4_takeDigit_32 : Dal m4_takeDigit 32 0 33 := Or.inl ⟨0, by decide +kernel, rfl, rfl⟩
theorem d4_takeDigit_33 : Dc m4_takeDigit 33 .dup 1 34 := ⟨by decide +kernel, rfl⟩
theorem d4_takeDigit_34 : Dgf m4_takeDigit 34 4 3 37 := ⟨26, by decide +kernel, f_X4_26, rfl⟩
theorem d4_takeDigit_37 : Dc m4_takeDigit 37 (.iconst 1) 1 38 := ⟨by decide +kernel, rfl⟩
theorem d4_takeDigit_38 : Dc m4_takeDigit 38 .iadd 1 39 := ⟨by decide +kernel, rfl⟩
theorem d4_takeDigit_39 : Dpf m4_takeDigit 39 4 3 .int false 42 := ⟨26, by decide +kernel, f_X4_26, p_X4_X4_3, rfl⟩
theorem d4_takeDigit_42 : Dal m4_takeDigit 42 0 43 := Or.inl ⟨0, by decide +kernel, rfl, rfl⟩
theorem d4_takeDigit_43 : Div m4_takeDigit 43 m4_isAtDigit 0 46 := ⟨96, by decide +kernel, lk_X4_96, v_4_isAtDigit, rfl⟩
theorem d4_takeDigit_46 : Dif m4_takeDigit 46 .ne 53 49 := ⟨(7), by decide +kernel, by decide, rfl⟩
theorem d4_takeDigit_49 : Dc m4_takeDigit 49 (.iconst 1) 1 50 := ⟨by decide +kernel, rfl⟩
theorem d4_takeDigit_50 : Dgo m4_takeDigit 50 54 := ⟨4, by decide +kernel, by decide⟩
theorem d4_takeDigit_53 : Dc m4_takeDigit 53 (.iconst 0) 1 54 := ⟨by decide +kernel, rfl⟩
theorem d4_takeDigit_54 : mR m4_takeDigit = some .boolean ∧ decode (mB m4_takeDigit) 54 = .ok (.ireturn, 1) := ⟨rfl, by decide +kernel⟩
theorem d4_takeNumber_0 : Dal m4_takeNumber 0 0 1 := Or.inl ⟨0, by decide +kernel, rfl, rfl⟩
theorem d4_takeNumber_1 : Div m4_takeNumber 1 m4_skipBlanks 0 4 := ⟨32, by decide +kernel, lk_X4_32, v_4_skipBlanks, rfl⟩
theorem d4_takeNumber_4 : Dal m4_takeNumber 4 0 5 := Or.inl ⟨0, by decide +kernel, rfl, rfl⟩
theorem d4_takeNumber_5 : Dgf m4_takeNumber 5 4 3 8 := ⟨26, by decide +kernel, f_X4_26, rfl⟩
theorem d4_takeNumber_8 : Dis m4_takeNumber 8 2 9 := Or.inl ⟨2, by decide +kernel, rfl, rfl⟩
theorem d4_takeNumber_9 : Dal m4_takeNumber 9 0 10 := Or.inl ⟨0, by decide +kernel, rfl, rfl⟩
theorem d4_takeNumber_10 : Div m4_takeNumber 10 m4_isAtDigit 0 13 := ⟨96, by decide +kernel, lk_X4_96, v_4_isAtDigit, rfl⟩
theorem d4_takeNumber_13 : Dif m4_takeNumber 13 .ne 18 16 := ⟨(5), by decide +kernel, by decide, rfl⟩
theorem d4_takeNumber_16 : Dc m4_takeNumber 16 (.iconst 0) 1 17 := ⟨by decide +kernel, rfl⟩
theorem d4_takeNumber_17 : mR m4_takeNumber = some .boolean ∧ decode (mB m4_takeNumber) 17 = .ok (.ireturn, 1) := ⟨rfl, by decide +kernel⟩
theorem d4_takeNumber_18 : Dal m4_takeNumber 18 0 19 := Or.inl ⟨0, by decide +kernel, rfl, rfl⟩
theorem d4_takeNumber_19 : Dal m4_takeNumber 19 0 20 := Or.inl ⟨0, by decide +kernel, rfl, rfl⟩
theorem d4_takeNumber_20 : Div m4_takeNumber 20 m4_here 0 23 := ⟨48, by decide +kernel, lk_X4_48, v_4_here, rfl⟩
theorem d4_takeNumber_23 : Dc m4_takeNumber 23 (.bipush 48) 2 25 := ⟨by decide +kernel, rfl⟩
theorem d4_takeNumber_25 : Dc m4_takeNumber 25 .isub 1 26 := ⟨by decide +kernel, rfl⟩
theorem d4_takeNumber_26 : Dpf m4_takeNumber 26 4 4 .int false 29 := ⟨84, by decide +kernel, f_X4_84, p_X4_X4_4, rfl⟩
theorem d4_takeNumber_29 : Dal m4_takeNumber 29 0 30 := Or.inl ⟨0, by decide +kernel, rfl, rfl⟩
theorem d4_takeNumber_30 : Dc m4_takeNumber 30 .dup 1 31 := ⟨by decide +kernel, rfl⟩
theorem d4_takeNumber_31 : Dgf m4_takeNumber 31 4 3 34 := ⟨26, by decide +kernel, f_X4_26, rfl⟩
theorem d4_takeNumber_34 : Dc m4_takeNumber 34 (.iconst 1) 1 35 := ⟨by decide +kernel, rfl⟩
theorem d4_takeNumber_35 : Dc m4_takeNumber 35 .iadd 1 36 := ⟨by decide +kernel, rfl⟩
theorem d4_takeNumber_36 : Dpf m4_takeNumber 36 4 3 .int false 39 := ⟨26, by decide +kernel, f_X4_26, p_X4_X4_3, rfl⟩
theorem d4_takeNumber_39 : Dal m4_takeNumber 39 0 40 := Or.inl ⟨0, by decide +kernel, rfl, rfl⟩
theorem d4_takeNumber_40 : Div m4_takeNumber 40 m4_isAtDigit 0 43 := ⟨96, by decide +kernel, lk_X4_96, v_4_isAtDigit, rfl⟩
theorem d4_takeNumber_43 : Dif m4_takeNumber 43 .eq 75 46 := ⟨(32), by decide +kernel, by decide, rfl⟩
theorem d4_takeNumber_46 : Dal m4_takeNumber 46 0 47 := Or.inl ⟨0, by decide +kernel, rfl, rfl⟩
theorem d4_takeNumber_47 : Dc m4_takeNumber 47 (.bipush 10) 2 49 := ⟨by decide +kernel, rfl⟩
theorem d4_takeNumber_49 : Dal m4_takeNumber 49 0 50 := Or.inl ⟨0, by decide +kernel, rfl, rfl⟩
theorem d4_takeNumber_50 : Dgf m4_takeNumber 50 4 4 53 := ⟨84, by decide +kernel, f_X4_84, rfl⟩
theorem d4_takeNumber_53 : Dc m4_takeNumber 53 .imul 1 54 := ⟨by decide +kernel, rfl⟩
theorem d4_takeNumber_54 : Dal m4_takeNumber 54 0 55 := Or.inl ⟨0, by decide +kernel, rfl, rfl⟩
theorem d4_takeNumber_55 : Div m4_takeNumber 55 m4_here 0 58 := ⟨48, by decide +kernel, lk_X4_48, v_4_here, rfl⟩
theorem d4_takeNumber_58 : Dc m4_takeNumber 58 .iadd 1 59 := ⟨by decide +kernel, rfl⟩
theorem d4_takeNumber_59 : Dc m4_takeNumber 59 (.bipush 48) 2 61 := ⟨by decide +kernel, rfl⟩
theorem d4_takeNumber_61 : Dc m4_takeNumber 61 .isub 1 62 := ⟨by decide +kernel, rfl⟩
theorem d4_takeNumber_62 : Dpf m4_takeNumber 62 4 4 .int false 65 := ⟨84, by decide +kernel, f_X4_84, p_X4_X4_4, rfl⟩
theorem d4_takeNumber_65 : Dal m4_takeNumber 65 0 66 := Or.inl ⟨0, by decide +kernel, rfl, rfl⟩
theorem d4_takeNumber_66 : Dc m4_takeNumber 66 .dup 1 67 := ⟨by decide +kernel, rfl⟩
theorem d4_takeNumber_67 : Dgf m4_takeNumber 67 4 3 70 := ⟨26, by decide +kernel, f_X4_26, rfl⟩
theorem d4_takeNumber_70 : Dc m4_takeNumber 70 (.iconst 1) 1 71 := ⟨by decide +kernel, rfl⟩
theorem d4_takeNumber_71 : Dc m4_takeNumber 71 .iadd 1 72 := ⟨by decide +kernel, rfl⟩
theorem d4_takeNumber_72 : Dpf m4_takeNumber 72 4 3 .int false 75 := ⟨26, by decide +kernel, f_X4_26, p_X4_X4_3, rfl⟩
theorem d4_takeNumber_75 : Dal m4_takeNumber 75 0 76 := Or.inl ⟨0, by decide +kernel, rfl, rfl⟩
theorem d4_takeNumber_76 : Dgf m4_takeNumber 76 4 4 79 := ⟨84, by decide +kernel, f_X4_84, rfl⟩
theorem d4_takeNumber_79 : Dil m4_takeNumber 79 1 80 := Or.inl ⟨1, by decide +kernel, rfl, rfl⟩
theorem d4_takeNumber_80 : Dic m4_takeNumber 80 .le 90 83 := ⟨(10), by decide +kernel, by decide, rfl⟩
theorem d4_takeNumber_83 : Dal m4_takeNumber 83 0 84 := Or.inl ⟨0, by decide +kernel, rfl, rfl⟩
theorem d4_takeNumber_84 : Dil m4_takeNumber 84 2 85 := Or.inl ⟨2, by decide +kernel, rfl, rfl⟩
theorem d4_takeNumber_85 : Dpf m4_takeNumber 85 4 3 .int false 88 := ⟨26, by decide +kernel, f_X4_26, p_X4_X4_3, rfl⟩
theorem d4_takeNumber_88 : Dc m4_takeNumber 88 (.iconst 0) 1 89 := ⟨by decide +kernel, rfl⟩
theorem d4_takeNumber_89 : mR m4_takeNumber = some .boolean ∧ decode (mB m4_takeNumber) 89 = .ok (.ireturn, 1) := ⟨rfl, by decide +kernel⟩
theorem d4_takeNumber_90 : Dal m4_takeNumber 90 0 91 := Or.inl ⟨0, by decide +kernel, rfl, rfl⟩
theorem d4_takeNumber_91 : Div m4_takeNumber 91 m4_isAtDigit 0 94 := ⟨96, by decide +kernel, lk_X4_96, v_4_isAtDigit, rfl⟩
theorem d4_takeNumber_94 : Dif m4_takeNumber 94 .ne 101 97 := ⟨(7), by decide +kernel, by decide, rfl⟩
theorem d4_takeNumber_97 : Dc m4_takeNumber 97 (.iconst 1) 1 98 := ⟨by decide +kernel, rfl⟩
theorem d4_takeNumber_98 : Dgo m4_takeNumber 98 102 := ⟨4, by decide +kernel, by decide⟩
theorem d4_takeNumber_101 : Dc m4_takeNumber 101 (.iconst 0) 1 102 := ⟨by decide +kernel, rfl⟩
theorem d4_takeNumber_102 : mR m4_takeNumber = some .boolean ∧ decode (mB m4_takeNumber) 102 = .ok (.ireturn, 1) := ⟨rfl, by decide +kernel⟩
theorem d4_takeSign_0 : Dal m4_takeSign 0 0 1 := Or.inl ⟨0, by decide +kernel, rfl, rfl⟩
theorem d4_takeSign_1 : Div m4_takeSign 1 m4_skipBlanks 0 4 := ⟨32, by decide +kernel, lk_X4_32, v_4_skipBlanks, rfl⟩
theorem d4_takeSign_4 : Dal m4_takeSign 4 0 5 := Or.inl ⟨0, by decide +kernel, rfl, rfl⟩
theorem d4_takeSign_5 : Div m4_takeSign 5 m4_here 0 8 := ⟨48, by decide +kernel, lk_X4_48, v_4_here, rfl⟩
theorem d4_takeSign_8 : Dil m4_takeSign 8 1 9 := Or.inl ⟨1, by decide +kernel, rfl, rfl⟩
theorem d4_takeSign_9 : Dic m4_takeSign 9 .eq 14 12 := ⟨(5), by decide +kernel, by decide, rfl⟩
theorem d4_takeSign_12 : Dc m4_takeSign 12 (.iconst 0) 1 13 := ⟨by decide +kernel, rfl⟩
theorem d4_takeSign_13 : mR m4_takeSign = some .boolean ∧ decode (mB m4_takeSign) 13 = .ok (.ireturn, 1) := ⟨rfl, by decide +kernel⟩
theorem d4_takeSign_14 : Dal m4_takeSign 14 0 15 := Or.inl ⟨0, by decide +kernel, rfl, rfl⟩
theorem d4_takeSign_15 : Dc m4_takeSign 15 .dup 1 16 := ⟨by decide +kernel, rfl⟩
theorem d4_takeSign_16 : Dgf m4_takeSign 16 4 3 19 := ⟨26, by decide +kernel, f_X4_26, rfl⟩
theorem d4_takeSign_19 : Dc m4_takeSign 19 (.iconst 1) 1 20 := ⟨by decide +kernel, rfl⟩
theorem d4_takeSign_20 : Dc m4_takeSign 20 .iadd 1 21 := ⟨by decide +kernel, rfl⟩
theorem d4_takeSign_21 : Dpf m4_takeSign 21 4 3 .int false 24 := ⟨26, by decide +kernel, f_X4_26, p_X4_X4_3, rfl⟩
end
section
/-! ===== decode rows of X4 ===== -/
theorem d4_takeSign_24 : Dc m4_takeSign 24 (.iconst 1) 1 25 := ⟨by decide +kernel, rfl⟩
theorem d4_takeSign_25 : mR m4_takeSign = some .boolean ∧ decode (mB m4_takeSign) 25 = .ok (.ireturn, 1) := ⟨rfl, by decide +kernel⟩
theorem d4_skipBlanks_0 : Dal m4_skipBlanks 0 0 1 := Or.inl ⟨0, by decide +kernel, rfl, rfl⟩
theorem d4_skipBlanks_1 : Dgf m4_skipBlanks 1 4 3 4 := ⟨26, by decide +kernel, f_X4_26, rfl⟩
theorem d4_skipBlanks_4 : Dal m4_skipBlanks 4 0 5 := Or.inl ⟨0, by decide +kernel, rfl, rfl⟩
theorem d4_skipBlanks_5 : Dgf m4_skipBlanks 5 4 0 8 := ⟨22, by decide +kernel, f_X4_22, rfl⟩
theorem d4_skipBlanks_8 : Dic m4_skipBlanks 8 .ge 33 11 := ⟨(25), by decide +kernel, by decide, rfl⟩
theorem d4_skipBlanks_11 : Dal m4_skipBlanks 11 0 12 := Or.inl ⟨0, by decide +kernel, rfl, rfl⟩
theorem d4_skipBlanks_12 : Div m4_skipBlanks 12 m4_here 0 15 := ⟨48, by decide +kernel, lk_X4_48, v_4_here, rfl⟩
theorem d4_skipBlanks_15 : Dc m4_skipBlanks 15 (.bipush 32) 2 17 := ⟨by decide +kernel, rfl⟩
theorem d4_skipBlanks_17 : Dic m4_skipBlanks 17 .ne 33 20 := ⟨(16), by decide +kernel, by decide, rfl⟩
theorem d4_skipBlanks_20 : Dal m4_skipBlanks 20 0 21 := Or.inl ⟨0, by decide +kernel, rfl, rfl⟩
theorem d4_skipBlanks_21 : Dc m4_skipBlanks 21 .dup 1 22 := ⟨by decide +kernel, rfl⟩
theorem d4_skipBlanks_22 : Dgf m4_skipBlanks 22 4 3 25 := ⟨26, by decide +kernel, f_X4_26, rfl⟩
theorem d4_skipBlanks_25 : Dc m4_skipBlanks 25 (.iconst 1) 1 26 := ⟨by decide +kernel, rfl⟩
theorem d4_skipBlanks_26 : Dc m4_skipBlanks 26 .iadd 1 27 := ⟨by decide +kernel, rfl⟩
theorem d4_skipBlanks_27 : Dpf m4_skipBlanks 27 4 3 .int false 30 := ⟨26, by decide +kernel, f_X4_26, p_X4_X4_3, rfl⟩
theorem d4_skipBlanks_30 : Dgo m4_skipBlanks 30 0 := ⟨(-30), by decide +kernel, by decide⟩
theorem d4_skipBlanks_33 : mR m4_skipBlanks = none ∧ decode (mB m4_skipBlanks) 33 = .ok (.return_, 1) := ⟨rfl, by decide +kernel⟩
theorem d4_isAtDigit_0 : Dal m4_isAtDigit 0 0 1 := Or.inl ⟨0, by decide +kernel, rfl, rfl⟩
theorem d4_isAtDigit_1 : Div m4_isAtDigit 1 m4_here 0 4 := ⟨48, by decide +kernel, lk_X4_48, v_4_here, rfl⟩
theorem d4_isAtDigit_4 : Dc m4_isAtDigit 4 (.bipush 48) 2 6 := ⟨by decide +kernel, rfl⟩
theorem d4_isAtDigit_6 : Dic m4_isAtDigit 6 .lt 22 9 := ⟨(16), by decide +kernel, by decide, rfl⟩
theorem d4_isAtDigit_9 : Dal m4_isAtDigit 9 0 10 := Or.inl ⟨0, by decide +kernel, rfl, rfl⟩
theorem d4_isAtDigit_10 : Div m4_isAtDigit 10 m4_here 0 13 := ⟨48, by decide +kernel, lk_X4_48, v_4_here, rfl⟩
theorem d4_isAtDigit_13 : Dc m4_isAtDigit 13 (.bipush 57) 2 15 := ⟨by decide +kernel, rfl⟩
theorem d4_isAtDigit_15 : Dic m4_isAtDigit 15 .gt 22 18 := ⟨(7), by decide +kernel, by decide, rfl⟩
theorem d4_isAtDigit_18 : Dc m4_isAtDigit 18 (.iconst 1) 1 19 := ⟨by decide +kernel, rfl⟩
theorem d4_isAtDigit_19 : Dgo m4_isAtDigit 19 23 := ⟨4, by decide +kernel, by decide⟩
theorem d4_isAtDigit_22 : Dc m4_isAtDigit 22 (.iconst 0) 1 23 := ⟨by decide +kernel, rfl⟩
theorem d4_isAtDigit_23 : mR m4_isAtDigit = some .boolean ∧ decode (mB m4_isAtDigit) 23 = .ok (.ireturn, 1) := ⟨rfl, by decide +kernel⟩
theorem d4_isAtEnd_0 : Dal m4_isAtEnd 0 0 1 := Or.inl ⟨0, by decide +kernel, rfl, rfl⟩
theorem d4_isAtEnd_1 : Dgf m4_isAtEnd 1 4 3 4 := ⟨26, by decide +kernel, f_X4_26, rfl⟩
theorem d4_isAtEnd_4 : Dal m4_isAtEnd 4 0 5 := Or.inl ⟨0, by decide +kernel, rfl, rfl⟩
theorem d4_isAtEnd_5 : Dgf m4_isAtEnd 5 4 0 8 := ⟨22, by decide +kernel, f_X4_22, rfl⟩
theorem d4_isAtEnd_8 : Dic m4_isAtEnd 8 .lt 15 11 := ⟨(7), by decide +kernel, by decide, rfl⟩
theorem d4_isAtEnd_11 : Dc m4_isAtEnd 11 (.iconst 1) 1 12 := ⟨by decide +kernel, rfl⟩
theorem d4_isAtEnd_12 : Dgo m4_isAtEnd 12 16 := ⟨4, by decide +kernel, by decide⟩
theorem d4_isAtEnd_15 : Dc m4_isAtEnd 15 (.iconst 0) 1 16 := ⟨by decide +kernel, rfl⟩
theorem d4_isAtEnd_16 : mR m4_isAtEnd = some .boolean ∧ decode (mB m4_isAtEnd) 16 = .ok (.ireturn, 1) := ⟨rfl, by decide +kernel⟩
theorem d4_here_0 : Dal m4_here 0 0 1 := Or.inl ⟨0, by decide +kernel, rfl, rfl⟩
theorem d4_here_1 : Dgf m4_here 1 4 3 4 := ⟨26, by decide +kernel, f_X4_26, rfl⟩
theorem d4_here_4 : Dif m4_here 4 .lt 39 7 := ⟨(35), by decide +kernel, by decide, rfl⟩
theorem d4_here_7 : Dal m4_here 7 0 8 := Or.inl ⟨0, by decide +kernel, rfl, rfl⟩
theorem d4_here_8 : Dgf m4_here 8 4 3 11 := ⟨26, by decide +kernel, f_X4_26, rfl⟩
theorem d4_here_11 : Dal m4_here 11 0 12 := Or.inl ⟨0, by decide +kernel, rfl, rfl⟩
theorem d4_here_12 : Dgf m4_here 12 4 0 15 := ⟨22, by decide +kernel, f_X4_22, rfl⟩
theorem d4_here_15 : Dic m4_here 15 .ge 39 18 := ⟨(24), by decide +kernel, by decide, rfl⟩
theorem d4_here_18 : Dal m4_here 18 0 19 := Or.inl ⟨0, by decide +kernel, rfl, rfl⟩
theorem d4_here_19 : Dgf m4_here 19 4 3 22 := ⟨26, by decide +kernel, f_X4_26, rfl⟩
theorem d4_here_22 : Dc m4_here 22 (.bipush 100) 2 24 := ⟨by decide +kernel, rfl⟩
theorem d4_here_24 : Dic m4_here 24 .ge 39 27 := ⟨(15), by decide +kernel, by decide, rfl⟩
theorem d4_here_27 : Dal m4_here 27 0 28 := Or.inl ⟨0, by decide +kernel, rfl, rfl⟩
theorem d4_here_28 : Dgf m4_here 28 4 1 31 := ⟨9, by decide +kernel, f_X4_9, rfl⟩
theorem d4_here_31 : Dal m4_here 31 0 32 := Or.inl ⟨0, by decide +kernel, rfl, rfl⟩
theorem d4_here_32 : Dgf m4_here 32 4 3 35 := ⟨26, by decide +kernel, f_X4_26, rfl⟩
theorem d4_here_35 : Dc m4_here 35 .baload 1 36 := ⟨by decide +kernel, rfl⟩
theorem d4_here_36 : Dgo m4_here 36 40 := ⟨4, by decide +kernel, by decide⟩
theorem d4_here_39 : Dc m4_here 39 (.iconst 0) 1 40 := ⟨by decide +kernel, rfl⟩
theorem d4_here_40 : mR m4_here = some .int ∧ decode (mB m4_here) 40 = .ok (.ireturn, 1) := ⟨rfl, by decide +kernel⟩
end
section
/-! ===== decode rows of X2 ===== -/
theorem d2_init_0 : Dal m2_init 0 0 1 := Or.inl ⟨0, by decide +kernel, rfl, rfl⟩
theorem d2_init_1 : Doi m2_init 1 4 := ⟨3, by decide +kernel, oi_X2_3, oi_i, oi_c, rfl⟩
theorem d2_init_4 : Dal m2_init 4 0 5 := Or.inl ⟨0, by decide +kernel, rfl, rfl⟩
theorem d2_init_5 : Dc m2_init 5 (.bipush 20) 2 7 := ⟨by decide +kernel, rfl⟩
theorem d2_init_7 : Dnq m2_init 7 10 := ⟨9, by decide +kernel, tG_of (List.mem_of_getElem? (i := 147) (by decide +kernel)) (by decide +kernel), rfl⟩
theorem d2_init_10 : Dpf m2_init 10 2 0 (.array (.object "PictureScript$Moment")) true 13 := ⟨11, by decide +kernel, f_X2_11, p_X2_X2_0, rfl⟩
theorem d2_init_13 : Dal m2_init 13 0 14 := Or.inl ⟨0, by decide +kernel, rfl, rfl⟩
theorem d2_init_14 : Dc m2_init 14 (.iconst 3) 1 15 := ⟨by decide +kernel, rfl⟩
theorem d2_init_15 : Dnq m2_init 15 18 := ⟨9, by decide +kernel, tG_of (List.mem_of_getElem? (i := 147) (by decide +kernel)) (by decide +kernel), rfl⟩
theorem d2_init_18 : Dpf m2_init 18 2 3 (.array (.object "PictureScript$Moment")) true 21 := ⟨17, by decide +kernel, f_X2_17, p_X2_X2_3, rfl⟩
theorem d2_init_21 : Dal m2_init 21 0 22 := Or.inl ⟨0, by decide +kernel, rfl, rfl⟩
theorem d2_init_22 : Dc m2_init 22 (.iconst 3) 1 23 := ⟨by decide +kernel, rfl⟩
theorem d2_init_23 : Dna m2_init 23 2 25 := ⟨.boolean, by decide +kernel, rfl, na_boolean, rfl, by decide, ⟨by decide, by decide⟩, rfl⟩
theorem d2_init_25 : Dpf m2_init 25 2 4 (.array .boolean) true 28 := ⟨20, by decide +kernel, f_X2_20, p_X2_X2_4, rfl⟩
theorem d2_init_28 : Dal m2_init 28 0 29 := Or.inl ⟨0, by decide +kernel, rfl, rfl⟩
theorem d2_init_29 : Dc m2_init 29 (.bipush 31) 2 31 := ⟨by decide +kernel, rfl⟩
theorem d2_init_31 : Dna m2_init 31 2 33 := ⟨.boolean, by decide +kernel, rfl, na_boolean, rfl, by decide, ⟨by decide, by decide⟩, rfl⟩
theorem d2_init_33 : Dpf m2_init 33 2 5 (.array .boolean) true 36 := ⟨24, by decide +kernel, f_X2_24, p_X2_X2_5, rfl⟩
theorem d2_init_36 : Dc m2_init 36 (.iconst 0) 1 37 := ⟨by decide +kernel, rfl⟩
theorem d2_init_37 : Dis m2_init 37 1 38 := Or.inl ⟨1, by decide +kernel, rfl, rfl⟩
theorem d2_init_38 : Dil m2_init 38 1 39 := Or.inl ⟨1, by decide +kernel, rfl, rfl⟩
theorem d2_init_39 : Dc m2_init 39 (.bipush 20) 2 41 := ⟨by decide +kernel, rfl⟩
theorem d2_init_41 : Dic m2_init 41 .ge 63 44 := ⟨(22), by decide +kernel, by decide, rfl⟩
theorem d2_init_44 : Dal m2_init 44 0 45 := Or.inl ⟨0, by decide +kernel, rfl, rfl⟩
theorem d2_init_45 : Dgf m2_init 45 2 0 48 := ⟨11, by decide +kernel, f_X2_11, rfl⟩
theorem d2_init_48 : Dil m2_init 48 1 49 := Or.inl ⟨1, by decide +kernel, rfl, rfl⟩
theorem d2_init_49 : Dnew m2_init 49 1 4 [vI 0, vI 0, vN, vN] 52 := ⟨9, RX1, TX1, tyX1, by decide +kernel, rfl, inGX1, tyX1_ok, tG_of (List.mem_of_getElem? (i := 147) (by decide +kernel)) (by decide +kernel), tG_of (List.mem_of_getElem? (i := 149) (by decide +kernel)) (by decide +kernel), tG_of (List.mem_of_getElem? (i := 68) (by decide +kernel)) (by decide +kernel), nw_X1.1, nw_X1.2, rfl⟩
theorem d2_init_52 : Dc m2_init 52 .dup 1 53 := ⟨by decide +kernel, rfl⟩
theorem d2_init_53 : Dii m2_init 53 m1_init 56 := ⟨27, by decide +kernel, ok_1_init, (Or.inr ⟨RX5, by decide +kernel⟩), by decide +kernel, by decide, rfl, i_1_init, rfl, rfl⟩
theorem d2_init_56 : Dc m2_init 56 .aastore 1 57 := ⟨by decide +kernel, rfl⟩
theorem d2_init_57 : Dc m2_init 57 (.iinc 1 1) 3 60 := ⟨by decide +kernel, rfl⟩
theorem d2_init_60 : Dgo m2_init 60 38 := ⟨(-22), by decide +kernel, by decide⟩
theorem d2_init_63 : Dc m2_init 63 (.iconst 0) 1 64 := ⟨by decide +kernel, rfl⟩
theorem d2_init_64 : Dis m2_init 64 1 65 := Or.inl ⟨1, by decide +kernel, rfl, rfl⟩
theorem d2_init_65 : Dil m2_init 65 1 66 := Or.inl ⟨1, by decide +kernel, rfl, rfl⟩
theorem d2_init_66 : Dc m2_init 66 (.iconst 3) 1 67 := ⟨by decide +kernel, rfl⟩
theorem d2_init_67 : Dic m2_init 67 .ge 89 70 := ⟨(22), by decide +kernel, by decide, rfl⟩
theorem d2_init_70 : Dal m2_init 70 0 71 := Or.inl ⟨0, by decide +kernel, rfl, rfl⟩
theorem d2_init_71 : Dgf m2_init 71 2 3 74 := ⟨17, by decide +kernel, f_X2_17, rfl⟩
theorem d2_init_74 : Dil m2_init 74 1 75 := Or.inl ⟨1, by decide +kernel, rfl, rfl⟩
theorem d2_init_75 : Dnew m2_init 75 1 4 [vI 0, vI 0, vN, vN] 78 := ⟨9, RX1, TX1, tyX1, by decide +kernel, rfl, inGX1, tyX1_ok, tG_of (List.mem_of_getElem? (i := 147) (by decide +kernel)) (by decide +kernel), tG_of (List.mem_of_getElem? (i := 149) (by decide +kernel)) (by decide +kernel), tG_of (List.mem_of_getElem? (i := 68) (by decide +kernel)) (by decide +kernel), nw_X1.1, nw_X1.2, rfl⟩
theorem d2_init_78 : Dc m2_init 78 .dup 1 79 := ⟨by decide +kernel, rfl⟩
theorem d2_init_79 : Dii m2_init 79 m1_init 82 := ⟨27, by decide +kernel, ok_1_init, (Or.inr ⟨RX5, by decide +kernel⟩), by decide +kernel, by decide, rfl, i_1_init, rfl, rfl⟩
theorem d2_init_82 : Dc m2_init 82 .aastore 1 83 := ⟨by decide +kernel, rfl⟩
theorem d2_init_83 : Dc m2_init 83 (.iinc 1 1) 3 86 := ⟨by decide +kernel, rfl⟩
theorem d2_init_86 : Dgo m2_init 86 65 := ⟨(-21), by decide +kernel, by decide⟩
theorem d2_init_89 : mR m2_init = none ∧ decode (mB m2_init) 89 = .ok (.return_, 1) := ⟨rfl, by decide +kernel⟩
theorem d2_now_0 : Dal m2_now 0 0 1 := Or.inl ⟨0, by decide +kernel, rfl, rfl⟩
theorem d2_now_1 : Dgf m2_now 1 2 0 4 := ⟨11, by decide +kernel, f_X2_11, rfl⟩
theorem d2_now_4 : Dal m2_now 4 0 5 := Or.inl ⟨0, by decide +kernel, rfl, rfl⟩
theorem d2_now_5 : Dgf m2_now 5 2 2 8 := ⟨28, by decide +kernel, f_X2_28, rfl⟩
theorem d2_now_8 : Dc m2_now 8 .aaload 1 9 := ⟨by decide +kernel, rfl⟩
theorem d2_now_9 : (∃ n, mR m2_now = some (.object n)) ∧ decode (mB m2_now) 9 = .ok (.areturn, 1) := ⟨⟨_, rfl⟩, by decide +kernel⟩
theorem d2_startScript_0 : Dc m2_startScript 0 (.iconst 0) 1 1 := ⟨by decide +kernel, rfl⟩
theorem d2_startScript_1 : Dis m2_startScript 1 2 2 := Or.inl ⟨2, by decide +kernel, rfl, rfl⟩
theorem d2_startScript_2 : Dil m2_startScript 2 2 3 := Or.inl ⟨2, by decide +kernel, rfl, rfl⟩
theorem d2_startScript_3 : Dc m2_startScript 3 (.iconst 3) 1 4 := ⟨by decide +kernel, rfl⟩
theorem d2_startScript_4 : Dic m2_startScript 4 .ge 20 7 := ⟨(16), by decide +kernel, by decide, rfl⟩
theorem d2_startScript_7 : Dal m2_startScript 7 0 8 := Or.inl ⟨0, by decide +kernel, rfl, rfl⟩
theorem d2_startScript_8 : Dgf m2_startScript 8 2 4 11 := ⟨20, by decide +kernel, f_X2_20, rfl⟩
theorem d2_startScript_11 : Dil m2_startScript 11 2 12 := Or.inl ⟨2, by decide +kernel, rfl, rfl⟩
theorem d2_startScript_12 : Dc m2_startScript 12 (.iconst 0) 1 13 := ⟨by decide +kernel, rfl⟩
theorem d2_startScript_13 : Dc m2_startScript 13 .bastore 1 14 := ⟨by decide +kernel, rfl⟩
theorem d2_startScript_14 : Dc m2_startScript 14 (.iinc 2 1) 3 17 := ⟨by decide +kernel, rfl⟩
theorem d2_startScript_17 : Dgo m2_startScript 17 2 := ⟨(-15), by decide +kernel, by decide⟩
theorem d2_startScript_20 : Dc m2_startScript 20 (.iconst 0) 1 21 := ⟨by decide +kernel, rfl⟩
theorem d2_startScript_21 : Dis m2_startScript 21 2 22 := Or.inl ⟨2, by decide +kernel, rfl, rfl⟩
theorem d2_startScript_22 : Dil m2_startScript 22 2 23 := Or.inl ⟨2, by decide +kernel, rfl, rfl⟩
theorem d2_startScript_23 : Dc m2_startScript 23 (.bipush 31) 2 25 := ⟨by decide +kernel, rfl⟩
theorem d2_startScript_25 : Dic m2_startScript 25 .ge 41 28 := ⟨(16), by decide +kernel, by decide, rfl⟩
theorem d2_startScript_28 : Dal m2_startScript 28 0 29 := Or.inl ⟨0, by decide +kernel, rfl, rfl⟩
theorem d2_startScript_29 : Dgf m2_startScript 29 2 5 32 := ⟨24, by decide +kernel, f_X2_24, rfl⟩
theorem d2_startScript_32 : Dil m2_startScript 32 2 33 := Or.inl ⟨2, by decide +kernel, rfl, rfl⟩
theorem d2_startScript_33 : Dc m2_startScript 33 (.iconst 0) 1 34 := ⟨by decide +kernel, rfl⟩
theorem d2_startScript_34 : Dc m2_startScript 34 .bastore 1 35 := ⟨by decide +kernel, rfl⟩
theorem d2_startScript_35 : Dc m2_startScript 35 (.iinc 2 1) 3 38 := ⟨by decide +kernel, rfl⟩
theorem d2_startScript_38 : Dgo m2_startScript 38 22 := ⟨(-16), by decide +kernel, by decide⟩
theorem d2_startScript_41 : Dal m2_startScript 41 0 42 := Or.inl ⟨0, by decide +kernel, rfl, rfl⟩
theorem d2_startScript_42 : Dal m2_startScript 42 1 43 := Or.inl ⟨1, by decide +kernel, rfl, rfl⟩
theorem d2_startScript_43 : Div m2_startScript 43 m2_startAnew 1 46 := ⟨32, by decide +kernel, lk_X2_32, v_2_startAnew, rfl⟩
theorem d2_startScript_46 : mR m2_startScript = none ∧ decode (mB m2_startScript) 46 = .ok (.return_, 1) := ⟨rfl, by decide +kernel⟩
theorem d2_startAnew_0 : Dal m2_startAnew 0 0 1 := Or.inl ⟨0, by decide +kernel, rfl, rfl⟩
theorem d2_startAnew_1 : Div m2_startAnew 1 m2_keepOneMoment 0 4 := ⟨36, by decide +kernel, lk_X2_36, v_2_keepOneMoment, rfl⟩
theorem d2_startAnew_4 : Dal m2_startAnew 4 0 5 := Or.inl ⟨0, by decide +kernel, rfl, rfl⟩
theorem d2_startAnew_5 : Div m2_startAnew 5 m2_now 0 8 := ⟨39, by decide +kernel, lk_X2_39, v_2_now, rfl⟩
theorem d2_startAnew_8 : Div m2_startAnew 8 m1_makeEmpty 0 11 := ⟨43, by decide +kernel, lk_X2_43, v_1_makeEmpty, rfl⟩
theorem d2_startAnew_11 : Dal m2_startAnew 11 0 12 := Or.inl ⟨0, by decide +kernel, rfl, rfl⟩
theorem d2_startAnew_12 : Div m2_startAnew 12 m2_now 0 15 := ⟨39, by decide +kernel, lk_X2_39, v_2_now, rfl⟩
theorem d2_startAnew_15 : Dal m2_startAnew 15 1 16 := Or.inl ⟨1, by decide +kernel, rfl, rfl⟩
theorem d2_startAnew_16 : Dc m2_startAnew 16 (.iconst 0) 1 17 := ⟨by decide +kernel, rfl⟩
theorem d2_startAnew_17 : Div m2_startAnew 17 m1_comeFrom 2 20 := ⟨46, by decide +kernel, lk_X2_46, v_1_comeFrom, rfl⟩
theorem d2_startAnew_20 : Dal m2_startAnew 20 0 21 := Or.inl ⟨0, by decide +kernel, rfl, rfl⟩
theorem d2_startAnew_21 : Dal m2_startAnew 21 0 22 := Or.inl ⟨0, by decide +kernel, rfl, rfl⟩
theorem d2_startAnew_22 : Div m2_startAnew 22 m2_now 0 25 := ⟨39, by decide +kernel, lk_X2_39, v_2_now, rfl⟩
theorem d2_startAnew_25 : Dgf m2_startAnew 25 1 0 28 := ⟨50, by decide +kernel, f_X2_50, rfl⟩
theorem d2_startAnew_28 : Div m2_startAnew 28 m2_see 1 31 := ⟨53, by decide +kernel, lk_X2_53, v_2_see, rfl⟩
theorem d2_startAnew_31 : Dc m2_startAnew 31 .pop 1 32 := ⟨by decide +kernel, rfl⟩
theorem d2_startAnew_32 : mR m2_startAnew = none ∧ decode (mB m2_startAnew) 32 = .ok (.return_, 1) := ⟨rfl, by decide +kernel⟩
theorem d2_goOn_0 : Dal m2_goOn 0 0 1 := Or.inl ⟨0, by decide +kernel, rfl, rfl⟩
theorem d2_goOn_1 : Div m2_goOn 1 m2_now 0 4 := ⟨39, by decide +kernel, lk_X2_39, v_2_now, rfl⟩
theorem d2_goOn_4 : Das m2_goOn 4 3 5 := Or.inl ⟨3, by decide +kernel, rfl, rfl⟩
theorem d2_goOn_5 : Dal m2_goOn 5 0 6 := Or.inl ⟨0, by decide +kernel, rfl, rfl⟩
theorem d2_goOn_6 : Dgf m2_goOn 6 2 2 9 := ⟨28, by decide +kernel, f_X2_28, rfl⟩
theorem d2_goOn_9 : Dc m2_goOn 9 (.iconst 1) 1 10 := ⟨by decide +kernel, rfl⟩
theorem d2_goOn_10 : Dc m2_goOn 10 .iadd 1 11 := ⟨by decide +kernel, rfl⟩
theorem d2_goOn_11 : Dc m2_goOn 11 (.bipush 20) 2 13 := ⟨by decide +kernel, rfl⟩
theorem d2_goOn_13 : Dic m2_goOn 13 .ge 29 16 := ⟨(16), by decide +kernel, by decide, rfl⟩
theorem d2_goOn_16 : Dal m2_goOn 16 0 17 := Or.inl ⟨0, by decide +kernel, rfl, rfl⟩
theorem d2_goOn_17 : Dc m2_goOn 17 .dup 1 18 := ⟨by decide +kernel, rfl⟩
theorem d2_goOn_18 : Dgf m2_goOn 18 2 2 21 := ⟨28, by decide +kernel, f_X2_28, rfl⟩
theorem d2_goOn_21 : Dc m2_goOn 21 (.iconst 1) 1 22 := ⟨by decide +kernel, rfl⟩
theorem d2_goOn_22 : Dc m2_goOn 22 .iadd 1 23 := ⟨by decide +kernel, rfl⟩
theorem d2_goOn_23 : Dpf m2_goOn 23 2 2 .int false 26 := ⟨28, by decide +kernel, f_X2_28, p_X2_X2_2, rfl⟩
theorem d2_goOn_26 : Dgo m2_goOn 26 33 := ⟨7, by decide +kernel, by decide⟩
theorem d2_goOn_29 : Dal m2_goOn 29 0 30 := Or.inl ⟨0, by decide +kernel, rfl, rfl⟩
theorem d2_goOn_30 : Div m2_goOn 30 m2_forgetEarliest 0 33 := ⟨57, by decide +kernel, lk_X2_57, v_2_forgetEarliest, rfl⟩
theorem d2_goOn_33 : Dal m2_goOn 33 0 34 := Or.inl ⟨0, by decide +kernel, rfl, rfl⟩
theorem d2_goOn_34 : Dal m2_goOn 34 0 35 := Or.inl ⟨0, by decide +kernel, rfl, rfl⟩
theorem d2_goOn_35 : Dgf m2_goOn 35 2 2 38 := ⟨28, by decide +kernel, f_X2_28, rfl⟩
theorem d2_goOn_38 : Dc m2_goOn 38 (.iconst 1) 1 39 := ⟨by decide +kernel, rfl⟩
theorem d2_goOn_39 : Dc m2_goOn 39 .iadd 1 40 := ⟨by decide +kernel, rfl⟩
theorem d2_goOn_40 : Dpf m2_goOn 40 2 1 .int false 43 := ⟨60, by decide +kernel, f_X2_60, p_X2_X2_1, rfl⟩
theorem d2_goOn_43 : Dal m2_goOn 43 0 44 := Or.inl ⟨0, by decide +kernel, rfl, rfl⟩
theorem d2_goOn_44 : Div m2_goOn 44 m2_now 0 47 := ⟨39, by decide +kernel, lk_X2_39, v_2_now, rfl⟩
theorem d2_goOn_47 : Dal m2_goOn 47 3 48 := Or.inl ⟨3, by decide +kernel, rfl, rfl⟩
theorem d2_goOn_48 : Div m2_goOn 48 m1_makeLike 1 51 := ⟨63, by decide +kernel, lk_X2_63, v_1_makeLike, rfl⟩
theorem d2_goOn_51 : Dal m2_goOn 51 0 52 := Or.inl ⟨0, by decide +kernel, rfl, rfl⟩
theorem d2_goOn_52 : Div m2_goOn 52 m2_now 0 55 := ⟨39, by decide +kernel, lk_X2_39, v_2_now, rfl⟩
theorem d2_goOn_55 : Dal m2_goOn 55 1 56 := Or.inl ⟨1, by decide +kernel, rfl, rfl⟩
theorem d2_goOn_56 : Dil m2_goOn 56 2 57 := Or.inl ⟨2, by decide +kernel, rfl, rfl⟩
theorem d2_goOn_57 : Div m2_goOn 57 m1_comeFrom 2 60 := ⟨46, by decide +kernel, lk_X2_46, v_1_comeFrom, rfl⟩
theorem d2_goOn_60 : Dal m2_goOn 60 0 61 := Or.inl ⟨0, by decide +kernel, rfl, rfl⟩
theorem d2_goOn_61 : Dal m2_goOn 61 0 62 := Or.inl ⟨0, by decide +kernel, rfl, rfl⟩
theorem d2_goOn_62 : Div m2_goOn 62 m2_now 0 65 := ⟨39, by decide +kernel, lk_X2_39, v_2_now, rfl⟩
theorem d2_goOn_65 : Dgf m2_goOn 65 1 0 68 := ⟨50, by decide +kernel, f_X2_50, rfl⟩
theorem d2_goOn_68 : Div m2_goOn 68 m2_see 1 71 := ⟨53, by decide +kernel, lk_X2_53, v_2_see, rfl⟩
theorem d2_goOn_71 : mR m2_goOn = some .boolean ∧ decode (mB m2_goOn) 71 = .ok (.ireturn, 1) := ⟨rfl, by decide +kernel⟩
theorem d2_turnBack_0 : Dil m2_turnBack 0 1 1 := Or.inl ⟨1, by decide +kernel, rfl, rfl⟩
theorem d2_turnBack_1 : Dif m2_turnBack 1 .lt 12 4 := ⟨(11), by decide +kernel, by decide, rfl⟩
theorem d2_turnBack_4 : Dil m2_turnBack 4 1 5 := Or.inl ⟨1, by decide +kernel, rfl, rfl⟩
theorem d2_turnBack_5 : Dal m2_turnBack 5 0 6 := Or.inl ⟨0, by decide +kernel, rfl, rfl⟩
theorem d2_turnBack_6 : Dgf m2_turnBack 6 2 2 9 := ⟨28, by decide +kernel, f_X2_28, rfl⟩
theorem d2_turnBack_9 : Dic m2_turnBack 9 .le 14 12 := ⟨(5), by decide +kernel, by decide, rfl⟩
theorem d2_turnBack_12 : Dc m2_turnBack 12 (.iconst 0) 1 13 := ⟨by decide +kernel, rfl⟩
theorem d2_turnBack_13 : mR m2_turnBack = some .boolean ∧ decode (mB m2_turnBack) 13 = .ok (.ireturn, 1) := ⟨rfl, by decide +kernel⟩
theorem d2_turnBack_14 : Dal m2_turnBack 14 0 15 := Or.inl ⟨0, by decide +kernel, rfl, rfl⟩
theorem d2_turnBack_15 : Dc m2_turnBack 15 .dup 1 16 := ⟨by decide +kernel, rfl⟩
theorem d2_turnBack_16 : Dgf m2_turnBack 16 2 2 19 := ⟨28, by decide +kernel, f_X2_28, rfl⟩
theorem d2_turnBack_19 : Dil m2_turnBack 19 1 20 := Or.inl ⟨1, by decide +kernel, rfl, rfl⟩
theorem d2_turnBack_20 : Dc m2_turnBack 20 .isub 1 21 := ⟨by decide +kernel, rfl⟩
theorem d2_turnBack_21 : Dpf m2_turnBack 21 2 2 .int false 24 := ⟨28, by decide +kernel, f_X2_28, p_X2_X2_2, rfl⟩
theorem d2_turnBack_24 : Dc m2_turnBack 24 (.iconst 1) 1 25 := ⟨by decide +kernel, rfl⟩
theorem d2_turnBack_25 : mR m2_turnBack = some .boolean ∧ decode (mB m2_turnBack) 25 = .ok (.ireturn, 1) := ⟨rfl, by decide +kernel⟩
theorem d2_turnForth_0 : Dal m2_turnForth 0 0 1 := Or.inl ⟨0, by decide +kernel, rfl, rfl⟩
theorem d2_turnForth_1 : Dgf m2_turnForth 1 2 2 4 := ⟨28, by decide +kernel, f_X2_28, rfl⟩
theorem d2_turnForth_4 : Dc m2_turnForth 4 (.iconst 1) 1 5 := ⟨by decide +kernel, rfl⟩
theorem d2_turnForth_5 : Dc m2_turnForth 5 .iadd 1 6 := ⟨by decide +kernel, rfl⟩
theorem d2_turnForth_6 : Dal m2_turnForth 6 0 7 := Or.inl ⟨0, by decide +kernel, rfl, rfl⟩
theorem d2_turnForth_7 : Dgf m2_turnForth 7 2 1 10 := ⟨60, by decide +kernel, f_X2_60, rfl⟩
theorem d2_turnForth_10 : Dic m2_turnForth 10 .lt 15 13 := ⟨(5), by decide +kernel, by decide, rfl⟩
theorem d2_turnForth_13 : Dc m2_turnForth 13 (.iconst 0) 1 14 := ⟨by decide +kernel, rfl⟩
theorem d2_turnForth_14 : mR m2_turnForth = some .boolean ∧ decode (mB m2_turnForth) 14 = .ok (.ireturn, 1) := ⟨rfl, by decide +kernel⟩
theorem d2_turnForth_15 : Dal m2_turnForth 15 0 16 := Or.inl ⟨0, by decide +kernel, rfl, rfl⟩
theorem d2_turnForth_16 : Dc m2_turnForth 16 .dup 1 17 := ⟨by decide +kernel, rfl⟩
theorem d2_turnForth_17 : Dgf m2_turnForth 17 2 2 20 := ⟨28, by decide +kernel, f_X2_28, rfl⟩
theorem d2_turnForth_20 : Dc m2_turnForth 20 (.iconst 1) 1 21 := ⟨by decide +kernel, rfl⟩
theorem d2_turnForth_21 : Dc m2_turnForth 21 .iadd 1 22 := ⟨by decide +kernel, rfl⟩
theorem d2_turnForth_22 : Dpf m2_turnForth 22 2 2 .int false 25 := ⟨28, by decide +kernel, f_X2_28, p_X2_X2_2, rfl⟩
theorem d2_turnForth_25 : Dc m2_turnForth 25 (.iconst 1) 1 26 := ⟨by decide +kernel, rfl⟩
theorem d2_turnForth_26 : mR m2_turnForth = some .boolean ∧ decode (mB m2_turnForth) 26 = .ok (.ireturn, 1) := ⟨rfl, by decide +kernel⟩
theorem d2_keepIn_0 : Dil m2_keepIn 0 1 1 := Or.inl ⟨1, by decide +kernel, rfl, rfl⟩
theorem d2_keepIn_1 : Dif m2_keepIn 1 .lt 29 4 := ⟨(28), by decide +kernel, by decide, rfl⟩
theorem d2_keepIn_4 : Dil m2_keepIn 4 1 5 := Or.inl ⟨1, by decide +kernel, rfl, rfl⟩
theorem d2_keepIn_5 : Dc m2_keepIn 5 (.iconst 3) 1 6 := ⟨by decide +kernel, rfl⟩
theorem d2_keepIn_6 : Dic m2_keepIn 6 .ge 29 9 := ⟨(23), by decide +kernel, by decide, rfl⟩
theorem d2_keepIn_9 : Dal m2_keepIn 9 0 10 := Or.inl ⟨0, by decide +kernel, rfl, rfl⟩
theorem d2_keepIn_10 : Dgf m2_keepIn 10 2 3 13 := ⟨17, by decide +kernel, f_X2_17, rfl⟩
theorem d2_keepIn_13 : Dil m2_keepIn 13 1 14 := Or.inl ⟨1, by decide +kernel, rfl, rfl⟩
theorem d2_keepIn_14 : Dc m2_keepIn 14 .aaload 1 15 := ⟨by decide +kernel, rfl⟩
theorem d2_keepIn_15 : Dal m2_keepIn 15 0 16 := Or.inl ⟨0, by decide +kernel, rfl, rfl⟩
theorem d2_keepIn_16 : Div m2_keepIn 16 m2_now 0 19 := ⟨39, by decide +kernel, lk_X2_39, v_2_now, rfl⟩
theorem d2_keepIn_19 : Div m2_keepIn 19 m1_makeLike 1 22 := ⟨63, by decide +kernel, lk_X2_63, v_1_makeLike, rfl⟩
theorem d2_keepIn_22 : Dal m2_keepIn 22 0 23 := Or.inl ⟨0, by decide +kernel, rfl, rfl⟩
theorem d2_keepIn_23 : Dgf m2_keepIn 23 2 4 26 := ⟨20, by decide +kernel, f_X2_20, rfl⟩
theorem d2_keepIn_26 : Dil m2_keepIn 26 1 27 := Or.inl ⟨1, by decide +kernel, rfl, rfl⟩
theorem d2_keepIn_27 : Dc m2_keepIn 27 (.iconst 1) 1 28 := ⟨by decide +kernel, rfl⟩
theorem d2_keepIn_28 : Dc m2_keepIn 28 .bastore 1 29 := ⟨by decide +kernel, rfl⟩
theorem d2_keepIn_29 : mR m2_keepIn = none ∧ decode (mB m2_keepIn) 29 = .ok (.return_, 1) := ⟨rfl, by decide +kernel⟩
theorem d2_takeFrom_0 : Dil m2_takeFrom 0 1 1 := Or.inl ⟨1, by decide +kernel, rfl, rfl⟩
theorem d2_takeFrom_1 : Dif m2_takeFrom 1 .lt 18 4 := ⟨(17), by decide +kernel, by decide, rfl⟩
theorem d2_takeFrom_4 : Dil m2_takeFrom 4 1 5 := Or.inl ⟨1, by decide +kernel, rfl, rfl⟩
theorem d2_takeFrom_5 : Dc m2_takeFrom 5 (.iconst 3) 1 6 := ⟨by decide +kernel, rfl⟩
theorem d2_takeFrom_6 : Dic m2_takeFrom 6 .ge 18 9 := ⟨(12), by decide +kernel, by decide, rfl⟩
theorem d2_takeFrom_9 : Dal m2_takeFrom 9 0 10 := Or.inl ⟨0, by decide +kernel, rfl, rfl⟩
theorem d2_takeFrom_10 : Dgf m2_takeFrom 10 2 4 13 := ⟨20, by decide +kernel, f_X2_20, rfl⟩
theorem d2_takeFrom_13 : Dil m2_takeFrom 13 1 14 := Or.inl ⟨1, by decide +kernel, rfl, rfl⟩
theorem d2_takeFrom_14 : Dc m2_takeFrom 14 .baload 1 15 := ⟨by decide +kernel, rfl⟩
theorem d2_takeFrom_15 : Dif m2_takeFrom 15 .ne 20 18 := ⟨(5), by decide +kernel, by decide, rfl⟩
theorem d2_takeFrom_18 : Dc m2_takeFrom 18 (.iconst 0) 1 19 := ⟨by decide +kernel, rfl⟩
theorem d2_takeFrom_19 : mR m2_takeFrom = some .boolean ∧ decode (mB m2_takeFrom) 19 = .ok (.ireturn, 1) := ⟨rfl, by decide +kernel⟩
theorem d2_takeFrom_20 : Dal m2_takeFrom 20 0 21 := Or.inl ⟨0, by decide +kernel, rfl, rfl⟩
theorem d2_takeFrom_21 : Div m2_takeFrom 21 m2_keepOneMoment 0 24 := ⟨36, by decide +kernel, lk_X2_36, v_2_keepOneMoment, rfl⟩
theorem d2_takeFrom_24 : Dal m2_takeFrom 24 0 25 := Or.inl ⟨0, by decide +kernel, rfl, rfl⟩
theorem d2_takeFrom_25 : Div m2_takeFrom 25 m2_now 0 28 := ⟨39, by decide +kernel, lk_X2_39, v_2_now, rfl⟩
theorem d2_takeFrom_28 : Dal m2_takeFrom 28 0 29 := Or.inl ⟨0, by decide +kernel, rfl, rfl⟩
theorem d2_takeFrom_29 : Dgf m2_takeFrom 29 2 3 32 := ⟨17, by decide +kernel, f_X2_17, rfl⟩
theorem d2_takeFrom_32 : Dil m2_takeFrom 32 1 33 := Or.inl ⟨1, by decide +kernel, rfl, rfl⟩
theorem d2_takeFrom_33 : Dc m2_takeFrom 33 .aaload 1 34 := ⟨by decide +kernel, rfl⟩
theorem d2_takeFrom_34 : Div m2_takeFrom 34 m1_makeLike 1 37 := ⟨63, by decide +kernel, lk_X2_63, v_1_makeLike, rfl⟩
theorem d2_takeFrom_37 : Dc m2_takeFrom 37 (.iconst 1) 1 38 := ⟨by decide +kernel, rfl⟩
theorem d2_takeFrom_38 : mR m2_takeFrom = some .boolean ∧ decode (mB m2_takeFrom) 38 = .ok (.ireturn, 1) := ⟨rfl, by decide +kernel⟩
theorem d2_seenNodes_0 : Dc m2_seenNodes 0 (.iconst 0) 1 1 := ⟨by decide +kernel, rfl⟩
theorem d2_seenNodes_1 : Dis m2_seenNodes 1 1 2 := Or.inl ⟨1, by decide +kernel, rfl, rfl⟩
theorem d2_seenNodes_2 : Dc m2_seenNodes 2 (.iconst 0) 1 3 := ⟨by decide +kernel, rfl⟩
theorem d2_seenNodes_3 : Dis m2_seenNodes 3 2 4 := Or.inl ⟨2, by decide +kernel, rfl, rfl⟩
theorem d2_seenNodes_4 : Dil m2_seenNodes 4 2 5 := Or.inl ⟨2, by decide +kernel, rfl, rfl⟩
theorem d2_seenNodes_5 : Dc m2_seenNodes 5 (.bipush 31) 2 7 := ⟨by decide +kernel, rfl⟩
theorem d2_seenNodes_7 : Dic m2_seenNodes 7 .ge 33 10 := ⟨(26), by decide +kernel, by decide, rfl⟩
theorem d2_seenNodes_10 : Dil m2_seenNodes 10 1 11 := Or.inl ⟨1, by decide +kernel, rfl, rfl⟩
theorem d2_seenNodes_11 : Dal m2_seenNodes 11 0 12 := Or.inl ⟨0, by decide +kernel, rfl, rfl⟩
theorem d2_seenNodes_12 : Dgf m2_seenNodes 12 2 5 15 := ⟨24, by decide +kernel, f_X2_24, rfl⟩
theorem d2_seenNodes_15 : Dil m2_seenNodes 15 2 16 := Or.inl ⟨2, by decide +kernel, rfl, rfl⟩
theorem d2_seenNodes_16 : Dc m2_seenNodes 16 .baload 1 17 := ⟨by decide +kernel, rfl⟩
theorem d2_seenNodes_17 : Dif m2_seenNodes 17 .eq 24 20 := ⟨(7), by decide +kernel, by decide, rfl⟩
theorem d2_seenNodes_20 : Dc m2_seenNodes 20 (.iconst 1) 1 21 := ⟨by decide +kernel, rfl⟩
theorem d2_seenNodes_21 : Dgo m2_seenNodes 21 25 := ⟨4, by decide +kernel, by decide⟩
theorem d2_seenNodes_24 : Dc m2_seenNodes 24 (.iconst 0) 1 25 := ⟨by decide +kernel, rfl⟩
theorem d2_seenNodes_25 : Dc m2_seenNodes 25 .iadd 1 26 := ⟨by decide +kernel, rfl⟩
theorem d2_seenNodes_26 : Dis m2_seenNodes 26 1 27 := Or.inl ⟨1, by decide +kernel, rfl, rfl⟩
theorem d2_seenNodes_27 : Dc m2_seenNodes 27 (.iinc 2 1) 3 30 := ⟨by decide +kernel, rfl⟩
theorem d2_seenNodes_30 : Dgo m2_seenNodes 30 4 := ⟨(-26), by decide +kernel, by decide⟩
theorem d2_seenNodes_33 : Dil m2_seenNodes 33 1 34 := Or.inl ⟨1, by decide +kernel, rfl, rfl⟩
theorem d2_seenNodes_34 : mR m2_seenNodes = some .int ∧ decode (mB m2_seenNodes) 34 = .ok (.ireturn, 1) := ⟨rfl, by decide +kernel⟩
theorem d2_usedSlots_0 : Dc m2_usedSlots 0 (.iconst 0) 1 1 := ⟨by decide +kernel, rfl⟩
theorem d2_usedSlots_1 : Dis m2_usedSlots 1 1 2 := Or.inl ⟨1, by decide +kernel, rfl, rfl⟩
theorem d2_usedSlots_2 : Dc m2_usedSlots 2 (.iconst 0) 1 3 := ⟨by decide +kernel, rfl⟩
theorem d2_usedSlots_3 : Dis m2_usedSlots 3 2 4 := Or.inl ⟨2, by decide +kernel, rfl, rfl⟩
theorem d2_usedSlots_4 : Dil m2_usedSlots 4 2 5 := Or.inl ⟨2, by decide +kernel, rfl, rfl⟩
theorem d2_usedSlots_5 : Dc m2_usedSlots 5 (.iconst 3) 1 6 := ⟨by decide +kernel, rfl⟩
theorem d2_usedSlots_6 : Dic m2_usedSlots 6 .ge 32 9 := ⟨(26), by decide +kernel, by decide, rfl⟩
theorem d2_usedSlots_9 : Dil m2_usedSlots 9 1 10 := Or.inl ⟨1, by decide +kernel, rfl, rfl⟩
theorem d2_usedSlots_10 : Dal m2_usedSlots 10 0 11 := Or.inl ⟨0, by decide +kernel, rfl, rfl⟩
theorem d2_usedSlots_11 : Dgf m2_usedSlots 11 2 4 14 := ⟨20, by decide +kernel, f_X2_20, rfl⟩
theorem d2_usedSlots_14 : Dil m2_usedSlots 14 2 15 := Or.inl ⟨2, by decide +kernel, rfl, rfl⟩
theorem d2_usedSlots_15 : Dc m2_usedSlots 15 .baload 1 16 := ⟨by decide +kernel, rfl⟩
theorem d2_usedSlots_16 : Dif m2_usedSlots 16 .eq 23 19 := ⟨(7), by decide +kernel, by decide, rfl⟩
theorem d2_usedSlots_19 : Dc m2_usedSlots 19 (.iconst 1) 1 20 := ⟨by decide +kernel, rfl⟩
theorem d2_usedSlots_20 : Dgo m2_usedSlots 20 24 := ⟨4, by decide +kernel, by decide⟩
theorem d2_usedSlots_23 : Dc m2_usedSlots 23 (.iconst 0) 1 24 := ⟨by decide +kernel, rfl⟩
theorem d2_usedSlots_24 : Dc m2_usedSlots 24 .iadd 1 25 := ⟨by decide +kernel, rfl⟩
theorem d2_usedSlots_25 : Dis m2_usedSlots 25 1 26 := Or.inl ⟨1, by decide +kernel, rfl, rfl⟩
theorem d2_usedSlots_26 : Dc m2_usedSlots 26 (.iinc 2 1) 3 29 := ⟨by decide +kernel, rfl⟩
theorem d2_usedSlots_29 : Dgo m2_usedSlots 29 4 := ⟨(-25), by decide +kernel, by decide⟩
theorem d2_usedSlots_32 : Dil m2_usedSlots 32 1 33 := Or.inl ⟨1, by decide +kernel, rfl, rfl⟩
theorem d2_usedSlots_33 : mR m2_usedSlots = some .int ∧ decode (mB m2_usedSlots) 33 = .ok (.ireturn, 1) := ⟨rfl, by decide +kernel⟩
theorem d2_keepOneMoment_0 : Dal m2_keepOneMoment 0 0 1 := Or.inl ⟨0, by decide +kernel, rfl, rfl⟩
theorem d2_keepOneMoment_1 : Dc m2_keepOneMoment 1 (.iconst 1) 1 2 := ⟨by decide +kernel, rfl⟩
theorem d2_keepOneMoment_2 : Dpf m2_keepOneMoment 2 2 1 .int false 5 := ⟨60, by decide +kernel, f_X2_60, p_X2_X2_1, rfl⟩
theorem d2_keepOneMoment_5 : Dal m2_keepOneMoment 5 0 6 := Or.inl ⟨0, by decide +kernel, rfl, rfl⟩
theorem d2_keepOneMoment_6 : Dc m2_keepOneMoment 6 (.iconst 0) 1 7 := ⟨by decide +kernel, rfl⟩
theorem d2_keepOneMoment_7 : Dpf m2_keepOneMoment 7 2 2 .int false 10 := ⟨28, by decide +kernel, f_X2_28, p_X2_X2_2, rfl⟩
theorem d2_keepOneMoment_10 : mR m2_keepOneMoment = none ∧ decode (mB m2_keepOneMoment) 10 = .ok (.return_, 1) := ⟨rfl, by decide +kernel⟩
theorem d2_forgetEarliest_0 : Dal m2_forgetEarliest 0 0 1 := Or.inl ⟨0, by decide +kernel, rfl, rfl⟩
theorem d2_forgetEarliest_1 : Dgf m2_forgetEarliest 1 2 0 4 := ⟨11, by decide +kernel, f_X2_11, rfl⟩
theorem d2_forgetEarliest_4 : Dc m2_forgetEarliest 4 (.iconst 0) 1 5 := ⟨by decide +kernel, rfl⟩
theorem d2_forgetEarliest_5 : Dc m2_forgetEarliest 5 .aaload 1 6 := ⟨by decide +kernel, rfl⟩
theorem d2_forgetEarliest_6 : Das m2_forgetEarliest 6 1 7 := Or.inl ⟨1, by decide +kernel, rfl, rfl⟩
theorem d2_forgetEarliest_7 : Dc m2_forgetEarliest 7 (.iconst 1) 1 8 := ⟨by decide +kernel, rfl⟩
theorem d2_forgetEarliest_8 : Dis m2_forgetEarliest 8 2 9 := Or.inl ⟨2, by decide +kernel, rfl, rfl⟩
theorem d2_forgetEarliest_9 : Dil m2_forgetEarliest 9 2 10 := Or.inl ⟨2, by decide +kernel, rfl, rfl⟩
theorem d2_forgetEarliest_10 : Dc m2_forgetEarliest 10 (.bipush 20) 2 12 := ⟨by decide +kernel, rfl⟩
theorem d2_forgetEarliest_12 : Dic m2_forgetEarliest 12 .ge 35 15 := ⟨(23), by decide +kernel, by decide, rfl⟩
theorem d2_forgetEarliest_15 : Dal m2_forgetEarliest 15 0 16 := Or.inl ⟨0, by decide +kernel, rfl, rfl⟩
theorem d2_forgetEarliest_16 : Dgf m2_forgetEarliest 16 2 0 19 := ⟨11, by decide +kernel, f_X2_11, rfl⟩
theorem d2_forgetEarliest_19 : Dil m2_forgetEarliest 19 2 20 := Or.inl ⟨2, by decide +kernel, rfl, rfl⟩
theorem d2_forgetEarliest_20 : Dc m2_forgetEarliest 20 (.iconst 1) 1 21 := ⟨by decide +kernel, rfl⟩
theorem d2_forgetEarliest_21 : Dc m2_forgetEarliest 21 .isub 1 22 := ⟨by decide +kernel, rfl⟩
theorem d2_forgetEarliest_22 : Dal m2_forgetEarliest 22 0 23 := Or.inl ⟨0, by decide +kernel, rfl, rfl⟩
theorem d2_forgetEarliest_23 : Dgf m2_forgetEarliest 23 2 0 26 := ⟨11, by decide +kernel, f_X2_11, rfl⟩
theorem d2_forgetEarliest_26 : Dil m2_forgetEarliest 26 2 27 := Or.inl ⟨2, by decide +kernel, rfl, rfl⟩
theorem d2_forgetEarliest_27 : Dc m2_forgetEarliest 27 .aaload 1 28 := ⟨by decide +kernel, rfl⟩
theorem d2_forgetEarliest_28 : Dc m2_forgetEarliest 28 .aastore 1 29 := ⟨by decide +kernel, rfl⟩
theorem d2_forgetEarliest_29 : Dc m2_forgetEarliest 29 (.iinc 2 1) 3 32 := ⟨by decide +kernel, rfl⟩
theorem d2_forgetEarliest_32 : Dgo m2_forgetEarliest 32 9 := ⟨(-23), by decide +kernel, by decide⟩
theorem d2_forgetEarliest_35 : Dal m2_forgetEarliest 35 0 36 := Or.inl ⟨0, by decide +kernel, rfl, rfl⟩
theorem d2_forgetEarliest_36 : Dgf m2_forgetEarliest 36 2 0 39 := ⟨11, by decide +kernel, f_X2_11, rfl⟩
theorem d2_forgetEarliest_39 : Dc m2_forgetEarliest 39 (.bipush 19) 2 41 := ⟨by decide +kernel, rfl⟩
theorem d2_forgetEarliest_41 : Dal m2_forgetEarliest 41 1 42 := Or.inl ⟨1, by decide +kernel, rfl, rfl⟩
theorem d2_forgetEarliest_42 : Dc m2_forgetEarliest 42 .aastore 1 43 := ⟨by decide +kernel, rfl⟩
theorem d2_forgetEarliest_43 : mR m2_forgetEarliest = none ∧ decode (mB m2_forgetEarliest) 43 = .ok (.return_, 1) := ⟨rfl, by decide +kernel⟩
theorem d2_see_0 : Dil m2_see 0 1 1 := Or.inl ⟨1, by decide +kernel, rfl, rfl⟩
theorem d2_see_1 : Dif m2_see 1 .lt 10 4 := ⟨(9), by decide +kernel, by decide, rfl⟩
theorem d2_see_4 : Dil m2_see 4 1 5 := Or.inl ⟨1, by decide +kernel, rfl, rfl⟩
theorem d2_see_5 : Dc m2_see 5 (.bipush 31) 2 7 := ⟨by decide +kernel, rfl⟩
theorem d2_see_7 : Dic m2_see 7 .lt 12 10 := ⟨(5), by decide +kernel, by decide, rfl⟩
theorem d2_see_10 : Dc m2_see 10 (.iconst 0) 1 11 := ⟨by decide +kernel, rfl⟩
theorem d2_see_11 : mR m2_see = some .boolean ∧ decode (mB m2_see) 11 = .ok (.ireturn, 1) := ⟨rfl, by decide +kernel⟩
theorem d2_see_12 : Dal m2_see 12 0 13 := Or.inl ⟨0, by decide +kernel, rfl, rfl⟩
theorem d2_see_13 : Dgf m2_see 13 2 5 16 := ⟨24, by decide +kernel, f_X2_24, rfl⟩
theorem d2_see_16 : Dil m2_see 16 1 17 := Or.inl ⟨1, by decide +kernel, rfl, rfl⟩
theorem d2_see_17 : Dc m2_see 17 .baload 1 18 := ⟨by decide +kernel, rfl⟩
theorem d2_see_18 : Dis m2_see 18 2 19 := Or.inl ⟨2, by decide +kernel, rfl, rfl⟩
theorem d2_see_19 : Dal m2_see 19 0 20 := Or.inl ⟨0, by decide +kernel, rfl, rfl⟩
theorem d2_see_20 : Dgf m2_see 20 2 5 23 := ⟨24, by decide +kernel, f_X2_24, rfl⟩
theorem d2_see_23 : Dil m2_see 23 1 24 := Or.inl ⟨1, by decide +kernel, rfl, rfl⟩
theorem d2_see_24 : Dc m2_see 24 (.iconst 1) 1 25 := ⟨by decide +kernel, rfl⟩
theorem d2_see_25 : Dc m2_see 25 .bastore 1 26 := ⟨by decide +kernel, rfl⟩
theorem d2_see_26 : Dil m2_see 26 2 27 := Or.inl ⟨2, by decide +kernel, rfl, rfl⟩
theorem d2_see_27 : mR m2_see = some .boolean ∧ decode (mB m2_see) 27 = .ok (.ireturn, 1) := ⟨rfl, by decide +kernel⟩
end
section
/-! ===== decode rows of X0 ===== -/
theorem d0_init_0 : Dal m0_init 0 0 1 := Or.inl ⟨0, by decide +kernel, rfl, rfl⟩
theorem d0_init_1 : Doi m0_init 1 4 := ⟨3, by decide +kernel, oi_X0_3, oi_i, oi_c, rfl⟩
theorem d0_init_4 : Dal m0_init 4 0 5 := Or.inl ⟨0, by decide +kernel, rfl, rfl⟩
theorem d0_init_5 : Dc m0_init 5 (.sipush 1984) 3 8 := ⟨by decide +kernel, rfl⟩
theorem d0_init_8 : Dna m0_init 8 0 10 := ⟨.int, by decide +kernel, rfl, na_int, rfl, by decide, ⟨by decide, by decide⟩, rfl⟩
theorem d0_init_10 : Dpf m0_init 10 0 1 (.array .int) true 13 := ⟨9, by decide +kernel, f_X0_9, p_X0_X0_1, rfl⟩
theorem d0_init_13 : Dal m0_init 13 0 14 := Or.inl ⟨0, by decide +kernel, rfl, rfl⟩
theorem d0_init_14 : Dc m0_init 14 (.sipush 1984) 3 17 := ⟨by decide +kernel, rfl⟩
theorem d0_init_17 : Dna m0_init 17 0 19 := ⟨.int, by decide +kernel, rfl, na_int, rfl, by decide, ⟨by decide, by decide⟩, rfl⟩
theorem d0_init_19 : Dpf m0_init 19 0 2 (.array .int) true 22 := ⟨15, by decide +kernel, f_X0_15, p_X0_X0_2, rfl⟩
theorem d0_init_22 : Dal m0_init 22 0 23 := Or.inl ⟨0, by decide +kernel, rfl, rfl⟩
theorem d0_init_23 : Dc m0_init 23 (.sipush 1984) 3 26 := ⟨by decide +kernel, rfl⟩
theorem d0_init_26 : Dna m0_init 26 0 28 := ⟨.int, by decide +kernel, rfl, na_int, rfl, by decide, ⟨by decide, by decide⟩, rfl⟩
theorem d0_init_28 : Dpf m0_init 28 0 3 (.array .int) true 31 := ⟨18, by decide +kernel, f_X0_18, p_X0_X0_3, rfl⟩
theorem d0_init_31 : Dal m0_init 31 0 32 := Or.inl ⟨0, by decide +kernel, rfl, rfl⟩
theorem d0_init_32 : Dc m0_init 32 (.sipush 1984) 3 35 := ⟨by decide +kernel, rfl⟩
theorem d0_init_35 : Dna m0_init 35 0 37 := ⟨.int, by decide +kernel, rfl, na_int, rfl, by decide, ⟨by decide, by decide⟩, rfl⟩
theorem d0_init_37 : Dpf m0_init 37 0 4 (.array .int) true 40 := ⟨21, by decide +kernel, f_X0_21, p_X0_X0_4, rfl⟩
theorem d0_init_40 : Dal m0_init 40 0 41 := Or.inl ⟨0, by decide +kernel, rfl, rfl⟩
theorem d0_init_41 : Dc m0_init 41 (.bipush 12) 2 43 := ⟨by decide +kernel, rfl⟩
theorem d0_init_43 : Dna m0_init 43 0 45 := ⟨.int, by decide +kernel, rfl, na_int, rfl, by decide, ⟨by decide, by decide⟩, rfl⟩
theorem d0_init_45 : Dpf m0_init 45 0 6 (.array .int) true 48 := ⟨24, by decide +kernel, f_X0_24, p_X0_X0_6, rfl⟩
theorem d0_init_48 : Dal m0_init 48 0 49 := Or.inl ⟨0, by decide +kernel, rfl, rfl⟩
theorem d0_init_49 : Dnew m0_init 49 1 4 [vI 0, vI 0, vN, vN] 52 := ⟨27, RX1, TX1, tyX1, by decide +kernel, rfl, inGX1, tyX1_ok, tG_of (List.mem_of_getElem? (i := 202) (by decide +kernel)) (by decide +kernel), tG_of (List.mem_of_getElem? (i := 149) (by decide +kernel)) (by decide +kernel), tG_of (List.mem_of_getElem? (i := 68) (by decide +kernel)) (by decide +kernel), nw_X1.1, nw_X1.2, rfl⟩
theorem d0_init_52 : Dc m0_init 52 .dup 1 53 := ⟨by decide +kernel, rfl⟩
theorem d0_init_53 : Dii m0_init 53 m1_init 56 := ⟨29, by decide +kernel, ok_1_init, (Or.inr ⟨RX5, by decide +kernel⟩), by decide +kernel, by decide, rfl, i_1_init, rfl, rfl⟩
theorem d0_init_56 : Dpf m0_init 56 0 7 (.object "PictureScript$Moment") true 59 := ⟨30, by decide +kernel, f_X0_30, p_X0_X0_7, rfl⟩
theorem d0_init_59 : mR m0_init = none ∧ decode (mB m0_init) 59 = .ok (.return_, 1) := ⟨rfl, by decide +kernel⟩
theorem d0_draw_0 : Dal m0_draw 0 0 1 := Or.inl ⟨0, by decide +kernel, rfl, rfl⟩
theorem d0_draw_1 : Dc m0_draw 1 (.iconst 0) 1 2 := ⟨by decide +kernel, rfl⟩
theorem d0_draw_2 : Dpf m0_draw 2 0 0 .int false 5 := ⟨34, by decide +kernel, f_X0_34, p_X0_X0_0, rfl⟩
theorem d0_draw_5 : Dal m0_draw 5 0 6 := Or.inl ⟨0, by decide +kernel, rfl, rfl⟩
theorem d0_draw_6 : Dc m0_draw 6 (.iconst 0) 1 7 := ⟨by decide +kernel, rfl⟩
theorem d0_draw_7 : Dpf m0_draw 7 0 5 .int false 10 := ⟨38, by decide +kernel, f_X0_38, p_X0_X0_5, rfl⟩
theorem d0_draw_10 : Dal m0_draw 10 0 11 := Or.inl ⟨0, by decide +kernel, rfl, rfl⟩
theorem d0_draw_11 : Dgf m0_draw 11 0 1 14 := ⟨9, by decide +kernel, f_X0_9, rfl⟩
theorem d0_draw_14 : Dc m0_draw 14 (.iconst (-1)) 1 15 := ⟨by decide +kernel, rfl⟩
theorem d0_draw_15 : Dis' m0_draw 15 mJ7_fill 2 18 := ⟨41, by decide +kernel, lk_X0_41, s_J7_fill, rfl⟩
theorem d0_draw_18 : Dal m0_draw 18 0 19 := Or.inl ⟨0, by decide +kernel, rfl, rfl⟩
theorem d0_draw_19 : Dgf m0_draw 19 0 6 22 := ⟨24, by decide +kernel, f_X0_24, rfl⟩
theorem d0_draw_22 : Dc m0_draw 22 (.iconst (-1)) 1 23 := ⟨by decide +kernel, rfl⟩
theorem d0_draw_23 : Dis' m0_draw 23 mJ7_fill 2 26 := ⟨41, by decide +kernel, lk_X0_41, s_J7_fill, rfl⟩
theorem d0_draw_26 : Dal m0_draw 26 0 27 := Or.inl ⟨0, by decide +kernel, rfl, rfl⟩
theorem d0_draw_27 : Dgf m0_draw 27 0 7 30 := ⟨30, by decide +kernel, f_X0_30, rfl⟩
theorem d0_draw_30 : Div m0_draw 30 m1_makeEmpty 0 33 := ⟨47, by decide +kernel, lk_X0_47, v_1_makeEmpty, rfl⟩
theorem d0_draw_33 : Dal m0_draw 33 0 34 := Or.inl ⟨0, by decide +kernel, rfl, rfl⟩
theorem d0_draw_34 : Dal m0_draw 34 1 35 := Or.inl ⟨1, by decide +kernel, rfl, rfl⟩
theorem d0_draw_35 : Dc m0_draw 35 (.iconst 0) 1 36 := ⟨by decide +kernel, rfl⟩
theorem d0_draw_36 : Dc m0_draw 36 (.iconst (-1)) 1 37 := ⟨by decide +kernel, rfl⟩
theorem d0_draw_37 : Dc m0_draw 37 (.iconst (-1)) 1 38 := ⟨by decide +kernel, rfl⟩
theorem d0_draw_38 : Div m0_draw 38 m0_follow 4 41 := ⟨50, by decide +kernel, lk_X0_50, v_0_follow, rfl⟩
theorem d0_draw_41 : Dc m0_draw 41 (.iconst 0) 1 42 := ⟨by decide +kernel, rfl⟩
theorem d0_draw_42 : Dis m0_draw 42 2 43 := Or.inl ⟨2, by decide +kernel, rfl, rfl⟩
theorem d0_draw_43 : Dil m0_draw 43 2 44 := Or.inl ⟨2, by decide +kernel, rfl, rfl⟩
theorem d0_draw_44 : Dal m0_draw 44 0 45 := Or.inl ⟨0, by decide +kernel, rfl, rfl⟩
theorem d0_draw_45 : Dgf m0_draw 45 0 5 48 := ⟨38, by decide +kernel, f_X0_38, rfl⟩
theorem d0_draw_48 : Dic m0_draw 48 .ge 135 51 := ⟨(87), by decide +kernel, by decide, rfl⟩
theorem d0_draw_51 : Dil m0_draw 51 2 52 := Or.inl ⟨2, by decide +kernel, rfl, rfl⟩
theorem d0_draw_52 : Dc m0_draw 52 (.sipush 1984) 3 55 := ⟨by decide +kernel, rfl⟩
theorem d0_draw_55 : Dic m0_draw 55 .ge 135 58 := ⟨(80), by decide +kernel, by decide, rfl⟩
theorem d0_draw_58 : Dal m0_draw 58 0 59 := Or.inl ⟨0, by decide +kernel, rfl, rfl⟩
theorem d0_draw_59 : Dgf m0_draw 59 0 4 62 := ⟨21, by decide +kernel, f_X0_21, rfl⟩
theorem d0_draw_62 : Dil m0_draw 62 2 63 := Or.inl ⟨2, by decide +kernel, rfl, rfl⟩
theorem d0_draw_63 : Dc m0_draw 63 .iaload 1 64 := ⟨by decide +kernel, rfl⟩
theorem d0_draw_64 : Dis m0_draw 64 3 65 := Or.inl ⟨3, by decide +kernel, rfl, rfl⟩
theorem d0_draw_65 : Dil m0_draw 65 3 66 := Or.inl ⟨3, by decide +kernel, rfl, rfl⟩
theorem d0_draw_66 : Dis' m0_draw 66 m0_nodeOf 1 69 := ⟨54, by decide +kernel, lk_X0_54, s_0_nodeOf, rfl⟩
theorem d0_draw_69 : Dis m0_draw 69 4 71 := Or.inr ⟨by decide +kernel, rfl⟩
theorem d0_draw_71 : Dc m0_draw 71 (.iconst 0) 1 72 := ⟨by decide +kernel, rfl⟩
theorem d0_draw_72 : Dis m0_draw 72 5 74 := Or.inr ⟨by decide +kernel, rfl⟩
theorem d0_draw_74 : Dil m0_draw 74 5 76 := Or.inr ⟨by decide +kernel, rfl⟩
theorem d0_draw_76 : Dc m0_draw 76 (.iconst 4) 1 77 := ⟨by decide +kernel, rfl⟩
theorem d0_draw_77 : Dic m0_draw 77 .ge 129 80 := ⟨(52), by decide +kernel, by decide, rfl⟩
theorem d0_draw_80 : Dal m0_draw 80 1 81 := Or.inl ⟨1, by decide +kernel, rfl, rfl⟩
theorem d0_draw_81 : Dil m0_draw 81 4 83 := Or.inr ⟨by decide +kernel, rfl⟩
theorem d0_draw_83 : Dil m0_draw 83 5 85 := Or.inr ⟨by decide +kernel, rfl⟩
theorem d0_draw_85 : Dil m0_draw 85 3 86 := Or.inl ⟨3, by decide +kernel, rfl, rfl⟩
theorem d0_draw_86 : Dis' m0_draw 86 m0_flagsOf 1 89 := ⟨58, by decide +kernel, lk_X0_58, s_0_flagsOf, rfl⟩
theorem d0_draw_89 : Div m0_draw 89 m3_isOpen 3 92 := ⟨61, by decide +kernel, lk_X0_61, v_3_isOpen, rfl⟩
theorem d0_draw_92 : Dif m0_draw 92 .eq 123 95 := ⟨(31), by decide +kernel, by decide, rfl⟩
theorem d0_draw_95 : Dal m0_draw 95 0 96 := Or.inl ⟨0, by decide +kernel, rfl, rfl⟩
theorem d0_draw_96 : Dgf m0_draw 96 0 7 99 := ⟨30, by decide +kernel, f_X0_30, rfl⟩
theorem d0_draw_99 : Dil m0_draw 99 3 100 := Or.inl ⟨3, by decide +kernel, rfl, rfl⟩
theorem d0_draw_100 : Dis' m0_draw 100 m0_flagsOf 1 103 := ⟨58, by decide +kernel, lk_X0_58, s_0_flagsOf, rfl⟩
theorem d0_draw_103 : Dpf m0_draw 103 1 1 .int false 106 := ⟨67, by decide +kernel, f_X0_67, p_X0_X1_1, rfl⟩
theorem d0_draw_106 : Dal m0_draw 106 0 107 := Or.inl ⟨0, by decide +kernel, rfl, rfl⟩
theorem d0_draw_107 : Dal m0_draw 107 1 108 := Or.inl ⟨1, by decide +kernel, rfl, rfl⟩
theorem d0_draw_108 : Dal m0_draw 108 1 109 := Or.inl ⟨1, by decide +kernel, rfl, rfl⟩
theorem d0_draw_109 : Dil m0_draw 109 4 111 := Or.inr ⟨by decide +kernel, rfl⟩
theorem d0_draw_111 : Dil m0_draw 111 5 113 := Or.inr ⟨by decide +kernel, rfl⟩
theorem d0_draw_113 : Dc m0_draw 113 (.iconst 0) 1 114 := ⟨by decide +kernel, rfl⟩
theorem d0_draw_114 : Div m0_draw 114 m3_optionPart 3 117 := ⟨70, by decide +kernel, lk_X0_70, v_3_optionPart, rfl⟩
theorem d0_draw_117 : Dil m0_draw 117 3 118 := Or.inl ⟨3, by decide +kernel, rfl, rfl⟩
theorem d0_draw_118 : Dil m0_draw 118 5 120 := Or.inr ⟨by decide +kernel, rfl⟩
theorem d0_draw_120 : Div m0_draw 120 m0_follow 4 123 := ⟨50, by decide +kernel, lk_X0_50, v_0_follow, rfl⟩
theorem d0_draw_123 : Dc m0_draw 123 (.iinc 5 1) 3 126 := ⟨by decide +kernel, rfl⟩
theorem d0_draw_126 : Dgo m0_draw 126 74 := ⟨(-52), by decide +kernel, by decide⟩
theorem d0_draw_129 : Dc m0_draw 129 (.iinc 2 1) 3 132 := ⟨by decide +kernel, rfl⟩
theorem d0_draw_132 : Dgo m0_draw 132 43 := ⟨(-89), by decide +kernel, by decide⟩
theorem d0_draw_135 : mR m0_draw = none ∧ decode (mB m0_draw) 135 = .ok (.return_, 1) := ⟨rfl, by decide +kernel⟩
theorem d0_reachedWith_0 : Dc m0_reachedWith 0 (.iconst 0) 1 1 := ⟨by decide +kernel, rfl⟩
theorem d0_reachedWith_1 : Dis m0_reachedWith 1 2 2 := Or.inl ⟨2, by decide +kernel, rfl, rfl⟩
theorem d0_reachedWith_2 : Dc m0_reachedWith 2 (.iconst 0) 1 3 := ⟨by decide +kernel, rfl⟩
theorem d0_reachedWith_3 : Dis m0_reachedWith 3 3 4 := Or.inl ⟨3, by decide +kernel, rfl, rfl⟩
theorem d0_reachedWith_4 : Dil m0_reachedWith 4 3 5 := Or.inl ⟨3, by decide +kernel, rfl, rfl⟩
theorem d0_reachedWith_5 : Dc m0_reachedWith 5 (.bipush 64) 2 7 := ⟨by decide +kernel, rfl⟩
theorem d0_reachedWith_7 : Dic m0_reachedWith 7 .ge 33 10 := ⟨(26), by decide +kernel, by decide, rfl⟩
theorem d0_reachedWith_10 : Dil m0_reachedWith 10 2 11 := Or.inl ⟨2, by decide +kernel, rfl, rfl⟩
theorem d0_reachedWith_11 : Dal m0_reachedWith 11 0 12 := Or.inl ⟨0, by decide +kernel, rfl, rfl⟩
theorem d0_reachedWith_12 : Dil m0_reachedWith 12 1 13 := Or.inl ⟨1, by decide +kernel, rfl, rfl⟩
theorem d0_reachedWith_13 : Dil m0_reachedWith 13 3 14 := Or.inl ⟨3, by decide +kernel, rfl, rfl⟩
theorem d0_reachedWith_14 : Div m0_reachedWith 14 m0_isReached 2 17 := ⟨74, by decide +kernel, lk_X0_74, v_0_isReached, rfl⟩
theorem d0_reachedWith_17 : Dif m0_reachedWith 17 .eq 24 20 := ⟨(7), by decide +kernel, by decide, rfl⟩
theorem d0_reachedWith_20 : Dc m0_reachedWith 20 (.iconst 1) 1 21 := ⟨by decide +kernel, rfl⟩
theorem d0_reachedWith_21 : Dgo m0_reachedWith 21 25 := ⟨4, by decide +kernel, by decide⟩
theorem d0_reachedWith_24 : Dc m0_reachedWith 24 (.iconst 0) 1 25 := ⟨by decide +kernel, rfl⟩
theorem d0_reachedWith_25 : Dc m0_reachedWith 25 .iadd 1 26 := ⟨by decide +kernel, rfl⟩
theorem d0_reachedWith_26 : Dis m0_reachedWith 26 2 27 := Or.inl ⟨2, by decide +kernel, rfl, rfl⟩
theorem d0_reachedWith_27 : Dc m0_reachedWith 27 (.iinc 3 1) 3 30 := ⟨by decide +kernel, rfl⟩
theorem d0_reachedWith_30 : Dgo m0_reachedWith 30 4 := ⟨(-26), by decide +kernel, by decide⟩
theorem d0_reachedWith_33 : Dil m0_reachedWith 33 2 34 := Or.inl ⟨2, by decide +kernel, rfl, rfl⟩
theorem d0_reachedWith_34 : mR m0_reachedWith = some .int ∧ decode (mB m0_reachedWith) 34 = .ok (.ireturn, 1) := ⟨rfl, by decide +kernel⟩
theorem d0_reachedEnds_0 : Dc m0_reachedEnds 0 (.iconst 0) 1 1 := ⟨by decide +kernel, rfl⟩
theorem d0_reachedEnds_1 : Dis m0_reachedEnds 1 1 2 := Or.inl ⟨1, by decide +kernel, rfl, rfl⟩
theorem d0_reachedEnds_2 : Dc m0_reachedEnds 2 (.iconst 0) 1 3 := ⟨by decide +kernel, rfl⟩
theorem d0_reachedEnds_3 : Dis m0_reachedEnds 3 2 4 := Or.inl ⟨2, by decide +kernel, rfl, rfl⟩
theorem d0_reachedEnds_4 : Dil m0_reachedEnds 4 2 5 := Or.inl ⟨2, by decide +kernel, rfl, rfl⟩
theorem d0_reachedEnds_5 : Dc m0_reachedEnds 5 (.bipush 12) 2 7 := ⟨by decide +kernel, rfl⟩
theorem d0_reachedEnds_7 : Dic m0_reachedEnds 7 .ge 34 10 := ⟨(27), by decide +kernel, by decide, rfl⟩
theorem d0_reachedEnds_10 : Dil m0_reachedEnds 10 1 11 := Or.inl ⟨1, by decide +kernel, rfl, rfl⟩
theorem d0_reachedEnds_11 : Dal m0_reachedEnds 11 0 12 := Or.inl ⟨0, by decide +kernel, rfl, rfl⟩
theorem d0_reachedEnds_12 : Dgf m0_reachedEnds 12 0 6 15 := ⟨24, by decide +kernel, f_X0_24, rfl⟩
theorem d0_reachedEnds_15 : Dil m0_reachedEnds 15 2 16 := Or.inl ⟨2, by decide +kernel, rfl, rfl⟩
theorem d0_reachedEnds_16 : Dc m0_reachedEnds 16 .iaload 1 17 := ⟨by decide +kernel, rfl⟩
theorem d0_reachedEnds_17 : Dc m0_reachedEnds 17 (.iconst (-1)) 1 18 := ⟨by decide +kernel, rfl⟩
theorem d0_reachedEnds_18 : Dic m0_reachedEnds 18 .eq 25 21 := ⟨(7), by decide +kernel, by decide, rfl⟩
theorem d0_reachedEnds_21 : Dc m0_reachedEnds 21 (.iconst 1) 1 22 := ⟨by decide +kernel, rfl⟩
theorem d0_reachedEnds_22 : Dgo m0_reachedEnds 22 26 := ⟨4, by decide +kernel, by decide⟩
theorem d0_reachedEnds_25 : Dc m0_reachedEnds 25 (.iconst 0) 1 26 := ⟨by decide +kernel, rfl⟩
theorem d0_reachedEnds_26 : Dc m0_reachedEnds 26 .iadd 1 27 := ⟨by decide +kernel, rfl⟩
theorem d0_reachedEnds_27 : Dis m0_reachedEnds 27 1 28 := Or.inl ⟨1, by decide +kernel, rfl, rfl⟩
theorem d0_reachedEnds_28 : Dc m0_reachedEnds 28 (.iinc 2 1) 3 31 := ⟨by decide +kernel, rfl⟩
theorem d0_reachedEnds_31 : Dgo m0_reachedEnds 31 4 := ⟨(-27), by decide +kernel, by decide⟩
theorem d0_reachedEnds_34 : Dil m0_reachedEnds 34 1 35 := Or.inl ⟨1, by decide +kernel, rfl, rfl⟩
theorem d0_reachedEnds_35 : mR m0_reachedEnds = some .int ∧ decode (mB m0_reachedEnds) 35 = .ok (.ireturn, 1) := ⟨rfl, by decide +kernel⟩
theorem d0_wayLength_0 : Dil m0_wayLength 0 1 1 := Or.inl ⟨1, by decide +kernel, rfl, rfl⟩
theorem d0_wayLength_1 : Dif m0_wayLength 1 .lt 22 4 := ⟨(21), by decide +kernel, by decide, rfl⟩
theorem d0_wayLength_4 : Dil m0_wayLength 4 1 5 := Or.inl ⟨1, by decide +kernel, rfl, rfl⟩
theorem d0_wayLength_5 : Dc m0_wayLength 5 (.bipush 12) 2 7 := ⟨by decide +kernel, rfl⟩
theorem d0_wayLength_7 : Dic m0_wayLength 7 .ge 22 10 := ⟨(15), by decide +kernel, by decide, rfl⟩
theorem d0_wayLength_10 : Dal m0_wayLength 10 0 11 := Or.inl ⟨0, by decide +kernel, rfl, rfl⟩
theorem d0_wayLength_11 : Dgf m0_wayLength 11 0 6 14 := ⟨24, by decide +kernel, f_X0_24, rfl⟩
theorem d0_wayLength_14 : Dil m0_wayLength 14 1 15 := Or.inl ⟨1, by decide +kernel, rfl, rfl⟩
theorem d0_wayLength_15 : Dc m0_wayLength 15 .iaload 1 16 := ⟨by decide +kernel, rfl⟩
theorem d0_wayLength_16 : Dis' m0_wayLength 16 m0_isSituation 1 19 := ⟨78, by decide +kernel, lk_X0_78, s_0_isSituation, rfl⟩
theorem d0_wayLength_19 : Dif m0_wayLength 19 .ne 25 22 := ⟨(6), by decide +kernel, by decide, rfl⟩
theorem d0_wayLength_22 : Dc m0_wayLength 22 (.bipush (-11)) 2 24 := ⟨by decide +kernel, rfl⟩
theorem d0_wayLength_24 : mR m0_wayLength = some .int ∧ decode (mB m0_wayLength) 24 = .ok (.ireturn, 1) := ⟨rfl, by decide +kernel⟩
theorem d0_wayLength_25 : Dal m0_wayLength 25 0 26 := Or.inl ⟨0, by decide +kernel, rfl, rfl⟩
theorem d0_wayLength_26 : Dgf m0_wayLength 26 0 1 29 := ⟨9, by decide +kernel, f_X0_9, rfl⟩
theorem d0_wayLength_29 : Dal m0_wayLength 29 0 30 := Or.inl ⟨0, by decide +kernel, rfl, rfl⟩
theorem d0_wayLength_30 : Dgf m0_wayLength 30 0 6 33 := ⟨24, by decide +kernel, f_X0_24, rfl⟩
theorem d0_wayLength_33 : Dil m0_wayLength 33 1 34 := Or.inl ⟨1, by decide +kernel, rfl, rfl⟩
theorem d0_wayLength_34 : Dc m0_wayLength 34 .iaload 1 35 := ⟨by decide +kernel, rfl⟩
theorem d0_wayLength_35 : Dc m0_wayLength 35 .iaload 1 36 := ⟨by decide +kernel, rfl⟩
theorem d0_wayLength_36 : mR m0_wayLength = some .int ∧ decode (mB m0_wayLength) 36 = .ok (.ireturn, 1) := ⟨rfl, by decide +kernel⟩
theorem d0_wayChoice_0 : Dal m0_wayChoice 0 0 1 := Or.inl ⟨0, by decide +kernel, rfl, rfl⟩
theorem d0_wayChoice_1 : Dil m0_wayChoice 1 1 2 := Or.inl ⟨1, by decide +kernel, rfl, rfl⟩
theorem d0_wayChoice_2 : Div m0_wayChoice 2 m0_wayLength 1 5 := ⟨82, by decide +kernel, lk_X0_82, v_0_wayLength, rfl⟩
theorem d0_wayChoice_5 : Dis m0_wayChoice 5 3 6 := Or.inl ⟨3, by decide +kernel, rfl, rfl⟩
theorem d0_wayChoice_6 : Dil m0_wayChoice 6 2 7 := Or.inl ⟨2, by decide +kernel, rfl, rfl⟩
theorem d0_wayChoice_7 : Dif m0_wayChoice 7 .lt 15 10 := ⟨(8), by decide +kernel, by decide, rfl⟩
theorem d0_wayChoice_10 : Dil m0_wayChoice 10 2 11 := Or.inl ⟨2, by decide +kernel, rfl, rfl⟩
theorem d0_wayChoice_11 : Dil m0_wayChoice 11 3 12 := Or.inl ⟨3, by decide +kernel, rfl, rfl⟩
theorem d0_wayChoice_12 : Dic m0_wayChoice 12 .lt 18 15 := ⟨(6), by decide +kernel, by decide, rfl⟩
theorem d0_wayChoice_15 : Dc m0_wayChoice 15 (.bipush (-11)) 2 17 := ⟨by decide +kernel, rfl⟩
theorem d0_wayChoice_17 : mR m0_wayChoice = some .int ∧ decode (mB m0_wayChoice) 17 = .ok (.ireturn, 1) := ⟨rfl, by decide +kernel⟩
theorem d0_wayChoice_18 : Dal m0_wayChoice 18 0 19 := Or.inl ⟨0, by decide +kernel, rfl, rfl⟩
theorem d0_wayChoice_19 : Dgf m0_wayChoice 19 0 6 22 := ⟨24, by decide +kernel, f_X0_24, rfl⟩
theorem d0_wayChoice_22 : Dil m0_wayChoice 22 1 23 := Or.inl ⟨1, by decide +kernel, rfl, rfl⟩
theorem d0_wayChoice_23 : Dc m0_wayChoice 23 .iaload 1 24 := ⟨by decide +kernel, rfl⟩
theorem d0_wayChoice_24 : Dis m0_wayChoice 24 4 26 := Or.inr ⟨by decide +kernel, rfl⟩
theorem d0_wayChoice_26 : Dil m0_wayChoice 26 3 27 := Or.inl ⟨3, by decide +kernel, rfl, rfl⟩
theorem d0_wayChoice_27 : Dc m0_wayChoice 27 (.iconst 1) 1 28 := ⟨by decide +kernel, rfl⟩
theorem d0_wayChoice_28 : Dc m0_wayChoice 28 .isub 1 29 := ⟨by decide +kernel, rfl⟩
theorem d0_wayChoice_29 : Dis m0_wayChoice 29 5 31 := Or.inr ⟨by decide +kernel, rfl⟩
theorem d0_wayChoice_31 : Dil m0_wayChoice 31 5 33 := Or.inr ⟨by decide +kernel, rfl⟩
theorem d0_wayChoice_33 : Dil m0_wayChoice 33 2 34 := Or.inl ⟨2, by decide +kernel, rfl, rfl⟩
theorem d0_wayChoice_34 : Dic m0_wayChoice 34 .le 60 37 := ⟨(26), by decide +kernel, by decide, rfl⟩
theorem d0_wayChoice_37 : Dil m0_wayChoice 37 4 39 := Or.inr ⟨by decide +kernel, rfl⟩
theorem d0_wayChoice_39 : Dis' m0_wayChoice 39 m0_isSituation 1 42 := ⟨78, by decide +kernel, lk_X0_78, s_0_isSituation, rfl⟩
theorem d0_wayChoice_42 : Dif m0_wayChoice 42 .eq 60 45 := ⟨(18), by decide +kernel, by decide, rfl⟩
theorem d0_wayChoice_45 : Dal m0_wayChoice 45 0 46 := Or.inl ⟨0, by decide +kernel, rfl, rfl⟩
theorem d0_wayChoice_46 : Dgf m0_wayChoice 46 0 2 49 := ⟨15, by decide +kernel, f_X0_15, rfl⟩
theorem d0_wayChoice_49 : Dil m0_wayChoice 49 4 51 := Or.inr ⟨by decide +kernel, rfl⟩
theorem d0_wayChoice_51 : Dc m0_wayChoice 51 .iaload 1 52 := ⟨by decide +kernel, rfl⟩
theorem d0_wayChoice_52 : Dis m0_wayChoice 52 4 54 := Or.inr ⟨by decide +kernel, rfl⟩
theorem d0_wayChoice_54 : Dc m0_wayChoice 54 (.iinc 5 (-1)) 3 57 := ⟨by decide +kernel, rfl⟩
theorem d0_wayChoice_57 : Dgo m0_wayChoice 57 31 := ⟨(-26), by decide +kernel, by decide⟩
theorem d0_wayChoice_60 : Dil m0_wayChoice 60 4 62 := Or.inr ⟨by decide +kernel, rfl⟩
theorem d0_wayChoice_62 : Dis' m0_wayChoice 62 m0_isSituation 1 65 := ⟨78, by decide +kernel, lk_X0_78, s_0_isSituation, rfl⟩
theorem d0_wayChoice_65 : Dif m0_wayChoice 65 .eq 78 68 := ⟨(13), by decide +kernel, by decide, rfl⟩
theorem d0_wayChoice_68 : Dal m0_wayChoice 68 0 69 := Or.inl ⟨0, by decide +kernel, rfl, rfl⟩
theorem d0_wayChoice_69 : Dgf m0_wayChoice 69 0 3 72 := ⟨18, by decide +kernel, f_X0_18, rfl⟩
theorem d0_wayChoice_72 : Dil m0_wayChoice 72 4 74 := Or.inr ⟨by decide +kernel, rfl⟩
theorem d0_wayChoice_74 : Dc m0_wayChoice 74 .iaload 1 75 := ⟨by decide +kernel, rfl⟩
theorem d0_wayChoice_75 : Dgo m0_wayChoice 75 80 := ⟨5, by decide +kernel, by decide⟩
theorem d0_wayChoice_78 : Dc m0_wayChoice 78 (.bipush (-11)) 2 80 := ⟨by decide +kernel, rfl⟩
theorem d0_wayChoice_80 : mR m0_wayChoice = some .int ∧ decode (mB m0_wayChoice) 80 = .ok (.ireturn, 1) := ⟨rfl, by decide +kernel⟩
theorem d0_canUse_0 : Dc m0_canUse 0 (.iconst 0) 1 1 := ⟨by decide +kernel, rfl⟩
theorem d0_canUse_1 : Dis m0_canUse 1 4 3 := Or.inr ⟨by decide +kernel, rfl⟩
theorem d0_canUse_3 : Dil m0_canUse 3 4 5 := Or.inr ⟨by decide +kernel, rfl⟩
theorem d0_canUse_5 : Dc m0_canUse 5 (.bipush 64) 2 7 := ⟨by decide +kernel, rfl⟩
theorem d0_canUse_7 : Dic m0_canUse 7 .ge 39 10 := ⟨(32), by decide +kernel, by decide, rfl⟩
theorem d0_canUse_10 : Dal m0_canUse 10 0 11 := Or.inl ⟨0, by decide +kernel, rfl, rfl⟩
theorem d0_canUse_11 : Dil m0_canUse 11 2 12 := Or.inl ⟨2, by decide +kernel, rfl, rfl⟩
theorem d0_canUse_12 : Dil m0_canUse 12 4 14 := Or.inr ⟨by decide +kernel, rfl⟩
theorem d0_canUse_14 : Div m0_canUse 14 m0_isReached 2 17 := ⟨74, by decide +kernel, lk_X0_74, v_0_isReached, rfl⟩
theorem d0_canUse_17 : Dif m0_canUse 17 .eq 33 20 := ⟨(16), by decide +kernel, by decide, rfl⟩
theorem d0_canUse_20 : Dal m0_canUse 20 1 21 := Or.inl ⟨1, by decide +kernel, rfl, rfl⟩
theorem d0_canUse_21 : Dil m0_canUse 21 2 22 := Or.inl ⟨2, by decide +kernel, rfl, rfl⟩
theorem d0_canUse_22 : Dil m0_canUse 22 3 23 := Or.inl ⟨3, by decide +kernel, rfl, rfl⟩
theorem d0_canUse_23 : Dil m0_canUse 23 4 25 := Or.inr ⟨by decide +kernel, rfl⟩
theorem d0_canUse_25 : Div m0_canUse 25 m3_isOpen 3 28 := ⟨61, by decide +kernel, lk_X0_61, v_3_isOpen, rfl⟩
theorem d0_canUse_28 : Dif m0_canUse 28 .eq 33 31 := ⟨(5), by decide +kernel, by decide, rfl⟩
theorem d0_canUse_31 : Dc m0_canUse 31 (.iconst 1) 1 32 := ⟨by decide +kernel, rfl⟩
theorem d0_canUse_32 : mR m0_canUse = some .boolean ∧ decode (mB m0_canUse) 32 = .ok (.ireturn, 1) := ⟨rfl, by decide +kernel⟩
theorem d0_canUse_33 : Dc m0_canUse 33 (.iinc 4 1) 3 36 := ⟨by decide +kernel, rfl⟩
theorem d0_canUse_36 : Dgo m0_canUse 36 3 := ⟨(-33), by decide +kernel, by decide⟩
theorem d0_canUse_39 : Dc m0_canUse 39 (.iconst 0) 1 40 := ⟨by decide +kernel, rfl⟩
theorem d0_canUse_40 : mR m0_canUse = some .boolean ∧ decode (mB m0_canUse) 40 = .ok (.ireturn, 1) := ⟨rfl, by decide +kernel⟩
theorem d0_follow_0 : Dil m0_follow 0 3 1 := Or.inl ⟨3, by decide +kernel, rfl, rfl⟩
theorem d0_follow_1 : Dis' m0_follow 1 m0_isSituation 1 4 := ⟨78, by decide +kernel, lk_X0_78, s_0_isSituation, rfl⟩
theorem d0_follow_4 : Dif m0_follow 4 .eq 18 7 := ⟨(14), by decide +kernel, by decide, rfl⟩
theorem d0_follow_7 : Dal m0_follow 7 0 8 := Or.inl ⟨0, by decide +kernel, rfl, rfl⟩
theorem d0_follow_8 : Dgf m0_follow 8 0 1 11 := ⟨9, by decide +kernel, f_X0_9, rfl⟩
theorem d0_follow_11 : Dil m0_follow 11 3 12 := Or.inl ⟨3, by decide +kernel, rfl, rfl⟩
theorem d0_follow_12 : Dc m0_follow 12 .iaload 1 13 := ⟨by decide +kernel, rfl⟩
theorem d0_follow_13 : Dc m0_follow 13 (.iconst 1) 1 14 := ⟨by decide +kernel, rfl⟩
theorem d0_follow_14 : Dc m0_follow 14 .iadd 1 15 := ⟨by decide +kernel, rfl⟩
theorem d0_follow_15 : Dgo m0_follow 15 19 := ⟨4, by decide +kernel, by decide⟩
theorem d0_follow_18 : Dc m0_follow 18 (.iconst 0) 1 19 := ⟨by decide +kernel, rfl⟩
theorem d0_follow_19 : Dis m0_follow 19 5 21 := Or.inr ⟨by decide +kernel, rfl⟩
theorem d0_follow_21 : Dil m0_follow 21 2 22 := Or.inl ⟨2, by decide +kernel, rfl, rfl⟩
theorem d0_follow_22 : Dis m0_follow 22 6 24 := Or.inr ⟨by decide +kernel, rfl⟩
theorem d0_follow_24 : Dc m0_follow 24 (.iconst 0) 1 25 := ⟨by decide +kernel, rfl⟩
theorem d0_follow_25 : Dis m0_follow 25 7 27 := Or.inr ⟨by decide +kernel, rfl⟩
theorem d0_follow_27 : Dil m0_follow 27 7 29 := Or.inr ⟨by decide +kernel, rfl⟩
theorem d0_follow_29 : Dc m0_follow 29 (.sipush 1984) 3 32 := ⟨by decide +kernel, rfl⟩
theorem d0_follow_32 : Dic m0_follow 32 .ge 160 35 := ⟨(128), by decide +kernel, by decide, rfl⟩
theorem d0_follow_35 : Dal m0_follow 35 0 36 := Or.inl ⟨0, by decide +kernel, rfl, rfl⟩
theorem d0_follow_36 : Dgf m0_follow 36 0 7 39 := ⟨30, by decide +kernel, f_X0_30, rfl⟩
theorem d0_follow_39 : Dal m0_follow 39 1 40 := Or.inl ⟨1, by decide +kernel, rfl, rfl⟩
theorem d0_follow_40 : Dil m0_follow 40 6 42 := Or.inr ⟨by decide +kernel, rfl⟩
theorem d0_follow_42 : Div m0_follow 42 m1_comeFrom 2 45 := ⟨85, by decide +kernel, lk_X0_85, v_1_comeFrom, rfl⟩
theorem d0_follow_45 : Dal m0_follow 45 0 46 := Or.inl ⟨0, by decide +kernel, rfl, rfl⟩
theorem d0_follow_46 : Dgf m0_follow 46 0 7 49 := ⟨30, by decide +kernel, f_X0_30, rfl⟩
theorem d0_follow_49 : Dgf m0_follow 49 1 0 52 := ⟨89, by decide +kernel, f_X0_89, rfl⟩
theorem d0_follow_52 : Dc m0_follow 52 (.bipush 64) 2 54 := ⟨by decide +kernel, rfl⟩
theorem d0_follow_54 : Dc m0_follow 54 .imul 1 55 := ⟨by decide +kernel, rfl⟩
theorem d0_follow_55 : Dal m0_follow 55 0 56 := Or.inl ⟨0, by decide +kernel, rfl, rfl⟩
theorem d0_follow_56 : Dgf m0_follow 56 0 7 59 := ⟨30, by decide +kernel, f_X0_30, rfl⟩
theorem d0_follow_59 : Dgf m0_follow 59 1 1 62 := ⟨67, by decide +kernel, f_X0_67, rfl⟩
theorem d0_follow_62 : Dc m0_follow 62 .iadd 1 63 := ⟨by decide +kernel, rfl⟩
theorem d0_follow_63 : Dis m0_follow 63 8 65 := Or.inr ⟨by decide +kernel, rfl⟩
theorem d0_follow_65 : Dil m0_follow 65 8 67 := Or.inr ⟨by decide +kernel, rfl⟩
theorem d0_follow_67 : Dis' m0_follow 67 m0_isSituation 1 70 := ⟨78, by decide +kernel, lk_X0_78, s_0_isSituation, rfl⟩
theorem d0_follow_70 : Dif m0_follow 70 .eq 84 73 := ⟨(14), by decide +kernel, by decide, rfl⟩
theorem d0_follow_73 : Dal m0_follow 73 0 74 := Or.inl ⟨0, by decide +kernel, rfl, rfl⟩
theorem d0_follow_74 : Dgf m0_follow 74 0 1 77 := ⟨9, by decide +kernel, f_X0_9, rfl⟩
theorem d0_follow_77 : Dil m0_follow 77 8 79 := Or.inr ⟨by decide +kernel, rfl⟩
theorem d0_follow_79 : Dc m0_follow 79 .iaload 1 80 := ⟨by decide +kernel, rfl⟩
theorem d0_follow_80 : Dc m0_follow 80 (.iconst (-1)) 1 81 := ⟨by decide +kernel, rfl⟩
theorem d0_follow_81 : Dic m0_follow 81 .eq 85 84 := ⟨(4), by decide +kernel, by decide, rfl⟩
theorem d0_follow_84 : mR m0_follow = none ∧ decode (mB m0_follow) 84 = .ok (.return_, 1) := ⟨rfl, by decide +kernel⟩
theorem d0_follow_85 : Dal m0_follow 85 0 86 := Or.inl ⟨0, by decide +kernel, rfl, rfl⟩
theorem d0_follow_86 : Dc m0_follow 86 .dup 1 87 := ⟨by decide +kernel, rfl⟩
theorem d0_follow_87 : Dgf m0_follow 87 0 0 90 := ⟨34, by decide +kernel, f_X0_34, rfl⟩
theorem d0_follow_90 : Dc m0_follow 90 (.iconst 1) 1 91 := ⟨by decide +kernel, rfl⟩
theorem d0_follow_91 : Dc m0_follow 91 .iadd 1 92 := ⟨by decide +kernel, rfl⟩
theorem d0_follow_92 : Dpf m0_follow 92 0 0 .int false 95 := ⟨34, by decide +kernel, f_X0_34, p_X0_X0_0, rfl⟩
theorem d0_follow_95 : Dal m0_follow 95 0 96 := Or.inl ⟨0, by decide +kernel, rfl, rfl⟩
theorem d0_follow_96 : Dgf m0_follow 96 0 1 99 := ⟨9, by decide +kernel, f_X0_9, rfl⟩
theorem d0_follow_99 : Dil m0_follow 99 8 101 := Or.inr ⟨by decide +kernel, rfl⟩
theorem d0_follow_101 : Dil m0_follow 101 5 103 := Or.inr ⟨by decide +kernel, rfl⟩
theorem d0_follow_103 : Dc m0_follow 103 .iastore 1 104 := ⟨by decide +kernel, rfl⟩
theorem d0_follow_104 : Dal m0_follow 104 0 105 := Or.inl ⟨0, by decide +kernel, rfl, rfl⟩
theorem d0_follow_105 : Dgf m0_follow 105 0 2 108 := ⟨15, by decide +kernel, f_X0_15, rfl⟩
theorem d0_follow_108 : Dil m0_follow 108 8 110 := Or.inr ⟨by decide +kernel, rfl⟩
theorem d0_follow_110 : Dil m0_follow 110 3 111 := Or.inl ⟨3, by decide +kernel, rfl, rfl⟩
theorem d0_follow_111 : Dc m0_follow 111 .iastore 1 112 := ⟨by decide +kernel, rfl⟩
theorem d0_follow_112 : Dal m0_follow 112 0 113 := Or.inl ⟨0, by decide +kernel, rfl, rfl⟩
theorem d0_follow_113 : Dgf m0_follow 113 0 3 116 := ⟨18, by decide +kernel, f_X0_18, rfl⟩
theorem d0_follow_116 : Dil m0_follow 116 8 118 := Or.inr ⟨by decide +kernel, rfl⟩
theorem d0_follow_118 : Dil m0_follow 118 4 120 := Or.inr ⟨by decide +kernel, rfl⟩
theorem d0_follow_120 : Dc m0_follow 120 .iastore 1 121 := ⟨by decide +kernel, rfl⟩
theorem d0_follow_121 : Dal m0_follow 121 1 122 := Or.inl ⟨1, by decide +kernel, rfl, rfl⟩
theorem d0_follow_122 : Dal m0_follow 122 0 123 := Or.inl ⟨0, by decide +kernel, rfl, rfl⟩
theorem d0_follow_123 : Dgf m0_follow 123 0 7 126 := ⟨30, by decide +kernel, f_X0_30, rfl⟩
theorem d0_follow_126 : Dgf m0_follow 126 1 0 129 := ⟨89, by decide +kernel, f_X0_89, rfl⟩
theorem d0_follow_129 : Div m0_follow 129 m3_shownKind 1 132 := ⟨92, by decide +kernel, lk_X0_92, v_3_shownKind, rfl⟩
theorem d0_follow_132 : Dif m0_follow 132 .eq 143 135 := ⟨(11), by decide +kernel, by decide, rfl⟩
theorem d0_follow_135 : Dal m0_follow 135 0 136 := Or.inl ⟨0, by decide +kernel, rfl, rfl⟩
theorem d0_follow_136 : Dal m0_follow 136 1 137 := Or.inl ⟨1, by decide +kernel, rfl, rfl⟩
theorem d0_follow_137 : Dil m0_follow 137 8 139 := Or.inr ⟨by decide +kernel, rfl⟩
theorem d0_follow_139 : Div m0_follow 139 m0_arrive 2 142 := ⟨95, by decide +kernel, lk_X0_95, v_0_arrive, rfl⟩
theorem d0_follow_142 : mR m0_follow = none ∧ decode (mB m0_follow) 142 = .ok (.return_, 1) := ⟨rfl, by decide +kernel⟩
theorem d0_follow_143 : Dal m0_follow 143 0 144 := Or.inl ⟨0, by decide +kernel, rfl, rfl⟩
theorem d0_follow_144 : Dgf m0_follow 144 0 7 147 := ⟨30, by decide +kernel, f_X0_30, rfl⟩
theorem d0_follow_147 : Dgf m0_follow 147 1 0 150 := ⟨89, by decide +kernel, f_X0_89, rfl⟩
theorem d0_follow_150 : Dc m0_follow 150 (.iconst 1) 1 151 := ⟨by decide +kernel, rfl⟩
theorem d0_follow_151 : Dc m0_follow 151 .iadd 1 152 := ⟨by decide +kernel, rfl⟩
theorem d0_follow_152 : Dis m0_follow 152 6 154 := Or.inr ⟨by decide +kernel, rfl⟩
theorem d0_follow_154 : Dc m0_follow 154 (.iinc 7 1) 3 157 := ⟨by decide +kernel, rfl⟩
theorem d0_follow_157 : Dgo m0_follow 157 27 := ⟨(-130), by decide +kernel, by decide⟩
theorem d0_follow_160 : mR m0_follow = none ∧ decode (mB m0_follow) 160 = .ok (.return_, 1) := ⟨rfl, by decide +kernel⟩
theorem d0_arrive_0 : Dil m0_arrive 0 2 1 := Or.inl ⟨2, by decide +kernel, rfl, rfl⟩
theorem d0_arrive_1 : Dis' m0_arrive 1 m0_nodeOf 1 4 := ⟨54, by decide +kernel, lk_X0_54, s_0_nodeOf, rfl⟩
theorem d0_arrive_4 : Dis m0_arrive 4 3 5 := Or.inl ⟨3, by decide +kernel, rfl, rfl⟩
theorem d0_arrive_5 : Dal m0_arrive 5 1 6 := Or.inl ⟨1, by decide +kernel, rfl, rfl⟩
theorem d0_arrive_6 : Dil m0_arrive 6 3 7 := Or.inl ⟨3, by decide +kernel, rfl, rfl⟩
theorem d0_arrive_7 : Div m0_arrive 7 m3_shownKind 1 10 := ⟨92, by decide +kernel, lk_X0_92, v_3_shownKind, rfl⟩
theorem d0_arrive_10 : Dc m0_arrive 10 (.iconst 1) 1 11 := ⟨by decide +kernel, rfl⟩
theorem d0_arrive_11 : Dic m0_arrive 11 .ne 45 14 := ⟨(34), by decide +kernel, by decide, rfl⟩
theorem d0_arrive_14 : Dal m0_arrive 14 0 15 := Or.inl ⟨0, by decide +kernel, rfl, rfl⟩
theorem d0_arrive_15 : Dgf m0_arrive 15 0 5 18 := ⟨38, by decide +kernel, f_X0_38, rfl⟩
theorem d0_arrive_18 : Dc m0_arrive 18 (.sipush 1984) 3 21 := ⟨by decide +kernel, rfl⟩
theorem d0_arrive_21 : Dic m0_arrive 21 .ge 44 24 := ⟨(23), by decide +kernel, by decide, rfl⟩
theorem d0_arrive_24 : Dal m0_arrive 24 0 25 := Or.inl ⟨0, by decide +kernel, rfl, rfl⟩
theorem d0_arrive_25 : Dgf m0_arrive 25 0 4 28 := ⟨21, by decide +kernel, f_X0_21, rfl⟩
theorem d0_arrive_28 : Dal m0_arrive 28 0 29 := Or.inl ⟨0, by decide +kernel, rfl, rfl⟩
theorem d0_arrive_29 : Dgf m0_arrive 29 0 5 32 := ⟨38, by decide +kernel, f_X0_38, rfl⟩
theorem d0_arrive_32 : Dil m0_arrive 32 2 33 := Or.inl ⟨2, by decide +kernel, rfl, rfl⟩
theorem d0_arrive_33 : Dc m0_arrive 33 .iastore 1 34 := ⟨by decide +kernel, rfl⟩
theorem d0_arrive_34 : Dal m0_arrive 34 0 35 := Or.inl ⟨0, by decide +kernel, rfl, rfl⟩
theorem d0_arrive_35 : Dc m0_arrive 35 .dup 1 36 := ⟨by decide +kernel, rfl⟩
theorem d0_arrive_36 : Dgf m0_arrive 36 0 5 39 := ⟨38, by decide +kernel, f_X0_38, rfl⟩
theorem d0_arrive_39 : Dc m0_arrive 39 (.iconst 1) 1 40 := ⟨by decide +kernel, rfl⟩
theorem d0_arrive_40 : Dc m0_arrive 40 .iadd 1 41 := ⟨by decide +kernel, rfl⟩
theorem d0_arrive_41 : Dpf m0_arrive 41 0 5 .int false 44 := ⟨38, by decide +kernel, f_X0_38, p_X0_X0_5, rfl⟩
theorem d0_arrive_44 : mR m0_arrive = none ∧ decode (mB m0_arrive) 44 = .ok (.return_, 1) := ⟨rfl, by decide +kernel⟩
theorem d0_arrive_45 : Dal m0_arrive 45 1 46 := Or.inl ⟨1, by decide +kernel, rfl, rfl⟩
theorem d0_arrive_46 : Dil m0_arrive 46 3 47 := Or.inl ⟨3, by decide +kernel, rfl, rfl⟩
theorem d0_arrive_47 : Div m0_arrive 47 m3_shownNumber 1 50 := ⟨98, by decide +kernel, lk_X0_98, v_3_shownNumber, rfl⟩
theorem d0_arrive_50 : DisN m0_arrive 50 m5_endIndex 1 53 := ⟨101, RX5, by decide +kernel, ok_5_endIndex, by decide +kernel, by decide +kernel, by decide, s_5_endIndex, rfl⟩
theorem d0_arrive_53 : Dis m0_arrive 53 4 55 := Or.inr ⟨by decide +kernel, rfl⟩
theorem d0_arrive_55 : Dil m0_arrive 55 4 57 := Or.inr ⟨by decide +kernel, rfl⟩
theorem d0_arrive_57 : Dif m0_arrive 57 .lt 86 60 := ⟨(29), by decide +kernel, by decide, rfl⟩
theorem d0_arrive_60 : Dil m0_arrive 60 4 62 := Or.inr ⟨by decide +kernel, rfl⟩
theorem d0_arrive_62 : Dc m0_arrive 62 (.bipush 12) 2 64 := ⟨by decide +kernel, rfl⟩
theorem d0_arrive_64 : Dic m0_arrive 64 .ge 86 67 := ⟨(22), by decide +kernel, by decide, rfl⟩
theorem d0_arrive_67 : Dal m0_arrive 67 0 68 := Or.inl ⟨0, by decide +kernel, rfl, rfl⟩
theorem d0_arrive_68 : Dgf m0_arrive 68 0 6 71 := ⟨24, by decide +kernel, f_X0_24, rfl⟩
theorem d0_arrive_71 : Dil m0_arrive 71 4 73 := Or.inr ⟨by decide +kernel, rfl⟩
theorem d0_arrive_73 : Dc m0_arrive 73 .iaload 1 74 := ⟨by decide +kernel, rfl⟩
theorem d0_arrive_74 : Dc m0_arrive 74 (.iconst (-1)) 1 75 := ⟨by decide +kernel, rfl⟩
theorem d0_arrive_75 : Dic m0_arrive 75 .ne 86 78 := ⟨(11), by decide +kernel, by decide, rfl⟩
theorem d0_arrive_78 : Dal m0_arrive 78 0 79 := Or.inl ⟨0, by decide +kernel, rfl, rfl⟩
theorem d0_arrive_79 : Dgf m0_arrive 79 0 6 82 := ⟨24, by decide +kernel, f_X0_24, rfl⟩
theorem d0_arrive_82 : Dil m0_arrive 82 4 84 := Or.inr ⟨by decide +kernel, rfl⟩
theorem d0_arrive_84 : Dil m0_arrive 84 2 85 := Or.inl ⟨2, by decide +kernel, rfl, rfl⟩
theorem d0_arrive_85 : Dc m0_arrive 85 .iastore 1 86 := ⟨by decide +kernel, rfl⟩
theorem d0_arrive_86 : mR m0_arrive = none ∧ decode (mB m0_arrive) 86 = .ok (.return_, 1) := ⟨rfl, by decide +kernel⟩
theorem d0_isReached_0 : Dil m0_isReached 0 1 1 := Or.inl ⟨1, by decide +kernel, rfl, rfl⟩
theorem d0_isReached_1 : Dc m0_isReached 1 (.bipush 64) 2 3 := ⟨by decide +kernel, rfl⟩
theorem d0_isReached_3 : Dc m0_isReached 3 .imul 1 4 := ⟨by decide +kernel, rfl⟩
theorem d0_isReached_4 : Dil m0_isReached 4 2 5 := Or.inl ⟨2, by decide +kernel, rfl, rfl⟩
theorem d0_isReached_5 : Dc m0_isReached 5 .iadd 1 6 := ⟨by decide +kernel, rfl⟩
theorem d0_isReached_6 : Dis m0_isReached 6 3 7 := Or.inl ⟨3, by decide +kernel, rfl, rfl⟩
theorem d0_isReached_7 : Dil m0_isReached 7 3 8 := Or.inl ⟨3, by decide +kernel, rfl, rfl⟩
theorem d0_isReached_8 : Dis' m0_isReached 8 m0_isSituation 1 11 := ⟨78, by decide +kernel, lk_X0_78, s_0_isSituation, rfl⟩
theorem d0_isReached_11 : Dif m0_isReached 11 .eq 28 14 := ⟨(17), by decide +kernel, by decide, rfl⟩
theorem d0_isReached_14 : Dal m0_isReached 14 0 15 := Or.inl ⟨0, by decide +kernel, rfl, rfl⟩
theorem d0_isReached_15 : Dgf m0_isReached 15 0 1 18 := ⟨9, by decide +kernel, f_X0_9, rfl⟩
theorem d0_isReached_18 : Dil m0_isReached 18 3 19 := Or.inl ⟨3, by decide +kernel, rfl, rfl⟩
theorem d0_isReached_19 : Dc m0_isReached 19 .iaload 1 20 := ⟨by decide +kernel, rfl⟩
theorem d0_isReached_20 : Dc m0_isReached 20 (.iconst (-1)) 1 21 := ⟨by decide +kernel, rfl⟩
theorem d0_isReached_21 : Dic m0_isReached 21 .eq 28 24 := ⟨(7), by decide +kernel, by decide, rfl⟩
theorem d0_isReached_24 : Dc m0_isReached 24 (.iconst 1) 1 25 := ⟨by decide +kernel, rfl⟩
theorem d0_isReached_25 : Dgo m0_isReached 25 29 := ⟨4, by decide +kernel, by decide⟩
theorem d0_isReached_28 : Dc m0_isReached 28 (.iconst 0) 1 29 := ⟨by decide +kernel, rfl⟩
theorem d0_isReached_29 : mR m0_isReached = some .boolean ∧ decode (mB m0_isReached) 29 = .ok (.ireturn, 1) := ⟨rfl, by decide +kernel⟩
theorem d0_isSituation_0 : Dil m0_isSituation 0 0 1 := Or.inl ⟨0, by decide +kernel, rfl, rfl⟩
theorem d0_isSituation_1 : Dif m0_isSituation 1 .lt 15 4 := ⟨(14), by decide +kernel, by decide, rfl⟩
theorem d0_isSituation_4 : Dil m0_isSituation 4 0 5 := Or.inl ⟨0, by decide +kernel, rfl, rfl⟩
theorem d0_isSituation_5 : Dc m0_isSituation 5 (.sipush 1984) 3 8 := ⟨by decide +kernel, rfl⟩
theorem d0_isSituation_8 : Dic m0_isSituation 8 .ge 15 11 := ⟨(7), by decide +kernel, by decide, rfl⟩
theorem d0_isSituation_11 : Dc m0_isSituation 11 (.iconst 1) 1 12 := ⟨by decide +kernel, rfl⟩
theorem d0_isSituation_12 : Dgo m0_isSituation 12 16 := ⟨4, by decide +kernel, by decide⟩
theorem d0_isSituation_15 : Dc m0_isSituation 15 (.iconst 0) 1 16 := ⟨by decide +kernel, rfl⟩
theorem d0_isSituation_16 : mR m0_isSituation = some .boolean ∧ decode (mB m0_isSituation) 16 = .ok (.ireturn, 1) := ⟨rfl, by decide +kernel⟩
theorem d0_nodeOf_0 : Dil m0_nodeOf 0 0 1 := Or.inl ⟨0, by decide +kernel, rfl, rfl⟩
theorem d0_nodeOf_1 : Dc m0_nodeOf 1 (.bipush 64) 2 3 := ⟨by decide +kernel, rfl⟩
theorem d0_nodeOf_3 : Dc m0_nodeOf 3 .idiv 1 4 := ⟨by decide +kernel, rfl⟩
theorem d0_nodeOf_4 : mR m0_nodeOf = some .int ∧ decode (mB m0_nodeOf) 4 = .ok (.ireturn, 1) := ⟨rfl, by decide +kernel⟩
theorem d0_flagsOf_0 : Dil m0_flagsOf 0 0 1 := Or.inl ⟨0, by decide +kernel, rfl, rfl⟩
theorem d0_flagsOf_1 : Dc m0_flagsOf 1 (.bipush 64) 2 3 := ⟨by decide +kernel, rfl⟩
theorem d0_flagsOf_3 : Dc m0_flagsOf 3 .irem 1 4 := ⟨by decide +kernel, rfl⟩
theorem d0_flagsOf_4 : mR m0_flagsOf = some .int ∧ decode (mB m0_flagsOf) 4 = .ok (.ireturn, 1) := ⟨rfl, by decide +kernel⟩
end
section
/-! ===== decode rows of X5 ===== -/
theorem d5_init_0 : Dal m5_init 0 0 1 := Or.inl ⟨0, by decide +kernel, rfl, rfl⟩
theorem d5_init_1 : Doi m5_init 1 4 := ⟨3, by decide +kernel, oi_X5_3, oi_i, oi_c, rfl⟩
theorem d5_init_4 : Dal m5_init 4 0 5 := Or.inl ⟨0, by decide +kernel, rfl, rfl⟩
theorem d5_init_5 : Dnew m5_init 5 4 5 [vI 0, vN, vN, vI 0, vI 0] 8 := ⟨9, RX4, TX4, tyX4, by decide +kernel, rfl, inGX4, tyX4_ok, tG_of (List.mem_of_getElem? (i := 87) (by decide +kernel)) (by decide +kernel), tG_of (List.mem_of_getElem? (i := 88) (by decide +kernel)) (by decide +kernel), tG_of (List.mem_of_getElem? (i := 65) (by decide +kernel)) (by decide +kernel), nw_X4.1, nw_X4.2, rfl⟩
theorem d5_init_8 : Dc m5_init 8 .dup 1 9 := ⟨by decide +kernel, rfl⟩
theorem d5_init_9 : Dii m5_init 9 m4_init 12 := ⟨11, by decide +kernel, ok_4_init, (Or.inr ⟨RX5, by decide +kernel⟩), by decide +kernel, by decide, rfl, i_4_init, rfl, rfl⟩
theorem d5_init_12 : Dpf m5_init 12 5 0 (.object "PictureScript$Text") true 15 := ⟨12, by decide +kernel, f_X5_12, p_X5_X5_0, rfl⟩
theorem d5_init_15 : Dal m5_init 15 0 16 := Or.inl ⟨0, by decide +kernel, rfl, rfl⟩
theorem d5_init_16 : Dnew m5_init 16 3 6 [vI 0, vN, vN, vN, vN, vN] 19 := ⟨16, RX3, TX3, tyX3, by decide +kernel, rfl, inGX3, tyX3_ok, tG_of (List.mem_of_getElem? (i := 139) (by decide +kernel)) (by decide +kernel), tG_of (List.mem_of_getElem? (i := 94) (by decide +kernel)) (by decide +kernel), tG_of (List.mem_of_getElem? (i := 66) (by decide +kernel)) (by decide +kernel), nw_X3.1, nw_X3.2, rfl⟩
theorem d5_init_19 : Dc m5_init 19 .dup 1 20 := ⟨by decide +kernel, rfl⟩
theorem d5_init_20 : Dii m5_init 20 m3_init 23 := ⟨18, by decide +kernel, ok_3_init, (Or.inr ⟨RX5, by decide +kernel⟩), by decide +kernel, by decide, rfl, i_3_init, rfl, rfl⟩
theorem d5_init_23 : Dpf m5_init 23 5 1 (.object "PictureScript$Script") false 26 := ⟨19, by decide +kernel, f_X5_19, p_X5_X5_1, rfl⟩
theorem d5_init_26 : Dal m5_init 26 0 27 := Or.inl ⟨0, by decide +kernel, rfl, rfl⟩
theorem d5_init_27 : Dnew m5_init 27 2 6 [vN, vI 0, vI 0, vN, vN, vN] 30 := ⟨23, RX2, TX2, tyX2, by decide +kernel, rfl, inGX2, tyX2_ok, tG_of (List.mem_of_getElem? (i := 141) (by decide +kernel)) (by decide +kernel), tG_of (List.mem_of_getElem? (i := 142) (by decide +kernel)) (by decide +kernel), tG_of (List.mem_of_getElem? (i := 67) (by decide +kernel)) (by decide +kernel), nw_X2.1, nw_X2.2, rfl⟩
theorem d5_init_30 : Dc m5_init 30 .dup 1 31 := ⟨by decide +kernel, rfl⟩
theorem d5_init_31 : Dii m5_init 31 m2_init 34 := ⟨25, by decide +kernel, ok_2_init, (Or.inl l_X5_25), by decide +kernel, by decide, rfl, i_2_init, rfl, rfl⟩
theorem d5_init_34 : Dpf m5_init 34 5 2 (.object "PictureScript$Play") true 37 := ⟨26, by decide +kernel, f_X5_26, p_X5_X5_2, rfl⟩
theorem d5_init_37 : Dal m5_init 37 0 38 := Or.inl ⟨0, by decide +kernel, rfl, rfl⟩
theorem d5_init_38 : Dnew m5_init 38 0 8 [vI 0, vN, vN, vN, vN, vI 0, vN, vN] 41 := ⟨30, RX0, TX0, tyX0, by decide +kernel, rfl, inGX0, tyX0_ok, tG_of (List.mem_of_getElem? (i := 196) (by decide +kernel)) (by decide +kernel), tG_of (List.mem_of_getElem? (i := 197) (by decide +kernel)) (by decide +kernel), tG_of (List.mem_of_getElem? (i := 69) (by decide +kernel)) (by decide +kernel), nw_X0.1, nw_X0.2, rfl⟩
theorem d5_init_41 : Dc m5_init 41 .dup 1 42 := ⟨by decide +kernel, rfl⟩
theorem d5_init_42 : Dii m5_init 42 m0_init 45 := ⟨32, by decide +kernel, ok_0_init, (Or.inr ⟨RX5, by decide +kernel⟩), by decide +kernel, by decide, rfl, i_0_init, rfl, rfl⟩
theorem d5_init_45 : Dpf m5_init 45 5 3 (.object "PictureScript$Chart") true 48 := ⟨33, by decide +kernel, f_X5_33, p_X5_X5_3, rfl⟩
theorem d5_init_48 : Dal m5_init 48 0 49 := Or.inl ⟨0, by decide +kernel, rfl, rfl⟩
theorem d5_init_49 : Dgf m5_init 49 5 2 52 := ⟨26, by decide +kernel, f_X5_26, rfl⟩
theorem d5_init_52 : Dal m5_init 52 0 53 := Or.inl ⟨0, by decide +kernel, rfl, rfl⟩
theorem d5_init_53 : Dgf m5_init 53 5 1 56 := ⟨19, by decide +kernel, f_X5_19, rfl⟩
theorem d5_init_56 : Div m5_init 56 m2_startScript 1 59 := ⟨37, by decide +kernel, lk_X5_37, v_2_startScript, rfl⟩
theorem d5_init_59 : Dal m5_init 59 0 60 := Or.inl ⟨0, by decide +kernel, rfl, rfl⟩
theorem d5_init_60 : Dgf m5_init 60 5 3 63 := ⟨33, by decide +kernel, f_X5_33, rfl⟩
theorem d5_init_63 : Dal m5_init 63 0 64 := Or.inl ⟨0, by decide +kernel, rfl, rfl⟩
theorem d5_init_64 : Dgf m5_init 64 5 1 67 := ⟨19, by decide +kernel, f_X5_19, rfl⟩
theorem d5_init_67 : Div m5_init 67 m0_draw 1 70 := ⟨41, by decide +kernel, lk_X5_41, v_0_draw, rfl⟩
theorem d5_init_70 : mR m5_init = none ∧ decode (mB m5_init) 70 = .ok (.return_, 1) := ⟨rfl, by decide +kernel⟩
theorem d5_type_0 : Dil m5_type 0 1 1 := Or.inl ⟨1, by decide +kernel, rfl, rfl⟩
theorem d5_type_1 : Dif m5_type 1 .lt 10 4 := ⟨(9), by decide +kernel, by decide, rfl⟩
theorem d5_type_4 : Dil m5_type 4 1 5 := Or.inl ⟨1, by decide +kernel, rfl, rfl⟩
theorem d5_type_5 : Dc m5_type 5 (.bipush 127) 2 7 := ⟨by decide +kernel, rfl⟩
theorem d5_type_7 : Dic m5_type 7 .le 13 10 := ⟨(6), by decide +kernel, by decide, rfl⟩
theorem d5_type_10 : Dc m5_type 10 (.bipush (-12)) 2 12 := ⟨by decide +kernel, rfl⟩
theorem d5_type_12 : mR m5_type = some .int ∧ decode (mB m5_type) 12 = .ok (.ireturn, 1) := ⟨rfl, by decide +kernel⟩
theorem d5_type_13 : Dal m5_type 13 0 14 := Or.inl ⟨0, by decide +kernel, rfl, rfl⟩
theorem d5_type_14 : Dgf m5_type 14 5 0 17 := ⟨12, by decide +kernel, f_X5_12, rfl⟩
theorem d5_type_17 : Dil m5_type 17 1 18 := Or.inl ⟨1, by decide +kernel, rfl, rfl⟩
theorem d5_type_18 : Dc m5_type 18 .i2b 1 19 := ⟨by decide +kernel, rfl⟩
theorem d5_type_19 : Div m5_type 19 m4_append 1 22 := ⟨44, by decide +kernel, lk_X5_44, v_4_append, rfl⟩
theorem d5_type_22 : Dif m5_type 22 .eq 35 25 := ⟨(13), by decide +kernel, by decide, rfl⟩
theorem d5_type_25 : Dal m5_type 25 0 26 := Or.inl ⟨0, by decide +kernel, rfl, rfl⟩
theorem d5_type_26 : Dgf m5_type 26 5 0 29 := ⟨12, by decide +kernel, f_X5_12, rfl⟩
theorem d5_type_29 : Dgf m5_type 29 4 0 32 := ⟨48, by decide +kernel, f_X5_48, rfl⟩
theorem d5_type_32 : Dgo m5_type 32 37 := ⟨5, by decide +kernel, by decide⟩
theorem d5_type_35 : Dc m5_type 35 (.bipush (-14)) 2 37 := ⟨by decide +kernel, rfl⟩
theorem d5_type_37 : mR m5_type = some .int ∧ decode (mB m5_type) 37 = .ok (.ireturn, 1) := ⟨rfl, by decide +kernel⟩
theorem d5_clearText_0 : Dal m5_clearText 0 0 1 := Or.inl ⟨0, by decide +kernel, rfl, rfl⟩
theorem d5_clearText_1 : Dgf m5_clearText 1 5 0 4 := ⟨12, by decide +kernel, f_X5_12, rfl⟩
theorem d5_clearText_4 : Dgf m5_clearText 4 4 0 7 := ⟨48, by decide +kernel, f_X5_48, rfl⟩
theorem d5_clearText_7 : Dis m5_clearText 7 1 8 := Or.inl ⟨1, by decide +kernel, rfl, rfl⟩
theorem d5_clearText_8 : Dal m5_clearText 8 0 9 := Or.inl ⟨0, by decide +kernel, rfl, rfl⟩
theorem d5_clearText_9 : Dgf m5_clearText 9 5 0 12 := ⟨12, by decide +kernel, f_X5_12, rfl⟩
theorem d5_clearText_12 : Dc m5_clearText 12 (.iconst 0) 1 13 := ⟨by decide +kernel, rfl⟩
theorem d5_clearText_13 : Dpf m5_clearText 13 4 0 .int false 16 := ⟨48, by decide +kernel, f_X5_48, p_X5_X4_0, rfl⟩
theorem d5_clearText_16 : Dil m5_clearText 16 1 17 := Or.inl ⟨1, by decide +kernel, rfl, rfl⟩
theorem d5_clearText_17 : mR m5_clearText = some .int ∧ decode (mB m5_clearText) 17 = .ok (.ireturn, 1) := ⟨rfl, by decide +kernel⟩
theorem d5_fault_0 : Dal m5_fault 0 0 1 := Or.inl ⟨0, by decide +kernel, rfl, rfl⟩
theorem d5_fault_1 : Dgf m5_fault 1 5 0 4 := ⟨12, by decide +kernel, f_X5_12, rfl⟩
theorem d5_fault_4 : Div m5_fault 4 m4_findFault 0 7 := ⟨52, by decide +kernel, lk_X5_52, v_4_findFault, rfl⟩
theorem d5_fault_7 : mR m5_fault = some .int ∧ decode (mB m5_fault) 7 = .ok (.ireturn, 1) := ⟨rfl, by decide +kernel⟩
theorem d5_read_0 : Dal m5_read 0 0 1 := Or.inl ⟨0, by decide +kernel, rfl, rfl⟩
theorem d5_read_1 : Dgf m5_read 1 5 0 4 := ⟨12, by decide +kernel, f_X5_12, rfl⟩
theorem d5_read_4 : Div m5_read 4 m4_findFault 0 7 := ⟨52, by decide +kernel, lk_X5_52, v_4_findFault, rfl⟩
theorem d5_read_7 : Dc m5_read 7 (.bipush (-11)) 2 9 := ⟨by decide +kernel, rfl⟩
theorem d5_read_9 : Dic m5_read 9 .eq 15 12 := ⟨(6), by decide +kernel, by decide, rfl⟩
theorem d5_read_12 : Dc m5_read 12 (.bipush (-13)) 2 14 := ⟨by decide +kernel, rfl⟩
theorem d5_read_14 : mR m5_read = some .int ∧ decode (mB m5_read) 14 = .ok (.ireturn, 1) := ⟨rfl, by decide +kernel⟩
theorem d5_read_15 : Dal m5_read 15 0 16 := Or.inl ⟨0, by decide +kernel, rfl, rfl⟩
theorem d5_read_16 : Dgf m5_read 16 5 1 19 := ⟨19, by decide +kernel, f_X5_19, rfl⟩
theorem d5_read_19 : Das m5_read 19 1 20 := Or.inl ⟨1, by decide +kernel, rfl, rfl⟩
theorem d5_read_20 : Dal m5_read 20 0 21 := Or.inl ⟨0, by decide +kernel, rfl, rfl⟩
theorem d5_read_21 : Dal m5_read 21 0 22 := Or.inl ⟨0, by decide +kernel, rfl, rfl⟩
theorem d5_read_22 : Dgf m5_read 22 5 0 25 := ⟨12, by decide +kernel, f_X5_12, rfl⟩
theorem d5_read_25 : Dgf m5_read 25 4 2 28 := ⟨56, by decide +kernel, f_X5_56, rfl⟩
theorem d5_read_28 : Dpf m5_read 28 5 1 (.object "PictureScript$Script") false 31 := ⟨19, by decide +kernel, f_X5_19, p_X5_X5_1, rfl⟩
theorem d5_read_31 : Dal m5_read 31 0 32 := Or.inl ⟨0, by decide +kernel, rfl, rfl⟩
theorem d5_read_32 : Dgf m5_read 32 5 0 35 := ⟨12, by decide +kernel, f_X5_12, rfl⟩
theorem d5_read_35 : Dal m5_read 35 1 36 := Or.inl ⟨1, by decide +kernel, rfl, rfl⟩
theorem d5_read_36 : Dpf m5_read 36 4 2 (.object "PictureScript$Script") false 39 := ⟨56, by decide +kernel, f_X5_56, p_X5_X4_2, rfl⟩
theorem d5_read_39 : Dal m5_read 39 0 40 := Or.inl ⟨0, by decide +kernel, rfl, rfl⟩
theorem d5_read_40 : Dgf m5_read 40 5 2 43 := ⟨26, by decide +kernel, f_X5_26, rfl⟩
theorem d5_read_43 : Dal m5_read 43 0 44 := Or.inl ⟨0, by decide +kernel, rfl, rfl⟩
theorem d5_read_44 : Dgf m5_read 44 5 1 47 := ⟨19, by decide +kernel, f_X5_19, rfl⟩
theorem d5_read_47 : Div m5_read 47 m2_startScript 1 50 := ⟨37, by decide +kernel, lk_X5_37, v_2_startScript, rfl⟩
theorem d5_read_50 : Dal m5_read 50 0 51 := Or.inl ⟨0, by decide +kernel, rfl, rfl⟩
theorem d5_read_51 : Dgf m5_read 51 5 3 54 := ⟨33, by decide +kernel, f_X5_33, rfl⟩
theorem d5_read_54 : Dal m5_read 54 0 55 := Or.inl ⟨0, by decide +kernel, rfl, rfl⟩
theorem d5_read_55 : Dgf m5_read 55 5 1 58 := ⟨19, by decide +kernel, f_X5_19, rfl⟩
theorem d5_read_58 : Div m5_read 58 m0_draw 1 61 := ⟨41, by decide +kernel, lk_X5_41, v_0_draw, rfl⟩
theorem d5_read_61 : Dal m5_read 61 0 62 := Or.inl ⟨0, by decide +kernel, rfl, rfl⟩
theorem d5_read_62 : Dgf m5_read 62 5 1 65 := ⟨19, by decide +kernel, f_X5_19, rfl⟩
theorem d5_read_65 : Dgf m5_read 65 3 0 68 := ⟨59, by decide +kernel, f_X5_59, rfl⟩
theorem d5_read_68 : mR m5_read = some .int ∧ decode (mB m5_read) 68 = .ok (.ireturn, 1) := ⟨rfl, by decide +kernel⟩
theorem d5_begin_0 : Dal m5_begin 0 0 1 := Or.inl ⟨0, by decide +kernel, rfl, rfl⟩
theorem d5_begin_1 : Dgf m5_begin 1 5 2 4 := ⟨26, by decide +kernel, f_X5_26, rfl⟩
theorem d5_begin_4 : Dal m5_begin 4 0 5 := Or.inl ⟨0, by decide +kernel, rfl, rfl⟩
theorem d5_begin_5 : Dgf m5_begin 5 5 1 8 := ⟨19, by decide +kernel, f_X5_19, rfl⟩
theorem d5_begin_8 : Div m5_begin 8 m2_startAnew 1 11 := ⟨62, by decide +kernel, lk_X5_62, v_2_startAnew, rfl⟩
theorem d5_begin_11 : Dal m5_begin 11 0 12 := Or.inl ⟨0, by decide +kernel, rfl, rfl⟩
theorem d5_begin_12 : Dgf m5_begin 12 5 2 15 := ⟨26, by decide +kernel, f_X5_26, rfl⟩
theorem d5_begin_15 : Div m5_begin 15 m2_now 0 18 := ⟨65, by decide +kernel, lk_X5_65, v_2_now, rfl⟩
theorem d5_begin_18 : Dgf m5_begin 18 1 0 21 := ⟨69, by decide +kernel, f_X5_69, rfl⟩
theorem d5_begin_21 : mR m5_begin = some .int ∧ decode (mB m5_begin) 21 = .ok (.ireturn, 1) := ⟨rfl, by decide +kernel⟩
theorem d5_go_0 : Dal m5_go 0 0 1 := Or.inl ⟨0, by decide +kernel, rfl, rfl⟩
theorem d5_go_1 : Div m5_go 1 m5_isLineShown 0 4 := ⟨74, by decide +kernel, lk_X5_74, v_5_isLineShown, rfl⟩
theorem d5_go_4 : Dif m5_go 4 .ne 10 7 := ⟨(6), by decide +kernel, by decide, rfl⟩
theorem d5_go_7 : Dc m5_go 7 (.bipush (-13)) 2 9 := ⟨by decide +kernel, rfl⟩
theorem d5_go_9 : mR m5_go = some .int ∧ decode (mB m5_go) 9 = .ok (.ireturn, 1) := ⟨rfl, by decide +kernel⟩
theorem d5_go_10 : Dal m5_go 10 0 11 := Or.inl ⟨0, by decide +kernel, rfl, rfl⟩
theorem d5_go_11 : Div m5_go 11 m5_goOnFromLine 0 14 := ⟨78, by decide +kernel, lk_X5_78, v_5_goOnFromLine, rfl⟩
theorem d5_go_14 : Dc m5_go 14 .pop 1 15 := ⟨by decide +kernel, rfl⟩
theorem d5_go_15 : Dal m5_go 15 0 16 := Or.inl ⟨0, by decide +kernel, rfl, rfl⟩
theorem d5_go_16 : Dgf m5_go 16 5 2 19 := ⟨26, by decide +kernel, f_X5_26, rfl⟩
theorem d5_go_19 : Div m5_go 19 m2_now 0 22 := ⟨65, by decide +kernel, lk_X5_65, v_2_now, rfl⟩
theorem d5_go_22 : Dgf m5_go 22 1 0 25 := ⟨69, by decide +kernel, f_X5_69, rfl⟩
theorem d5_go_25 : mR m5_go = some .int ∧ decode (mB m5_go) 25 = .ok (.ireturn, 1) := ⟨rfl, by decide +kernel⟩
theorem d5_choose_0 : Dil m5_choose 0 1 1 := Or.inl ⟨1, by decide +kernel, rfl, rfl⟩
theorem d5_choose_1 : Dif m5_choose 1 .ge 7 4 := ⟨(6), by decide +kernel, by decide, rfl⟩
theorem d5_choose_4 : Dc m5_choose 4 (.bipush (-12)) 2 6 := ⟨by decide +kernel, rfl⟩
theorem d5_choose_6 : mR m5_choose = some .int ∧ decode (mB m5_choose) 6 = .ok (.ireturn, 1) := ⟨rfl, by decide +kernel⟩
theorem d5_choose_7 : Dal m5_choose 7 0 8 := Or.inl ⟨0, by decide +kernel, rfl, rfl⟩
theorem d5_choose_8 : Dgf m5_choose 8 5 2 11 := ⟨26, by decide +kernel, f_X5_26, rfl⟩
theorem d5_choose_11 : Div m5_choose 11 m2_now 0 14 := ⟨65, by decide +kernel, lk_X5_65, v_2_now, rfl⟩
theorem d5_choose_14 : Das m5_choose 14 2 15 := Or.inl ⟨2, by decide +kernel, rfl, rfl⟩
theorem d5_choose_15 : Dal m5_choose 15 0 16 := Or.inl ⟨0, by decide +kernel, rfl, rfl⟩
theorem d5_choose_16 : Dgf m5_choose 16 5 1 19 := ⟨19, by decide +kernel, f_X5_19, rfl⟩
theorem d5_choose_19 : Dal m5_choose 19 2 20 := Or.inl ⟨2, by decide +kernel, rfl, rfl⟩
theorem d5_choose_20 : Dgf m5_choose 20 1 0 23 := ⟨69, by decide +kernel, f_X5_69, rfl⟩
theorem d5_choose_23 : Dil m5_choose 23 1 24 := Or.inl ⟨1, by decide +kernel, rfl, rfl⟩
theorem d5_choose_24 : Dal m5_choose 24 2 25 := Or.inl ⟨2, by decide +kernel, rfl, rfl⟩
theorem d5_choose_25 : Dgf m5_choose 25 1 1 28 := ⟨81, by decide +kernel, f_X5_81, rfl⟩
theorem d5_choose_28 : Div m5_choose 28 m3_isOpen 3 31 := ⟨84, by decide +kernel, lk_X5_84, v_3_isOpen, rfl⟩
theorem d5_choose_31 : Dif m5_choose 31 .ne 37 34 := ⟨(6), by decide +kernel, by decide, rfl⟩
theorem d5_choose_34 : Dc m5_choose 34 (.bipush (-13)) 2 36 := ⟨by decide +kernel, rfl⟩
theorem d5_choose_36 : mR m5_choose = some .int ∧ decode (mB m5_choose) 36 = .ok (.ireturn, 1) := ⟨rfl, by decide +kernel⟩
theorem d5_choose_37 : Dal m5_choose 37 0 38 := Or.inl ⟨0, by decide +kernel, rfl, rfl⟩
theorem d5_choose_38 : Dgf m5_choose 38 5 2 41 := ⟨26, by decide +kernel, f_X5_26, rfl⟩
theorem d5_choose_41 : Dal m5_choose 41 0 42 := Or.inl ⟨0, by decide +kernel, rfl, rfl⟩
theorem d5_choose_42 : Dgf m5_choose 42 5 1 45 := ⟨19, by decide +kernel, f_X5_19, rfl⟩
theorem d5_choose_45 : Dal m5_choose 45 0 46 := Or.inl ⟨0, by decide +kernel, rfl, rfl⟩
theorem d5_choose_46 : Dgf m5_choose 46 5 1 49 := ⟨19, by decide +kernel, f_X5_19, rfl⟩
theorem d5_choose_49 : Dal m5_choose 49 2 50 := Or.inl ⟨2, by decide +kernel, rfl, rfl⟩
theorem d5_choose_50 : Dgf m5_choose 50 1 0 53 := ⟨69, by decide +kernel, f_X5_69, rfl⟩
theorem d5_choose_53 : Dil m5_choose 53 1 54 := Or.inl ⟨1, by decide +kernel, rfl, rfl⟩
theorem d5_choose_54 : Dc m5_choose 54 (.iconst 0) 1 55 := ⟨by decide +kernel, rfl⟩
theorem d5_choose_55 : Div m5_choose 55 m3_optionPart 3 58 := ⟨88, by decide +kernel, lk_X5_88, v_3_optionPart, rfl⟩
theorem d5_choose_58 : Div m5_choose 58 m2_goOn 2 61 := ⟨92, by decide +kernel, lk_X5_92, v_2_goOn, rfl⟩
theorem d5_choose_61 : Dc m5_choose 61 .pop 1 62 := ⟨by decide +kernel, rfl⟩
theorem d5_choose_62 : Dal m5_choose 62 0 63 := Or.inl ⟨0, by decide +kernel, rfl, rfl⟩
theorem d5_choose_63 : Dgf m5_choose 63 5 2 66 := ⟨26, by decide +kernel, f_X5_26, rfl⟩
theorem d5_choose_66 : Div m5_choose 66 m2_now 0 69 := ⟨65, by decide +kernel, lk_X5_65, v_2_now, rfl⟩
theorem d5_choose_69 : Dgf m5_choose 69 1 0 72 := ⟨69, by decide +kernel, f_X5_69, rfl⟩
theorem d5_choose_72 : mR m5_choose = some .int ∧ decode (mB m5_choose) 72 = .ok (.ireturn, 1) := ⟨rfl, by decide +kernel⟩
theorem d5_skip_0 : Dal m5_skip 0 0 1 := Or.inl ⟨0, by decide +kernel, rfl, rfl⟩
theorem d5_skip_1 : Div m5_skip 1 m5_isLineShown 0 4 := ⟨74, by decide +kernel, lk_X5_74, v_5_isLineShown, rfl⟩
theorem d5_skip_4 : Dif m5_skip 4 .ne 10 7 := ⟨(6), by decide +kernel, by decide, rfl⟩
theorem d5_skip_7 : Dc m5_skip 7 (.bipush (-13)) 2 9 := ⟨by decide +kernel, rfl⟩
theorem d5_skip_9 : mR m5_skip = some .int ∧ decode (mB m5_skip) 9 = .ok (.ireturn, 1) := ⟨rfl, by decide +kernel⟩
theorem d5_skip_10 : Dc m5_skip 10 (.iconst 0) 1 11 := ⟨by decide +kernel, rfl⟩
theorem d5_skip_11 : Dis m5_skip 11 1 12 := Or.inl ⟨1, by decide +kernel, rfl, rfl⟩
theorem d5_skip_12 : Dc m5_skip 12 (.iconst 1) 1 13 := ⟨by decide +kernel, rfl⟩
theorem d5_skip_13 : Dis m5_skip 13 2 14 := Or.inl ⟨2, by decide +kernel, rfl, rfl⟩
theorem d5_skip_14 : Dil m5_skip 14 1 15 := Or.inl ⟨1, by decide +kernel, rfl, rfl⟩
theorem d5_skip_15 : Dc m5_skip 15 (.bipush 60) 2 17 := ⟨by decide +kernel, rfl⟩
theorem d5_skip_17 : Dic m5_skip 17 .ge 42 20 := ⟨(25), by decide +kernel, by decide, rfl⟩
theorem d5_skip_20 : Dil m5_skip 20 2 21 := Or.inl ⟨2, by decide +kernel, rfl, rfl⟩
theorem d5_skip_21 : Dif m5_skip 21 .eq 42 24 := ⟨(21), by decide +kernel, by decide, rfl⟩
theorem d5_skip_24 : Dal m5_skip 24 0 25 := Or.inl ⟨0, by decide +kernel, rfl, rfl⟩
theorem d5_skip_25 : Div m5_skip 25 m5_isLineShown 0 28 := ⟨74, by decide +kernel, lk_X5_74, v_5_isLineShown, rfl⟩
theorem d5_skip_28 : Dif m5_skip 28 .eq 42 31 := ⟨(14), by decide +kernel, by decide, rfl⟩
theorem d5_skip_31 : Dal m5_skip 31 0 32 := Or.inl ⟨0, by decide +kernel, rfl, rfl⟩
theorem d5_skip_32 : Div m5_skip 32 m5_goOnFromLine 0 35 := ⟨78, by decide +kernel, lk_X5_78, v_5_goOnFromLine, rfl⟩
theorem d5_skip_35 : Dis m5_skip 35 2 36 := Or.inl ⟨2, by decide +kernel, rfl, rfl⟩
theorem d5_skip_36 : Dc m5_skip 36 (.iinc 1 1) 3 39 := ⟨by decide +kernel, rfl⟩
theorem d5_skip_39 : Dgo m5_skip 39 14 := ⟨(-25), by decide +kernel, by decide⟩
theorem d5_skip_42 : Dil m5_skip 42 1 43 := Or.inl ⟨1, by decide +kernel, rfl, rfl⟩
theorem d5_skip_43 : mR m5_skip = some .int ∧ decode (mB m5_skip) 43 = .ok (.ireturn, 1) := ⟨rfl, by decide +kernel⟩
theorem d5_back_0 : Dil m5_back 0 1 1 := Or.inl ⟨1, by decide +kernel, rfl, rfl⟩
theorem d5_back_1 : Dc m5_back 1 (.iconst 1) 1 2 := ⟨by decide +kernel, rfl⟩
theorem d5_back_2 : Dic m5_back 2 .lt 11 5 := ⟨(9), by decide +kernel, by decide, rfl⟩
theorem d5_back_5 : Dil m5_back 5 1 6 := Or.inl ⟨1, by decide +kernel, rfl, rfl⟩
theorem d5_back_6 : Dc m5_back 6 (.bipush 20) 2 8 := ⟨by decide +kernel, rfl⟩
theorem d5_back_8 : Dic m5_back 8 .le 14 11 := ⟨(6), by decide +kernel, by decide, rfl⟩
theorem d5_back_11 : Dc m5_back 11 (.bipush (-12)) 2 13 := ⟨by decide +kernel, rfl⟩
theorem d5_back_13 : mR m5_back = some .int ∧ decode (mB m5_back) 13 = .ok (.ireturn, 1) := ⟨rfl, by decide +kernel⟩
theorem d5_back_14 : Dal m5_back 14 0 15 := Or.inl ⟨0, by decide +kernel, rfl, rfl⟩
theorem d5_back_15 : Dgf m5_back 15 5 2 18 := ⟨26, by decide +kernel, f_X5_26, rfl⟩
theorem d5_back_18 : Dil m5_back 18 1 19 := Or.inl ⟨1, by decide +kernel, rfl, rfl⟩
theorem d5_back_19 : Div m5_back 19 m2_turnBack 1 22 := ⟨96, by decide +kernel, lk_X5_96, v_2_turnBack, rfl⟩
theorem d5_back_22 : Dif m5_back 22 .eq 38 25 := ⟨(16), by decide +kernel, by decide, rfl⟩
theorem d5_back_25 : Dal m5_back 25 0 26 := Or.inl ⟨0, by decide +kernel, rfl, rfl⟩
theorem d5_back_26 : Dgf m5_back 26 5 2 29 := ⟨26, by decide +kernel, f_X5_26, rfl⟩
theorem d5_back_29 : Div m5_back 29 m2_now 0 32 := ⟨65, by decide +kernel, lk_X5_65, v_2_now, rfl⟩
theorem d5_back_32 : Dgf m5_back 32 1 0 35 := ⟨69, by decide +kernel, f_X5_69, rfl⟩
theorem d5_back_35 : Dgo m5_back 35 40 := ⟨5, by decide +kernel, by decide⟩
theorem d5_back_38 : Dc m5_back 38 (.bipush (-13)) 2 40 := ⟨by decide +kernel, rfl⟩
theorem d5_back_40 : mR m5_back = some .int ∧ decode (mB m5_back) 40 = .ok (.ireturn, 1) := ⟨rfl, by decide +kernel⟩
theorem d5_again_0 : Dal m5_again 0 0 1 := Or.inl ⟨0, by decide +kernel, rfl, rfl⟩
theorem d5_again_1 : Dgf m5_again 1 5 2 4 := ⟨26, by decide +kernel, f_X5_26, rfl⟩
theorem d5_again_4 : Div m5_again 4 m2_turnForth 0 7 := ⟨100, by decide +kernel, lk_X5_100, v_2_turnForth, rfl⟩
theorem d5_again_7 : Dif m5_again 7 .eq 23 10 := ⟨(16), by decide +kernel, by decide, rfl⟩
theorem d5_again_10 : Dal m5_again 10 0 11 := Or.inl ⟨0, by decide +kernel, rfl, rfl⟩
theorem d5_again_11 : Dgf m5_again 11 5 2 14 := ⟨26, by decide +kernel, f_X5_26, rfl⟩
theorem d5_again_14 : Div m5_again 14 m2_now 0 17 := ⟨65, by decide +kernel, lk_X5_65, v_2_now, rfl⟩
theorem d5_again_17 : Dgf m5_again 17 1 0 20 := ⟨69, by decide +kernel, f_X5_69, rfl⟩
theorem d5_again_20 : Dgo m5_again 20 25 := ⟨5, by decide +kernel, by decide⟩
theorem d5_again_23 : Dc m5_again 23 (.bipush (-13)) 2 25 := ⟨by decide +kernel, rfl⟩
theorem d5_again_25 : mR m5_again = some .int ∧ decode (mB m5_again) 25 = .ok (.ireturn, 1) := ⟨rfl, by decide +kernel⟩
theorem d5_save_0 : Dil m5_save 0 1 1 := Or.inl ⟨1, by decide +kernel, rfl, rfl⟩
theorem d5_save_1 : Dif m5_save 1 .lt 9 4 := ⟨(8), by decide +kernel, by decide, rfl⟩
theorem d5_save_4 : Dil m5_save 4 1 5 := Or.inl ⟨1, by decide +kernel, rfl, rfl⟩
theorem d5_save_5 : Dc m5_save 5 (.iconst 3) 1 6 := ⟨by decide +kernel, rfl⟩
theorem d5_save_6 : Dic m5_save 6 .lt 12 9 := ⟨(6), by decide +kernel, by decide, rfl⟩
theorem d5_save_9 : Dc m5_save 9 (.bipush (-12)) 2 11 := ⟨by decide +kernel, rfl⟩
theorem d5_save_11 : mR m5_save = some .int ∧ decode (mB m5_save) 11 = .ok (.ireturn, 1) := ⟨rfl, by decide +kernel⟩
theorem d5_save_12 : Dal m5_save 12 0 13 := Or.inl ⟨0, by decide +kernel, rfl, rfl⟩
theorem d5_save_13 : Dgf m5_save 13 5 2 16 := ⟨26, by decide +kernel, f_X5_26, rfl⟩
theorem d5_save_16 : Dil m5_save 16 1 17 := Or.inl ⟨1, by decide +kernel, rfl, rfl⟩
theorem d5_save_17 : Div m5_save 17 m2_keepIn 1 20 := ⟨103, by decide +kernel, lk_X5_103, v_2_keepIn, rfl⟩
theorem d5_save_20 : Dal m5_save 20 0 21 := Or.inl ⟨0, by decide +kernel, rfl, rfl⟩
theorem d5_save_21 : Dgf m5_save 21 5 2 24 := ⟨26, by decide +kernel, f_X5_26, rfl⟩
theorem d5_save_24 : Div m5_save 24 m2_now 0 27 := ⟨65, by decide +kernel, lk_X5_65, v_2_now, rfl⟩
theorem d5_save_27 : Dgf m5_save 27 1 0 30 := ⟨69, by decide +kernel, f_X5_69, rfl⟩
theorem d5_save_30 : mR m5_save = some .int ∧ decode (mB m5_save) 30 = .ok (.ireturn, 1) := ⟨rfl, by decide +kernel⟩
theorem d5_restore_0 : Dil m5_restore 0 1 1 := Or.inl ⟨1, by decide +kernel, rfl, rfl⟩
theorem d5_restore_1 : Dif m5_restore 1 .lt 9 4 := ⟨(8), by decide +kernel, by decide, rfl⟩
theorem d5_restore_4 : Dil m5_restore 4 1 5 := Or.inl ⟨1, by decide +kernel, rfl, rfl⟩
theorem d5_restore_5 : Dc m5_restore 5 (.iconst 3) 1 6 := ⟨by decide +kernel, rfl⟩
theorem d5_restore_6 : Dic m5_restore 6 .lt 12 9 := ⟨(6), by decide +kernel, by decide, rfl⟩
theorem d5_restore_9 : Dc m5_restore 9 (.bipush (-12)) 2 11 := ⟨by decide +kernel, rfl⟩
theorem d5_restore_11 : mR m5_restore = some .int ∧ decode (mB m5_restore) 11 = .ok (.ireturn, 1) := ⟨rfl, by decide +kernel⟩
theorem d5_restore_12 : Dal m5_restore 12 0 13 := Or.inl ⟨0, by decide +kernel, rfl, rfl⟩
theorem d5_restore_13 : Dgf m5_restore 13 5 2 16 := ⟨26, by decide +kernel, f_X5_26, rfl⟩
theorem d5_restore_16 : Dil m5_restore 16 1 17 := Or.inl ⟨1, by decide +kernel, rfl, rfl⟩
theorem d5_restore_17 : Div m5_restore 17 m2_takeFrom 1 20 := ⟨107, by decide +kernel, lk_X5_107, v_2_takeFrom, rfl⟩
theorem d5_restore_20 : Dif m5_restore 20 .eq 36 23 := ⟨(16), by decide +kernel, by decide, rfl⟩
theorem d5_restore_23 : Dal m5_restore 23 0 24 := Or.inl ⟨0, by decide +kernel, rfl, rfl⟩
theorem d5_restore_24 : Dgf m5_restore 24 5 2 27 := ⟨26, by decide +kernel, f_X5_26, rfl⟩
theorem d5_restore_27 : Div m5_restore 27 m2_now 0 30 := ⟨65, by decide +kernel, lk_X5_65, v_2_now, rfl⟩
theorem d5_restore_30 : Dgf m5_restore 30 1 0 33 := ⟨69, by decide +kernel, f_X5_69, rfl⟩
theorem d5_restore_33 : Dgo m5_restore 33 38 := ⟨5, by decide +kernel, by decide⟩
theorem d5_restore_36 : Dc m5_restore 36 (.bipush (-13)) 2 38 := ⟨by decide +kernel, rfl⟩
theorem d5_restore_38 : mR m5_restore = some .int ∧ decode (mB m5_restore) 38 = .ok (.ireturn, 1) := ⟨rfl, by decide +kernel⟩
theorem d5_shown_0 : Dal m5_shown 0 0 1 := Or.inl ⟨0, by decide +kernel, rfl, rfl⟩
theorem d5_shown_1 : Dgf m5_shown 1 5 2 4 := ⟨26, by decide +kernel, f_X5_26, rfl⟩
theorem d5_shown_4 : Div m5_shown 4 m2_now 0 7 := ⟨65, by decide +kernel, lk_X5_65, v_2_now, rfl⟩
theorem d5_shown_7 : Das m5_shown 7 2 8 := Or.inl ⟨2, by decide +kernel, rfl, rfl⟩
theorem d5_shown_8 : Dil m5_shown 8 1 9 := Or.inl ⟨1, by decide +kernel, rfl, rfl⟩
theorem d5_shown_9 : Dts m5_shown 9 0 [48, 53, 65, 90, 102, 107] 123 := ⟨114, 5, #[39, 44, 56, 81, 93, 98], 39, by decide +kernel, by decide, by decide, rfl, by decide⟩
theorem d5_shown_48 : Dal m5_shown 48 2 49 := Or.inl ⟨2, by decide +kernel, rfl, rfl⟩
theorem d5_shown_49 : Dgf m5_shown 49 1 0 52 := ⟨69, by decide +kernel, f_X5_69, rfl⟩
theorem d5_shown_52 : mR m5_shown = some .int ∧ decode (mB m5_shown) 52 = .ok (.ireturn, 1) := ⟨rfl, by decide +kernel⟩
theorem d5_shown_53 : Dal m5_shown 53 0 54 := Or.inl ⟨0, by decide +kernel, rfl, rfl⟩
theorem d5_shown_54 : Dgf m5_shown 54 5 1 57 := ⟨19, by decide +kernel, f_X5_19, rfl⟩
theorem d5_shown_57 : Dal m5_shown 57 2 58 := Or.inl ⟨2, by decide +kernel, rfl, rfl⟩
theorem d5_shown_58 : Dgf m5_shown 58 1 0 61 := ⟨69, by decide +kernel, f_X5_69, rfl⟩
theorem d5_shown_61 : Div m5_shown 61 m3_shownKind 1 64 := ⟨110, by decide +kernel, lk_X5_110, v_3_shownKind, rfl⟩
theorem d5_shown_64 : mR m5_shown = some .int ∧ decode (mB m5_shown) 64 = .ok (.ireturn, 1) := ⟨rfl, by decide +kernel⟩
theorem d5_shown_65 : Dal m5_shown 65 0 66 := Or.inl ⟨0, by decide +kernel, rfl, rfl⟩
theorem d5_shown_66 : Div m5_shown 66 m5_isLineShown 0 69 := ⟨74, by decide +kernel, lk_X5_74, v_5_isLineShown, rfl⟩
theorem d5_shown_69 : Dif m5_shown 69 .eq 87 72 := ⟨(18), by decide +kernel, by decide, rfl⟩
theorem d5_shown_72 : Dal m5_shown 72 0 73 := Or.inl ⟨0, by decide +kernel, rfl, rfl⟩
theorem d5_shown_73 : Dgf m5_shown 73 5 1 76 := ⟨19, by decide +kernel, f_X5_19, rfl⟩
theorem d5_shown_76 : Dal m5_shown 76 2 77 := Or.inl ⟨2, by decide +kernel, rfl, rfl⟩
theorem d5_shown_77 : Dgf m5_shown 77 1 0 80 := ⟨69, by decide +kernel, f_X5_69, rfl⟩
theorem d5_shown_80 : Dc m5_shown 80 (.iconst 0) 1 81 := ⟨by decide +kernel, rfl⟩
theorem d5_shown_81 : Div m5_shown 81 m3_numberOf 2 84 := ⟨114, by decide +kernel, lk_X5_114, v_3_numberOf, rfl⟩
theorem d5_shown_84 : Dgo m5_shown 84 89 := ⟨5, by decide +kernel, by decide⟩
theorem d5_shown_87 : Dc m5_shown 87 (.bipush (-11)) 2 89 := ⟨by decide +kernel, rfl⟩
theorem d5_shown_89 : mR m5_shown = some .int ∧ decode (mB m5_shown) 89 = .ok (.ireturn, 1) := ⟨rfl, by decide +kernel⟩
theorem d5_shown_90 : Dal m5_shown 90 0 91 := Or.inl ⟨0, by decide +kernel, rfl, rfl⟩
theorem d5_shown_91 : Dgf m5_shown 91 5 1 94 := ⟨19, by decide +kernel, f_X5_19, rfl⟩
theorem d5_shown_94 : Dal m5_shown 94 2 95 := Or.inl ⟨2, by decide +kernel, rfl, rfl⟩
theorem d5_shown_95 : Dgf m5_shown 95 1 0 98 := ⟨69, by decide +kernel, f_X5_69, rfl⟩
theorem d5_shown_98 : Div m5_shown 98 m3_shownNumber 1 101 := ⟨118, by decide +kernel, lk_X5_118, v_3_shownNumber, rfl⟩
theorem d5_shown_101 : mR m5_shown = some .int ∧ decode (mB m5_shown) 101 = .ok (.ireturn, 1) := ⟨rfl, by decide +kernel⟩
theorem d5_shown_102 : Dal m5_shown 102 2 103 := Or.inl ⟨2, by decide +kernel, rfl, rfl⟩
theorem d5_shown_103 : Dgf m5_shown 103 1 1 106 := ⟨81, by decide +kernel, f_X5_81, rfl⟩
theorem d5_shown_106 : mR m5_shown = some .int ∧ decode (mB m5_shown) 106 = .ok (.ireturn, 1) := ⟨rfl, by decide +kernel⟩
theorem d5_shown_107 : Dal m5_shown 107 0 108 := Or.inl ⟨0, by decide +kernel, rfl, rfl⟩
theorem d5_shown_108 : Dgf m5_shown 108 5 1 111 := ⟨19, by decide +kernel, f_X5_19, rfl⟩
theorem d5_shown_111 : Dal m5_shown 111 2 112 := Or.inl ⟨2, by decide +kernel, rfl, rfl⟩
theorem d5_shown_112 : Dgf m5_shown 112 1 0 115 := ⟨69, by decide +kernel, f_X5_69, rfl⟩
theorem d5_shown_115 : Dal m5_shown 115 2 116 := Or.inl ⟨2, by decide +kernel, rfl, rfl⟩
theorem d5_shown_116 : Dgf m5_shown 116 1 1 119 := ⟨81, by decide +kernel, f_X5_81, rfl⟩
theorem d5_shown_119 : Div m5_shown 119 m3_openOptions 2 122 := ⟨121, by decide +kernel, lk_X5_121, v_3_openOptions, rfl⟩
theorem d5_shown_122 : mR m5_shown = some .int ∧ decode (mB m5_shown) 122 = .ok (.ireturn, 1) := ⟨rfl, by decide +kernel⟩
theorem d5_shown_123 : Dc m5_shown 123 (.bipush (-12)) 2 125 := ⟨by decide +kernel, rfl⟩
theorem d5_shown_125 : mR m5_shown = some .int ∧ decode (mB m5_shown) 125 = .ok (.ireturn, 1) := ⟨rfl, by decide +kernel⟩
theorem d5_portrait_0 : Dil m5_portrait 0 1 1 := Or.inl ⟨1, by decide +kernel, rfl, rfl⟩
theorem d5_portrait_1 : Dif m5_portrait 1 .lt 9 4 := ⟨(8), by decide +kernel, by decide, rfl⟩
theorem d5_portrait_4 : Dil m5_portrait 4 1 5 := Or.inl ⟨1, by decide +kernel, rfl, rfl⟩
theorem d5_portrait_5 : Dc m5_portrait 5 (.iconst 3) 1 6 := ⟨by decide +kernel, rfl⟩
theorem d5_portrait_6 : Dic m5_portrait 6 .lt 12 9 := ⟨(6), by decide +kernel, by decide, rfl⟩
theorem d5_portrait_9 : Dc m5_portrait 9 (.bipush (-12)) 2 11 := ⟨by decide +kernel, rfl⟩
theorem d5_portrait_11 : mR m5_portrait = some .int ∧ decode (mB m5_portrait) 11 = .ok (.ireturn, 1) := ⟨rfl, by decide +kernel⟩
theorem d5_portrait_12 : Dal m5_portrait 12 0 13 := Or.inl ⟨0, by decide +kernel, rfl, rfl⟩
theorem d5_portrait_13 : Dgf m5_portrait 13 5 2 16 := ⟨26, by decide +kernel, f_X5_26, rfl⟩
theorem d5_portrait_16 : Div m5_portrait 16 m2_now 0 19 := ⟨65, by decide +kernel, lk_X5_65, v_2_now, rfl⟩
theorem d5_portrait_19 : Das m5_portrait 19 3 20 := Or.inl ⟨3, by decide +kernel, rfl, rfl⟩
theorem d5_portrait_20 : Dil m5_portrait 20 2 21 := Or.inl ⟨2, by decide +kernel, rfl, rfl⟩
theorem d5_portrait_21 : Dif m5_portrait 21 .eq 33 24 := ⟨(12), by decide +kernel, by decide, rfl⟩
theorem d5_portrait_24 : Dal m5_portrait 24 3 25 := Or.inl ⟨3, by decide +kernel, rfl, rfl⟩
theorem d5_portrait_25 : Dgf m5_portrait 25 1 3 28 := ⟨124, by decide +kernel, f_X5_124, rfl⟩
theorem d5_portrait_28 : Dil m5_portrait 28 1 29 := Or.inl ⟨1, by decide +kernel, rfl, rfl⟩
theorem d5_portrait_29 : Dc m5_portrait 29 .iaload 1 30 := ⟨by decide +kernel, rfl⟩
theorem d5_portrait_30 : Dgo m5_portrait 30 39 := ⟨9, by decide +kernel, by decide⟩
theorem d5_portrait_33 : Dal m5_portrait 33 3 34 := Or.inl ⟨3, by decide +kernel, rfl, rfl⟩
theorem d5_portrait_34 : Dgf m5_portrait 34 1 2 37 := ⟨128, by decide +kernel, f_X5_128, rfl⟩
theorem d5_portrait_37 : Dil m5_portrait 37 1 38 := Or.inl ⟨1, by decide +kernel, rfl, rfl⟩
theorem d5_portrait_38 : Dc m5_portrait 38 .iaload 1 39 := ⟨by decide +kernel, rfl⟩
theorem d5_portrait_39 : mR m5_portrait = some .int ∧ decode (mB m5_portrait) 39 = .ok (.ireturn, 1) := ⟨rfl, by decide +kernel⟩
theorem d5_node_0 : Dal m5_node 0 0 1 := Or.inl ⟨0, by decide +kernel, rfl, rfl⟩
theorem d5_node_1 : Dgf m5_node 1 5 1 4 := ⟨19, by decide +kernel, f_X5_19, rfl⟩
theorem d5_node_4 : Dil m5_node 4 1 5 := Or.inl ⟨1, by decide +kernel, rfl, rfl⟩
theorem d5_node_5 : Div m5_node 5 m3_has 1 8 := ⟨131, by decide +kernel, lk_X5_131, v_3_has, rfl⟩
theorem d5_node_8 : Dif m5_node 8 .eq 20 11 := ⟨(12), by decide +kernel, by decide, rfl⟩
theorem d5_node_11 : Dil m5_node 11 2 12 := Or.inl ⟨2, by decide +kernel, rfl, rfl⟩
theorem d5_node_12 : Dif m5_node 12 .lt 20 15 := ⟨(8), by decide +kernel, by decide, rfl⟩
theorem d5_node_15 : Dil m5_node 15 2 16 := Or.inl ⟨2, by decide +kernel, rfl, rfl⟩
theorem d5_node_16 : Dc m5_node 16 (.iconst 3) 1 17 := ⟨by decide +kernel, rfl⟩
theorem d5_node_17 : Dic m5_node 17 .le 23 20 := ⟨(6), by decide +kernel, by decide, rfl⟩
theorem d5_node_20 : Dc m5_node 20 (.bipush (-12)) 2 22 := ⟨by decide +kernel, rfl⟩
theorem d5_node_22 : mR m5_node = some .int ∧ decode (mB m5_node) 22 = .ok (.ireturn, 1) := ⟨rfl, by decide +kernel⟩
theorem d5_node_23 : Dil m5_node 23 2 24 := Or.inl ⟨2, by decide +kernel, rfl, rfl⟩
theorem d5_node_24 : Dif m5_node 24 .ne 38 27 := ⟨(14), by decide +kernel, by decide, rfl⟩
theorem d5_node_27 : Dal m5_node 27 0 28 := Or.inl ⟨0, by decide +kernel, rfl, rfl⟩
theorem d5_node_28 : Dgf m5_node 28 5 1 31 := ⟨19, by decide +kernel, f_X5_19, rfl⟩
theorem d5_node_31 : Dil m5_node 31 1 32 := Or.inl ⟨1, by decide +kernel, rfl, rfl⟩
theorem d5_node_32 : Div m5_node 32 m3_kindOf 1 35 := ⟨134, by decide +kernel, lk_X5_134, v_3_kindOf, rfl⟩
theorem d5_node_35 : Dgo m5_node 35 49 := ⟨14, by decide +kernel, by decide⟩
theorem d5_node_38 : Dal m5_node 38 0 39 := Or.inl ⟨0, by decide +kernel, rfl, rfl⟩
theorem d5_node_39 : Dgf m5_node 39 5 1 42 := ⟨19, by decide +kernel, f_X5_19, rfl⟩
theorem d5_node_42 : Dil m5_node 42 1 43 := Or.inl ⟨1, by decide +kernel, rfl, rfl⟩
theorem d5_node_43 : Dil m5_node 43 2 44 := Or.inl ⟨2, by decide +kernel, rfl, rfl⟩
theorem d5_node_44 : Dc m5_node 44 (.iconst 1) 1 45 := ⟨by decide +kernel, rfl⟩
theorem d5_node_45 : Dc m5_node 45 .isub 1 46 := ⟨by decide +kernel, rfl⟩
theorem d5_node_46 : Div m5_node 46 m3_numberOf 2 49 := ⟨114, by decide +kernel, lk_X5_114, v_3_numberOf, rfl⟩
theorem d5_node_49 : mR m5_node = some .int ∧ decode (mB m5_node) 49 = .ok (.ireturn, 1) := ⟨rfl, by decide +kernel⟩
theorem d5_option_0 : Dal m5_option 0 0 1 := Or.inl ⟨0, by decide +kernel, rfl, rfl⟩
theorem d5_option_1 : Dgf m5_option 1 5 1 4 := ⟨19, by decide +kernel, f_X5_19, rfl⟩
theorem d5_option_4 : Dil m5_option 4 1 5 := Or.inl ⟨1, by decide +kernel, rfl, rfl⟩
theorem d5_option_5 : Div m5_option 5 m3_kindOf 1 8 := ⟨134, by decide +kernel, lk_X5_134, v_3_kindOf, rfl⟩
theorem d5_option_8 : Dc m5_option 8 (.bipush 6) 2 10 := ⟨by decide +kernel, rfl⟩
theorem d5_option_10 : Dic m5_option 10 .ne 26 13 := ⟨(16), by decide +kernel, by decide, rfl⟩
theorem d5_option_13 : Dil m5_option 13 2 14 := Or.inl ⟨2, by decide +kernel, rfl, rfl⟩
theorem d5_option_14 : Dif m5_option 14 .lt 26 17 := ⟨(12), by decide +kernel, by decide, rfl⟩
theorem d5_option_17 : Dil m5_option 17 3 18 := Or.inl ⟨3, by decide +kernel, rfl, rfl⟩
theorem d5_option_18 : Dif m5_option 18 .lt 26 21 := ⟨(8), by decide +kernel, by decide, rfl⟩
theorem d5_option_21 : Dil m5_option 21 3 22 := Or.inl ⟨3, by decide +kernel, rfl, rfl⟩
theorem d5_option_22 : Dc m5_option 22 (.iconst 3) 1 23 := ⟨by decide +kernel, rfl⟩
theorem d5_option_23 : Dic m5_option 23 .lt 29 26 := ⟨(6), by decide +kernel, by decide, rfl⟩
theorem d5_option_26 : Dc m5_option 26 (.bipush (-12)) 2 28 := ⟨by decide +kernel, rfl⟩
theorem d5_option_28 : mR m5_option = some .int ∧ decode (mB m5_option) 28 = .ok (.ireturn, 1) := ⟨rfl, by decide +kernel⟩
theorem d5_option_29 : Dal m5_option 29 0 30 := Or.inl ⟨0, by decide +kernel, rfl, rfl⟩
theorem d5_option_30 : Dgf m5_option 30 5 1 33 := ⟨19, by decide +kernel, f_X5_19, rfl⟩
theorem d5_option_33 : Dil m5_option 33 1 34 := Or.inl ⟨1, by decide +kernel, rfl, rfl⟩
theorem d5_option_34 : Dil m5_option 34 2 35 := Or.inl ⟨2, by decide +kernel, rfl, rfl⟩
theorem d5_option_35 : Dil m5_option 35 3 36 := Or.inl ⟨3, by decide +kernel, rfl, rfl⟩
theorem d5_option_36 : Div m5_option 36 m3_optionPart 3 39 := ⟨88, by decide +kernel, lk_X5_88, v_3_optionPart, rfl⟩
theorem d5_option_39 : mR m5_option = some .int ∧ decode (mB m5_option) 39 = .ok (.ireturn, 1) := ⟨rfl, by decide +kernel⟩
theorem d5_situations_0 : Dil m5_situations 0 1 1 := Or.inl ⟨1, by decide +kernel, rfl, rfl⟩
theorem d5_situations_1 : Dc m5_situations 1 (.iconst (-1)) 1 2 := ⟨by decide +kernel, rfl⟩
theorem d5_situations_2 : Dic m5_situations 2 .lt 11 5 := ⟨(9), by decide +kernel, by decide, rfl⟩
theorem d5_situations_5 : Dil m5_situations 5 1 6 := Or.inl ⟨1, by decide +kernel, rfl, rfl⟩
theorem d5_situations_6 : Dc m5_situations 6 (.bipush 31) 2 8 := ⟨by decide +kernel, rfl⟩
theorem d5_situations_8 : Dic m5_situations 8 .lt 14 11 := ⟨(6), by decide +kernel, by decide, rfl⟩
theorem d5_situations_11 : Dc m5_situations 11 (.bipush (-12)) 2 13 := ⟨by decide +kernel, rfl⟩
theorem d5_situations_13 : mR m5_situations = some .int ∧ decode (mB m5_situations) 13 = .ok (.ireturn, 1) := ⟨rfl, by decide +kernel⟩
theorem d5_situations_14 : Dil m5_situations 14 1 15 := Or.inl ⟨1, by decide +kernel, rfl, rfl⟩
theorem d5_situations_15 : Dc m5_situations 15 (.iconst (-1)) 1 16 := ⟨by decide +kernel, rfl⟩
theorem d5_situations_16 : Dic m5_situations 16 .ne 29 19 := ⟨(13), by decide +kernel, by decide, rfl⟩
theorem d5_situations_19 : Dal m5_situations 19 0 20 := Or.inl ⟨0, by decide +kernel, rfl, rfl⟩
theorem d5_situations_20 : Dgf m5_situations 20 5 3 23 := ⟨33, by decide +kernel, f_X5_33, rfl⟩
theorem d5_situations_23 : Dgf m5_situations 23 0 0 26 := ⟨137, by decide +kernel, f_X5_137, rfl⟩
theorem d5_situations_26 : Dgo m5_situations 26 37 := ⟨11, by decide +kernel, by decide⟩
theorem d5_situations_29 : Dal m5_situations 29 0 30 := Or.inl ⟨0, by decide +kernel, rfl, rfl⟩
theorem d5_situations_30 : Dgf m5_situations 30 5 3 33 := ⟨33, by decide +kernel, f_X5_33, rfl⟩
theorem d5_situations_33 : Dil m5_situations 33 1 34 := Or.inl ⟨1, by decide +kernel, rfl, rfl⟩
theorem d5_situations_34 : Div m5_situations 34 m0_reachedWith 1 37 := ⟨140, by decide +kernel, lk_X5_140, v_0_reachedWith, rfl⟩
theorem d5_situations_37 : mR m5_situations = some .int ∧ decode (mB m5_situations) 37 = .ok (.ireturn, 1) := ⟨rfl, by decide +kernel⟩
theorem d5_choicesTo_0 : Dil m5_choicesTo 0 1 1 := Or.inl ⟨1, by decide +kernel, rfl, rfl⟩
theorem d5_choicesTo_1 : Dis' m5_choicesTo 1 m5_endIndex 1 4 := ⟨143, by decide +kernel, lk_X5_143, s_5_endIndex, rfl⟩
theorem d5_choicesTo_4 : Dis m5_choicesTo 4 2 5 := Or.inl ⟨2, by decide +kernel, rfl, rfl⟩
theorem d5_choicesTo_5 : Dil m5_choicesTo 5 2 6 := Or.inl ⟨2, by decide +kernel, rfl, rfl⟩
theorem d5_choicesTo_6 : Dc m5_choicesTo 6 (.iconst (-1)) 1 7 := ⟨by decide +kernel, rfl⟩
theorem d5_choicesTo_7 : Dic m5_choicesTo 7 .ne 15 10 := ⟨(8), by decide +kernel, by decide, rfl⟩
theorem d5_choicesTo_10 : Dc m5_choicesTo 10 (.bipush (-12)) 2 12 := ⟨by decide +kernel, rfl⟩
theorem d5_choicesTo_12 : Dgo m5_choicesTo 12 23 := ⟨11, by decide +kernel, by decide⟩
theorem d5_choicesTo_15 : Dal m5_choicesTo 15 0 16 := Or.inl ⟨0, by decide +kernel, rfl, rfl⟩
theorem d5_choicesTo_16 : Dgf m5_choicesTo 16 5 3 19 := ⟨33, by decide +kernel, f_X5_33, rfl⟩
theorem d5_choicesTo_19 : Dil m5_choicesTo 19 2 20 := Or.inl ⟨2, by decide +kernel, rfl, rfl⟩
theorem d5_choicesTo_20 : Div m5_choicesTo 20 m0_wayLength 1 23 := ⟨146, by decide +kernel, lk_X5_146, v_0_wayLength, rfl⟩
theorem d5_choicesTo_23 : mR m5_choicesTo = some .int ∧ decode (mB m5_choicesTo) 23 = .ok (.ireturn, 1) := ⟨rfl, by decide +kernel⟩
theorem d5_wayTo_0 : Dil m5_wayTo 0 1 1 := Or.inl ⟨1, by decide +kernel, rfl, rfl⟩
theorem d5_wayTo_1 : Dis' m5_wayTo 1 m5_endIndex 1 4 := ⟨143, by decide +kernel, lk_X5_143, s_5_endIndex, rfl⟩
theorem d5_wayTo_4 : Dis m5_wayTo 4 3 5 := Or.inl ⟨3, by decide +kernel, rfl, rfl⟩
theorem d5_wayTo_5 : Dil m5_wayTo 5 3 6 := Or.inl ⟨3, by decide +kernel, rfl, rfl⟩
theorem d5_wayTo_6 : Dc m5_wayTo 6 (.iconst (-1)) 1 7 := ⟨by decide +kernel, rfl⟩
theorem d5_wayTo_7 : Dic m5_wayTo 7 .eq 14 10 := ⟨(7), by decide +kernel, by decide, rfl⟩
theorem d5_wayTo_10 : Dil m5_wayTo 10 2 11 := Or.inl ⟨2, by decide +kernel, rfl, rfl⟩
theorem d5_wayTo_11 : Dif m5_wayTo 11 .ge 17 14 := ⟨(6), by decide +kernel, by decide, rfl⟩
theorem d5_wayTo_14 : Dc m5_wayTo 14 (.bipush (-12)) 2 16 := ⟨by decide +kernel, rfl⟩
theorem d5_wayTo_16 : mR m5_wayTo = some .int ∧ decode (mB m5_wayTo) 16 = .ok (.ireturn, 1) := ⟨rfl, by decide +kernel⟩
theorem d5_wayTo_17 : Dal m5_wayTo 17 0 18 := Or.inl ⟨0, by decide +kernel, rfl, rfl⟩
theorem d5_wayTo_18 : Dgf m5_wayTo 18 5 3 21 := ⟨33, by decide +kernel, f_X5_33, rfl⟩
theorem d5_wayTo_21 : Dil m5_wayTo 21 3 22 := Or.inl ⟨3, by decide +kernel, rfl, rfl⟩
theorem d5_wayTo_22 : Dil m5_wayTo 22 2 23 := Or.inl ⟨2, by decide +kernel, rfl, rfl⟩
theorem d5_wayTo_23 : Div m5_wayTo 23 m0_wayChoice 2 26 := ⟨149, by decide +kernel, lk_X5_149, v_0_wayChoice, rfl⟩
theorem d5_wayTo_26 : mR m5_wayTo = some .int ∧ decode (mB m5_wayTo) 26 = .ok (.ireturn, 1) := ⟨rfl, by decide +kernel⟩
theorem d5_usable_0 : Dil m5_usable 0 2 1 := Or.inl ⟨2, by decide +kernel, rfl, rfl⟩
theorem d5_usable_1 : Dif m5_usable 1 .lt 16 4 := ⟨(15), by decide +kernel, by decide, rfl⟩
theorem d5_usable_4 : Dil m5_usable 4 2 5 := Or.inl ⟨2, by decide +kernel, rfl, rfl⟩
theorem d5_usable_5 : Dal m5_usable 5 0 6 := Or.inl ⟨0, by decide +kernel, rfl, rfl⟩
end
section
/-! ===== decode rows of X5 ===== -/
theorem d5_usable_6 : Dgf m5_usable 6 5 1 9 := ⟨19, by decide +kernel, f_X5_19, rfl⟩
theorem d5_usable_9 : Dil m5_usable 9 1 10 := Or.inl ⟨1, by decide +kernel, rfl, rfl⟩
theorem d5_usable_10 : Div m5_usable 10 m3_optionsOf 1 13 := ⟨152, by decide +kernel, lk_X5_152, v_3_optionsOf, rfl⟩
theorem d5_usable_13 : Dic m5_usable 13 .lt 19 16 := ⟨(6), by decide +kernel, by decide, rfl⟩
theorem d5_usable_16 : Dc m5_usable 16 (.bipush (-12)) 2 18 := ⟨by decide +kernel, rfl⟩
theorem d5_usable_18 : mR m5_usable = some .int ∧ decode (mB m5_usable) 18 = .ok (.ireturn, 1) := ⟨rfl, by decide +kernel⟩
theorem d5_usable_19 : Dal m5_usable 19 0 20 := Or.inl ⟨0, by decide +kernel, rfl, rfl⟩
theorem d5_usable_20 : Dgf m5_usable 20 5 3 23 := ⟨33, by decide +kernel, f_X5_33, rfl⟩
theorem d5_usable_23 : Dal m5_usable 23 0 24 := Or.inl ⟨0, by decide +kernel, rfl, rfl⟩
theorem d5_usable_24 : Dgf m5_usable 24 5 1 27 := ⟨19, by decide +kernel, f_X5_19, rfl⟩
theorem d5_usable_27 : Dil m5_usable 27 1 28 := Or.inl ⟨1, by decide +kernel, rfl, rfl⟩
theorem d5_usable_28 : Dil m5_usable 28 2 29 := Or.inl ⟨2, by decide +kernel, rfl, rfl⟩
theorem d5_usable_29 : Div m5_usable 29 m0_canUse 3 32 := ⟨155, by decide +kernel, lk_X5_155, v_0_canUse, rfl⟩
theorem d5_usable_32 : Dif m5_usable 32 .eq 39 35 := ⟨(7), by decide +kernel, by decide, rfl⟩
theorem d5_usable_35 : Dc m5_usable 35 (.iconst 1) 1 36 := ⟨by decide +kernel, rfl⟩
theorem d5_usable_36 : Dgo m5_usable 36 40 := ⟨4, by decide +kernel, by decide⟩
theorem d5_usable_39 : Dc m5_usable 39 (.iconst 0) 1 40 := ⟨by decide +kernel, rfl⟩
theorem d5_usable_40 : mR m5_usable = some .int ∧ decode (mB m5_usable) 40 = .ok (.ireturn, 1) := ⟨rfl, by decide +kernel⟩
theorem d5_count_0 : Dil m5_count 0 1 1 := Or.inl ⟨1, by decide +kernel, rfl, rfl⟩
theorem d5_count_1 : Dts m5_count 1 0 [44, 52, 62, 80, 88, 96, 104] 112 := ⟨111, 6, #[43, 51, 61, 79, 87, 95, 103], 43, by decide +kernel, by decide, by decide, rfl, by decide⟩
theorem d5_count_44 : Dal m5_count 44 0 45 := Or.inl ⟨0, by decide +kernel, rfl, rfl⟩
theorem d5_count_45 : Dgf m5_count 45 5 1 48 := ⟨19, by decide +kernel, f_X5_19, rfl⟩
theorem d5_count_48 : Dgf m5_count 48 3 0 51 := ⟨59, by decide +kernel, f_X5_59, rfl⟩
theorem d5_count_51 : mR m5_count = some .int ∧ decode (mB m5_count) 51 = .ok (.ireturn, 1) := ⟨rfl, by decide +kernel⟩
theorem d5_count_52 : Dal m5_count 52 0 53 := Or.inl ⟨0, by decide +kernel, rfl, rfl⟩
theorem d5_count_53 : Dgf m5_count 53 5 2 56 := ⟨26, by decide +kernel, f_X5_26, rfl⟩
theorem d5_count_56 : Dgf m5_count 56 2 2 59 := ⟨159, by decide +kernel, f_X5_159, rfl⟩
theorem d5_count_59 : Dc m5_count 59 (.iconst 1) 1 60 := ⟨by decide +kernel, rfl⟩
theorem d5_count_60 : Dc m5_count 60 .iadd 1 61 := ⟨by decide +kernel, rfl⟩
theorem d5_count_61 : mR m5_count = some .int ∧ decode (mB m5_count) 61 = .ok (.ireturn, 1) := ⟨rfl, by decide +kernel⟩
theorem d5_count_62 : Dal m5_count 62 0 63 := Or.inl ⟨0, by decide +kernel, rfl, rfl⟩
theorem d5_count_63 : Dgf m5_count 63 5 2 66 := ⟨26, by decide +kernel, f_X5_26, rfl⟩
theorem d5_count_66 : Dgf m5_count 66 2 1 69 := ⟨162, by decide +kernel, f_X5_162, rfl⟩
theorem d5_count_69 : Dal m5_count 69 0 70 := Or.inl ⟨0, by decide +kernel, rfl, rfl⟩
theorem d5_count_70 : Dgf m5_count 70 5 2 73 := ⟨26, by decide +kernel, f_X5_26, rfl⟩
theorem d5_count_73 : Dgf m5_count 73 2 2 76 := ⟨159, by decide +kernel, f_X5_159, rfl⟩
theorem d5_count_76 : Dc m5_count 76 .isub 1 77 := ⟨by decide +kernel, rfl⟩
theorem d5_count_77 : Dc m5_count 77 (.iconst 1) 1 78 := ⟨by decide +kernel, rfl⟩
theorem d5_count_78 : Dc m5_count 78 .isub 1 79 := ⟨by decide +kernel, rfl⟩
theorem d5_count_79 : mR m5_count = some .int ∧ decode (mB m5_count) 79 = .ok (.ireturn, 1) := ⟨rfl, by decide +kernel⟩
theorem d5_count_80 : Dal m5_count 80 0 81 := Or.inl ⟨0, by decide +kernel, rfl, rfl⟩
theorem d5_count_81 : Dgf m5_count 81 5 2 84 := ⟨26, by decide +kernel, f_X5_26, rfl⟩
theorem d5_count_84 : Div m5_count 84 m2_seenNodes 0 87 := ⟨165, by decide +kernel, lk_X5_165, v_2_seenNodes, rfl⟩
theorem d5_count_87 : mR m5_count = some .int ∧ decode (mB m5_count) 87 = .ok (.ireturn, 1) := ⟨rfl, by decide +kernel⟩
theorem d5_count_88 : Dal m5_count 88 0 89 := Or.inl ⟨0, by decide +kernel, rfl, rfl⟩
theorem d5_count_89 : Dgf m5_count 89 5 2 92 := ⟨26, by decide +kernel, f_X5_26, rfl⟩
theorem d5_count_92 : Div m5_count 92 m2_usedSlots 0 95 := ⟨168, by decide +kernel, lk_X5_168, v_2_usedSlots, rfl⟩
theorem d5_count_95 : mR m5_count = some .int ∧ decode (mB m5_count) 95 = .ok (.ireturn, 1) := ⟨rfl, by decide +kernel⟩
theorem d5_count_96 : Dal m5_count 96 0 97 := Or.inl ⟨0, by decide +kernel, rfl, rfl⟩
theorem d5_count_97 : Dgf m5_count 97 5 3 100 := ⟨33, by decide +kernel, f_X5_33, rfl⟩
theorem d5_count_100 : Div m5_count 100 m0_reachedEnds 0 103 := ⟨171, by decide +kernel, lk_X5_171, v_0_reachedEnds, rfl⟩
theorem d5_count_103 : mR m5_count = some .int ∧ decode (mB m5_count) 103 = .ok (.ireturn, 1) := ⟨rfl, by decide +kernel⟩
theorem d5_count_104 : Dal m5_count 104 0 105 := Or.inl ⟨0, by decide +kernel, rfl, rfl⟩
theorem d5_count_105 : Dgf m5_count 105 5 0 108 := ⟨12, by decide +kernel, f_X5_12, rfl⟩
theorem d5_count_108 : Dgf m5_count 108 4 0 111 := ⟨48, by decide +kernel, f_X5_48, rfl⟩
theorem d5_count_111 : mR m5_count = some .int ∧ decode (mB m5_count) 111 = .ok (.ireturn, 1) := ⟨rfl, by decide +kernel⟩
theorem d5_count_112 : Dc m5_count 112 (.bipush (-12)) 2 114 := ⟨by decide +kernel, rfl⟩
theorem d5_count_114 : mR m5_count = some .int ∧ decode (mB m5_count) 114 = .ok (.ireturn, 1) := ⟨rfl, by decide +kernel⟩
theorem d5_digest_0 : Dl2 m5_digest 0 163 3 := ⟨174, by decide +kernel, tG_of (List.mem_of_getElem? (i := 695) (by decide +kernel)) (by decide +kernel), rfl⟩
theorem d5_digest_3 : Dls m5_digest 3 1 4 := Or.inl ⟨1, by decide +kernel, rfl, rfl⟩
theorem d5_digest_4 : Dc m5_digest 4 (.iconst 0) 1 5 := ⟨by decide +kernel, rfl⟩
theorem d5_digest_5 : Dis m5_digest 5 3 6 := Or.inl ⟨3, by decide +kernel, rfl, rfl⟩
theorem d5_digest_6 : Dil m5_digest 6 3 7 := Or.inl ⟨3, by decide +kernel, rfl, rfl⟩
theorem d5_digest_7 : Dc m5_digest 7 (.bipush 7) 2 9 := ⟨by decide +kernel, rfl⟩
theorem d5_digest_9 : Dic m5_digest 9 .ge 31 12 := ⟨(22), by decide +kernel, by decide, rfl⟩
theorem d5_digest_12 : Dl2 m5_digest 12 31 15 := ⟨176, by decide +kernel, tG_of (List.mem_of_getElem? (i := 696) (by decide +kernel)) (by decide +kernel), rfl⟩
theorem d5_digest_15 : Dll m5_digest 15 1 16 := Or.inl ⟨1, by decide +kernel, rfl, rfl⟩
theorem d5_digest_16 : Dc m5_digest 16 .lmul 1 17 := ⟨by decide +kernel, rfl⟩
theorem d5_digest_17 : Dal m5_digest 17 0 18 := Or.inl ⟨0, by decide +kernel, rfl, rfl⟩
theorem d5_digest_18 : Dil m5_digest 18 3 19 := Or.inl ⟨3, by decide +kernel, rfl, rfl⟩
theorem d5_digest_19 : Div m5_digest 19 m5_count 1 22 := ⟨178, by decide +kernel, lk_X5_178, v_5_count, rfl⟩
theorem d5_digest_22 : Dc m5_digest 22 .i2l 1 23 := ⟨by decide +kernel, rfl⟩
theorem d5_digest_23 : Dc m5_digest 23 .ladd 1 24 := ⟨by decide +kernel, rfl⟩
theorem d5_digest_24 : Dls m5_digest 24 1 25 := Or.inl ⟨1, by decide +kernel, rfl, rfl⟩
theorem d5_digest_25 : Dc m5_digest 25 (.iinc 3 1) 3 28 := ⟨by decide +kernel, rfl⟩
theorem d5_digest_28 : Dgo m5_digest 28 6 := ⟨(-22), by decide +kernel, by decide⟩
theorem d5_digest_31 : Dc m5_digest 31 (.iconst 0) 1 32 := ⟨by decide +kernel, rfl⟩
theorem d5_digest_32 : Dis m5_digest 32 3 33 := Or.inl ⟨3, by decide +kernel, rfl, rfl⟩
theorem d5_digest_33 : Dil m5_digest 33 3 34 := Or.inl ⟨3, by decide +kernel, rfl, rfl⟩
theorem d5_digest_34 : Dc m5_digest 34 (.bipush 6) 2 36 := ⟨by decide +kernel, rfl⟩
theorem d5_digest_36 : Dic m5_digest 36 .ge 58 39 := ⟨(22), by decide +kernel, by decide, rfl⟩
theorem d5_digest_39 : Dl2 m5_digest 39 31 42 := ⟨176, by decide +kernel, tG_of (List.mem_of_getElem? (i := 696) (by decide +kernel)) (by decide +kernel), rfl⟩
theorem d5_digest_42 : Dll m5_digest 42 1 43 := Or.inl ⟨1, by decide +kernel, rfl, rfl⟩
theorem d5_digest_43 : Dc m5_digest 43 .lmul 1 44 := ⟨by decide +kernel, rfl⟩
theorem d5_digest_44 : Dal m5_digest 44 0 45 := Or.inl ⟨0, by decide +kernel, rfl, rfl⟩
theorem d5_digest_45 : Dil m5_digest 45 3 46 := Or.inl ⟨3, by decide +kernel, rfl, rfl⟩
theorem d5_digest_46 : Div m5_digest 46 m5_shown 1 49 := ⟨181, by decide +kernel, lk_X5_181, v_5_shown, rfl⟩
theorem d5_digest_49 : Dc m5_digest 49 .i2l 1 50 := ⟨by decide +kernel, rfl⟩
theorem d5_digest_50 : Dc m5_digest 50 .ladd 1 51 := ⟨by decide +kernel, rfl⟩
theorem d5_digest_51 : Dls m5_digest 51 1 52 := Or.inl ⟨1, by decide +kernel, rfl, rfl⟩
theorem d5_digest_52 : Dc m5_digest 52 (.iinc 3 1) 3 55 := ⟨by decide +kernel, rfl⟩
theorem d5_digest_55 : Dgo m5_digest 55 33 := ⟨(-22), by decide +kernel, by decide⟩
theorem d5_digest_58 : Dc m5_digest 58 (.iconst 0) 1 59 := ⟨by decide +kernel, rfl⟩
theorem d5_digest_59 : Dis m5_digest 59 3 60 := Or.inl ⟨3, by decide +kernel, rfl, rfl⟩
theorem d5_digest_60 : Dil m5_digest 60 3 61 := Or.inl ⟨3, by decide +kernel, rfl, rfl⟩
theorem d5_digest_61 : Dc m5_digest 61 (.iconst 3) 1 62 := ⟨by decide +kernel, rfl⟩
theorem d5_digest_62 : Dic m5_digest 62 .ge 99 65 := ⟨(37), by decide +kernel, by decide, rfl⟩
theorem d5_digest_65 : Dl2 m5_digest 65 31 68 := ⟨176, by decide +kernel, tG_of (List.mem_of_getElem? (i := 696) (by decide +kernel)) (by decide +kernel), rfl⟩
theorem d5_digest_68 : Dll m5_digest 68 1 69 := Or.inl ⟨1, by decide +kernel, rfl, rfl⟩
theorem d5_digest_69 : Dc m5_digest 69 .lmul 1 70 := ⟨by decide +kernel, rfl⟩
theorem d5_digest_70 : Dal m5_digest 70 0 71 := Or.inl ⟨0, by decide +kernel, rfl, rfl⟩
theorem d5_digest_71 : Dil m5_digest 71 3 72 := Or.inl ⟨3, by decide +kernel, rfl, rfl⟩
theorem d5_digest_72 : Dc m5_digest 72 (.iconst 0) 1 73 := ⟨by decide +kernel, rfl⟩
theorem d5_digest_73 : Div m5_digest 73 m5_portrait 2 76 := ⟨184, by decide +kernel, lk_X5_184, v_5_portrait, rfl⟩
theorem d5_digest_76 : Dc m5_digest 76 .i2l 1 77 := ⟨by decide +kernel, rfl⟩
theorem d5_digest_77 : Dc m5_digest 77 .ladd 1 78 := ⟨by decide +kernel, rfl⟩
theorem d5_digest_78 : Dls m5_digest 78 1 79 := Or.inl ⟨1, by decide +kernel, rfl, rfl⟩
theorem d5_digest_79 : Dl2 m5_digest 79 31 82 := ⟨176, by decide +kernel, tG_of (List.mem_of_getElem? (i := 696) (by decide +kernel)) (by decide +kernel), rfl⟩
theorem d5_digest_82 : Dll m5_digest 82 1 83 := Or.inl ⟨1, by decide +kernel, rfl, rfl⟩
theorem d5_digest_83 : Dc m5_digest 83 .lmul 1 84 := ⟨by decide +kernel, rfl⟩
theorem d5_digest_84 : Dal m5_digest 84 0 85 := Or.inl ⟨0, by decide +kernel, rfl, rfl⟩
theorem d5_digest_85 : Dil m5_digest 85 3 86 := Or.inl ⟨3, by decide +kernel, rfl, rfl⟩
theorem d5_digest_86 : Dc m5_digest 86 (.iconst 1) 1 87 := ⟨by decide +kernel, rfl⟩
theorem d5_digest_87 : Div m5_digest 87 m5_portrait 2 90 := ⟨184, by decide +kernel, lk_X5_184, v_5_portrait, rfl⟩
theorem d5_digest_90 : Dc m5_digest 90 .i2l 1 91 := ⟨by decide +kernel, rfl⟩
theorem d5_digest_91 : Dc m5_digest 91 .ladd 1 92 := ⟨by decide +kernel, rfl⟩
theorem d5_digest_92 : Dls m5_digest 92 1 93 := Or.inl ⟨1, by decide +kernel, rfl, rfl⟩
theorem d5_digest_93 : Dc m5_digest 93 (.iinc 3 1) 3 96 := ⟨by decide +kernel, rfl⟩
theorem d5_digest_96 : Dgo m5_digest 96 60 := ⟨(-36), by decide +kernel, by decide⟩
theorem d5_digest_99 : Dc m5_digest 99 (.iconst 0) 1 100 := ⟨by decide +kernel, rfl⟩
theorem d5_digest_100 : Dis m5_digest 100 3 101 := Or.inl ⟨3, by decide +kernel, rfl, rfl⟩
theorem d5_digest_101 : Dil m5_digest 101 3 102 := Or.inl ⟨3, by decide +kernel, rfl, rfl⟩
theorem d5_digest_102 : Dal m5_digest 102 0 103 := Or.inl ⟨0, by decide +kernel, rfl, rfl⟩
theorem d5_digest_103 : Dgf m5_digest 103 5 1 106 := ⟨19, by decide +kernel, f_X5_19, rfl⟩
theorem d5_digest_106 : Dgf m5_digest 106 3 0 109 := ⟨59, by decide +kernel, f_X5_59, rfl⟩
theorem d5_digest_109 : Dic m5_digest 109 .ge 125 112 := ⟨(16), by decide +kernel, by decide, rfl⟩
theorem d5_digest_112 : Dal m5_digest 112 0 113 := Or.inl ⟨0, by decide +kernel, rfl, rfl⟩
theorem d5_digest_113 : Dll m5_digest 113 1 114 := Or.inl ⟨1, by decide +kernel, rfl, rfl⟩
theorem d5_digest_114 : Dil m5_digest 114 3 115 := Or.inl ⟨3, by decide +kernel, rfl, rfl⟩
theorem d5_digest_115 : Div m5_digest 115 m5_digestNode 2 118 := ⟨188, by decide +kernel, lk_X5_188, v_5_digestNode, rfl⟩
theorem d5_digest_118 : Dls m5_digest 118 1 119 := Or.inl ⟨1, by decide +kernel, rfl, rfl⟩
theorem d5_digest_119 : Dc m5_digest 119 (.iinc 3 1) 3 122 := ⟨by decide +kernel, rfl⟩
theorem d5_digest_122 : Dgo m5_digest 122 101 := ⟨(-21), by decide +kernel, by decide⟩
theorem d5_digest_125 : Dl2 m5_digest 125 31 128 := ⟨176, by decide +kernel, tG_of (List.mem_of_getElem? (i := 696) (by decide +kernel)) (by decide +kernel), rfl⟩
theorem d5_digest_128 : Dll m5_digest 128 1 129 := Or.inl ⟨1, by decide +kernel, rfl, rfl⟩
theorem d5_digest_129 : Dc m5_digest 129 .lmul 1 130 := ⟨by decide +kernel, rfl⟩
theorem d5_digest_130 : Dal m5_digest 130 0 131 := Or.inl ⟨0, by decide +kernel, rfl, rfl⟩
theorem d5_digest_131 : Dc m5_digest 131 (.iconst (-1)) 1 132 := ⟨by decide +kernel, rfl⟩
theorem d5_digest_132 : Div m5_digest 132 m5_situations 1 135 := ⟨192, by decide +kernel, lk_X5_192, v_5_situations, rfl⟩
theorem d5_digest_135 : Dc m5_digest 135 .i2l 1 136 := ⟨by decide +kernel, rfl⟩
theorem d5_digest_136 : Dc m5_digest 136 .ladd 1 137 := ⟨by decide +kernel, rfl⟩
theorem d5_digest_137 : Dls m5_digest 137 1 138 := Or.inl ⟨1, by decide +kernel, rfl, rfl⟩
theorem d5_digest_138 : Dc m5_digest 138 (.iconst 0) 1 139 := ⟨by decide +kernel, rfl⟩
theorem d5_digest_139 : Dis m5_digest 139 3 140 := Or.inl ⟨3, by decide +kernel, rfl, rfl⟩
theorem d5_digest_140 : Dil m5_digest 140 3 141 := Or.inl ⟨3, by decide +kernel, rfl, rfl⟩
theorem d5_digest_141 : Dc m5_digest 141 (.bipush 12) 2 143 := ⟨by decide +kernel, rfl⟩
theorem d5_digest_143 : Dic m5_digest 143 .ge 168 146 := ⟨(25), by decide +kernel, by decide, rfl⟩
theorem d5_digest_146 : Dl2 m5_digest 146 31 149 := ⟨176, by decide +kernel, tG_of (List.mem_of_getElem? (i := 696) (by decide +kernel)) (by decide +kernel), rfl⟩
theorem d5_digest_149 : Dll m5_digest 149 1 150 := Or.inl ⟨1, by decide +kernel, rfl, rfl⟩
theorem d5_digest_150 : Dc m5_digest 150 .lmul 1 151 := ⟨by decide +kernel, rfl⟩
theorem d5_digest_151 : Dal m5_digest 151 0 152 := Or.inl ⟨0, by decide +kernel, rfl, rfl⟩
theorem d5_digest_152 : Dgf m5_digest 152 5 3 155 := ⟨33, by decide +kernel, f_X5_33, rfl⟩
theorem d5_digest_155 : Dil m5_digest 155 3 156 := Or.inl ⟨3, by decide +kernel, rfl, rfl⟩
theorem d5_digest_156 : Div m5_digest 156 m0_wayLength 1 159 := ⟨146, by decide +kernel, lk_X5_146, v_0_wayLength, rfl⟩
theorem d5_digest_159 : Dc m5_digest 159 .i2l 1 160 := ⟨by decide +kernel, rfl⟩
theorem d5_digest_160 : Dc m5_digest 160 .ladd 1 161 := ⟨by decide +kernel, rfl⟩
theorem d5_digest_161 : Dls m5_digest 161 1 162 := Or.inl ⟨1, by decide +kernel, rfl, rfl⟩
theorem d5_digest_162 : Dc m5_digest 162 (.iinc 3 1) 3 165 := ⟨by decide +kernel, rfl⟩
theorem d5_digest_165 : Dgo m5_digest 165 140 := ⟨(-25), by decide +kernel, by decide⟩
theorem d5_digest_168 : Dc m5_digest 168 (.iconst 0) 1 169 := ⟨by decide +kernel, rfl⟩
theorem d5_digest_169 : Dis m5_digest 169 3 170 := Or.inl ⟨3, by decide +kernel, rfl, rfl⟩
theorem d5_digest_170 : Dil m5_digest 170 3 171 := Or.inl ⟨3, by decide +kernel, rfl, rfl⟩
theorem d5_digest_171 : Dal m5_digest 171 0 172 := Or.inl ⟨0, by decide +kernel, rfl, rfl⟩
theorem d5_digest_172 : Dgf m5_digest 172 5 0 175 := ⟨12, by decide +kernel, f_X5_12, rfl⟩
theorem d5_digest_175 : Dgf m5_digest 175 4 0 178 := ⟨48, by decide +kernel, f_X5_48, rfl⟩
theorem d5_digest_178 : Dic m5_digest 178 .ge 203 181 := ⟨(25), by decide +kernel, by decide, rfl⟩
theorem d5_digest_181 : Dl2 m5_digest 181 31 184 := ⟨176, by decide +kernel, tG_of (List.mem_of_getElem? (i := 696) (by decide +kernel)) (by decide +kernel), rfl⟩
theorem d5_digest_184 : Dll m5_digest 184 1 185 := Or.inl ⟨1, by decide +kernel, rfl, rfl⟩
theorem d5_digest_185 : Dc m5_digest 185 .lmul 1 186 := ⟨by decide +kernel, rfl⟩
theorem d5_digest_186 : Dal m5_digest 186 0 187 := Or.inl ⟨0, by decide +kernel, rfl, rfl⟩
theorem d5_digest_187 : Dgf m5_digest 187 5 0 190 := ⟨12, by decide +kernel, f_X5_12, rfl⟩
theorem d5_digest_190 : Dil m5_digest 190 3 191 := Or.inl ⟨3, by decide +kernel, rfl, rfl⟩
theorem d5_digest_191 : Div m5_digest 191 m4_byteAt 1 194 := ⟨195, by decide +kernel, lk_X5_195, v_4_byteAt, rfl⟩
theorem d5_digest_194 : Dc m5_digest 194 .i2l 1 195 := ⟨by decide +kernel, rfl⟩
theorem d5_digest_195 : Dc m5_digest 195 .ladd 1 196 := ⟨by decide +kernel, rfl⟩
theorem d5_digest_196 : Dls m5_digest 196 1 197 := Or.inl ⟨1, by decide +kernel, rfl, rfl⟩
theorem d5_digest_197 : Dc m5_digest 197 (.iinc 3 1) 3 200 := ⟨by decide +kernel, rfl⟩
theorem d5_digest_200 : Dgo m5_digest 200 170 := ⟨(-30), by decide +kernel, by decide⟩
theorem d5_digest_203 : Dll m5_digest 203 1 204 := Or.inl ⟨1, by decide +kernel, rfl, rfl⟩
theorem d5_digest_204 : mR m5_digest = some .long ∧ decode (mB m5_digest) 204 = .ok (.lreturn, 1) := ⟨rfl, by decide +kernel⟩
theorem d5_digestNode_0 : Dll m5_digestNode 0 1 1 := Or.inl ⟨1, by decide +kernel, rfl, rfl⟩
theorem d5_digestNode_1 : Dls m5_digestNode 1 4 3 := Or.inr ⟨by decide +kernel, rfl⟩
theorem d5_digestNode_3 : Dc m5_digestNode 3 (.iconst 0) 1 4 := ⟨by decide +kernel, rfl⟩
theorem d5_digestNode_4 : Dis m5_digestNode 4 6 6 := Or.inr ⟨by decide +kernel, rfl⟩
theorem d5_digestNode_6 : Dil m5_digestNode 6 6 8 := Or.inr ⟨by decide +kernel, rfl⟩
theorem d5_digestNode_8 : Dc m5_digestNode 8 (.iconst 3) 1 9 := ⟨by decide +kernel, rfl⟩
theorem d5_digestNode_9 : Dic m5_digestNode 9 .gt 35 12 := ⟨(26), by decide +kernel, by decide, rfl⟩
theorem d5_digestNode_12 : Dl2 m5_digestNode 12 31 15 := ⟨176, by decide +kernel, tG_of (List.mem_of_getElem? (i := 696) (by decide +kernel)) (by decide +kernel), rfl⟩
theorem d5_digestNode_15 : Dll m5_digestNode 15 4 17 := Or.inr ⟨by decide +kernel, rfl⟩
theorem d5_digestNode_17 : Dc m5_digestNode 17 .lmul 1 18 := ⟨by decide +kernel, rfl⟩
theorem d5_digestNode_18 : Dal m5_digestNode 18 0 19 := Or.inl ⟨0, by decide +kernel, rfl, rfl⟩
theorem d5_digestNode_19 : Dil m5_digestNode 19 3 20 := Or.inl ⟨3, by decide +kernel, rfl, rfl⟩
theorem d5_digestNode_20 : Dil m5_digestNode 20 6 22 := Or.inr ⟨by decide +kernel, rfl⟩
theorem d5_digestNode_22 : Div m5_digestNode 22 m5_node 2 25 := ⟨198, by decide +kernel, lk_X5_198, v_5_node, rfl⟩
theorem d5_digestNode_25 : Dc m5_digestNode 25 .i2l 1 26 := ⟨by decide +kernel, rfl⟩
theorem d5_digestNode_26 : Dc m5_digestNode 26 .ladd 1 27 := ⟨by decide +kernel, rfl⟩
theorem d5_digestNode_27 : Dls m5_digestNode 27 4 29 := Or.inr ⟨by decide +kernel, rfl⟩
theorem d5_digestNode_29 : Dc m5_digestNode 29 (.iinc 6 1) 3 32 := ⟨by decide +kernel, rfl⟩
theorem d5_digestNode_32 : Dgo m5_digestNode 32 6 := ⟨(-26), by decide +kernel, by decide⟩
theorem d5_digestNode_35 : Dc m5_digestNode 35 (.iconst 0) 1 36 := ⟨by decide +kernel, rfl⟩
theorem d5_digestNode_36 : Dis m5_digestNode 36 6 38 := Or.inr ⟨by decide +kernel, rfl⟩
theorem d5_digestNode_38 : Dil m5_digestNode 38 6 40 := Or.inr ⟨by decide +kernel, rfl⟩
theorem d5_digestNode_40 : Dal m5_digestNode 40 0 41 := Or.inl ⟨0, by decide +kernel, rfl, rfl⟩
theorem d5_digestNode_41 : Dgf m5_digestNode 41 5 1 44 := ⟨19, by decide +kernel, f_X5_19, rfl⟩
theorem d5_digestNode_44 : Dil m5_digestNode 44 3 45 := Or.inl ⟨3, by decide +kernel, rfl, rfl⟩
theorem d5_digestNode_45 : Div m5_digestNode 45 m3_optionsOf 1 48 := ⟨152, by decide +kernel, lk_X5_152, v_3_optionsOf, rfl⟩
theorem d5_digestNode_48 : Dic m5_digestNode 48 .ge 108 51 := ⟨(60), by decide +kernel, by decide, rfl⟩
theorem d5_digestNode_51 : Dc m5_digestNode 51 (.iconst 0) 1 52 := ⟨by decide +kernel, rfl⟩
theorem d5_digestNode_52 : Dis m5_digestNode 52 7 54 := Or.inr ⟨by decide +kernel, rfl⟩
theorem d5_digestNode_54 : Dil m5_digestNode 54 7 56 := Or.inr ⟨by decide +kernel, rfl⟩
theorem d5_digestNode_56 : Dc m5_digestNode 56 (.iconst 3) 1 57 := ⟨by decide +kernel, rfl⟩
theorem d5_digestNode_57 : Dic m5_digestNode 57 .ge 85 60 := ⟨(28), by decide +kernel, by decide, rfl⟩
theorem d5_digestNode_60 : Dl2 m5_digestNode 60 31 63 := ⟨176, by decide +kernel, tG_of (List.mem_of_getElem? (i := 696) (by decide +kernel)) (by decide +kernel), rfl⟩
theorem d5_digestNode_63 : Dll m5_digestNode 63 4 65 := Or.inr ⟨by decide +kernel, rfl⟩
theorem d5_digestNode_65 : Dc m5_digestNode 65 .lmul 1 66 := ⟨by decide +kernel, rfl⟩
theorem d5_digestNode_66 : Dal m5_digestNode 66 0 67 := Or.inl ⟨0, by decide +kernel, rfl, rfl⟩
theorem d5_digestNode_67 : Dil m5_digestNode 67 3 68 := Or.inl ⟨3, by decide +kernel, rfl, rfl⟩
theorem d5_digestNode_68 : Dil m5_digestNode 68 6 70 := Or.inr ⟨by decide +kernel, rfl⟩
theorem d5_digestNode_70 : Dil m5_digestNode 70 7 72 := Or.inr ⟨by decide +kernel, rfl⟩
theorem d5_digestNode_72 : Div m5_digestNode 72 m5_option 3 75 := ⟨200, by decide +kernel, lk_X5_200, v_5_option, rfl⟩
theorem d5_digestNode_75 : Dc m5_digestNode 75 .i2l 1 76 := ⟨by decide +kernel, rfl⟩
theorem d5_digestNode_76 : Dc m5_digestNode 76 .ladd 1 77 := ⟨by decide +kernel, rfl⟩
theorem d5_digestNode_77 : Dls m5_digestNode 77 4 79 := Or.inr ⟨by decide +kernel, rfl⟩
theorem d5_digestNode_79 : Dc m5_digestNode 79 (.iinc 7 1) 3 82 := ⟨by decide +kernel, rfl⟩
theorem d5_digestNode_82 : Dgo m5_digestNode 82 54 := ⟨(-28), by decide +kernel, by decide⟩
theorem d5_digestNode_85 : Dl2 m5_digestNode 85 31 88 := ⟨176, by decide +kernel, tG_of (List.mem_of_getElem? (i := 696) (by decide +kernel)) (by decide +kernel), rfl⟩
theorem d5_digestNode_88 : Dll m5_digestNode 88 4 90 := Or.inr ⟨by decide +kernel, rfl⟩
theorem d5_digestNode_90 : Dc m5_digestNode 90 .lmul 1 91 := ⟨by decide +kernel, rfl⟩
theorem d5_digestNode_91 : Dal m5_digestNode 91 0 92 := Or.inl ⟨0, by decide +kernel, rfl, rfl⟩
theorem d5_digestNode_92 : Dil m5_digestNode 92 3 93 := Or.inl ⟨3, by decide +kernel, rfl, rfl⟩
theorem d5_digestNode_93 : Dil m5_digestNode 93 6 95 := Or.inr ⟨by decide +kernel, rfl⟩
theorem d5_digestNode_95 : Div m5_digestNode 95 m5_usable 2 98 := ⟨203, by decide +kernel, lk_X5_203, v_5_usable, rfl⟩
theorem d5_digestNode_98 : Dc m5_digestNode 98 .i2l 1 99 := ⟨by decide +kernel, rfl⟩
theorem d5_digestNode_99 : Dc m5_digestNode 99 .ladd 1 100 := ⟨by decide +kernel, rfl⟩
theorem d5_digestNode_100 : Dls m5_digestNode 100 4 102 := Or.inr ⟨by decide +kernel, rfl⟩
theorem d5_digestNode_102 : Dc m5_digestNode 102 (.iinc 6 1) 3 105 := ⟨by decide +kernel, rfl⟩
theorem d5_digestNode_105 : Dgo m5_digestNode 105 38 := ⟨(-67), by decide +kernel, by decide⟩
theorem d5_digestNode_108 : Dll m5_digestNode 108 4 110 := Or.inr ⟨by decide +kernel, rfl⟩
theorem d5_digestNode_110 : mR m5_digestNode = some .long ∧ decode (mB m5_digestNode) 110 = .ok (.lreturn, 1) := ⟨rfl, by decide +kernel⟩
theorem d5_isLineShown_0 : Dal m5_isLineShown 0 0 1 := Or.inl ⟨0, by decide +kernel, rfl, rfl⟩
theorem d5_isLineShown_1 : Dgf m5_isLineShown 1 5 1 4 := ⟨19, by decide +kernel, f_X5_19, rfl⟩
theorem d5_isLineShown_4 : Dal m5_isLineShown 4 0 5 := Or.inl ⟨0, by decide +kernel, rfl, rfl⟩
theorem d5_isLineShown_5 : Dgf m5_isLineShown 5 5 2 8 := ⟨26, by decide +kernel, f_X5_26, rfl⟩
theorem d5_isLineShown_8 : Div m5_isLineShown 8 m2_now 0 11 := ⟨65, by decide +kernel, lk_X5_65, v_2_now, rfl⟩
theorem d5_isLineShown_11 : Dgf m5_isLineShown 11 1 0 14 := ⟨69, by decide +kernel, f_X5_69, rfl⟩
theorem d5_isLineShown_14 : Div m5_isLineShown 14 m3_shownKind 1 17 := ⟨110, by decide +kernel, lk_X5_110, v_3_shownKind, rfl⟩
theorem d5_isLineShown_17 : Dif m5_isLineShown 17 .ne 24 20 := ⟨(7), by decide +kernel, by decide, rfl⟩
theorem d5_isLineShown_20 : Dc m5_isLineShown 20 (.iconst 1) 1 21 := ⟨by decide +kernel, rfl⟩
theorem d5_isLineShown_21 : Dgo m5_isLineShown 21 25 := ⟨4, by decide +kernel, by decide⟩
theorem d5_isLineShown_24 : Dc m5_isLineShown 24 (.iconst 0) 1 25 := ⟨by decide +kernel, rfl⟩
theorem d5_isLineShown_25 : mR m5_isLineShown = some .boolean ∧ decode (mB m5_isLineShown) 25 = .ok (.ireturn, 1) := ⟨rfl, by decide +kernel⟩
theorem d5_goOnFromLine_0 : Dal m5_goOnFromLine 0 0 1 := Or.inl ⟨0, by decide +kernel, rfl, rfl⟩
theorem d5_goOnFromLine_1 : Dgf m5_goOnFromLine 1 5 2 4 := ⟨26, by decide +kernel, f_X5_26, rfl⟩
theorem d5_goOnFromLine_4 : Dal m5_goOnFromLine 4 0 5 := Or.inl ⟨0, by decide +kernel, rfl, rfl⟩
theorem d5_goOnFromLine_5 : Dgf m5_goOnFromLine 5 5 1 8 := ⟨19, by decide +kernel, f_X5_19, rfl⟩
theorem d5_goOnFromLine_8 : Dal m5_goOnFromLine 8 0 9 := Or.inl ⟨0, by decide +kernel, rfl, rfl⟩
theorem d5_goOnFromLine_9 : Dgf m5_goOnFromLine 9 5 2 12 := ⟨26, by decide +kernel, f_X5_26, rfl⟩
theorem d5_goOnFromLine_12 : Div m5_goOnFromLine 12 m2_now 0 15 := ⟨65, by decide +kernel, lk_X5_65, v_2_now, rfl⟩
theorem d5_goOnFromLine_15 : Dgf m5_goOnFromLine 15 1 0 18 := ⟨69, by decide +kernel, f_X5_69, rfl⟩
theorem d5_goOnFromLine_18 : Dc m5_goOnFromLine 18 (.iconst 1) 1 19 := ⟨by decide +kernel, rfl⟩
theorem d5_goOnFromLine_19 : Dc m5_goOnFromLine 19 .iadd 1 20 := ⟨by decide +kernel, rfl⟩
theorem d5_goOnFromLine_20 : Div m5_goOnFromLine 20 m2_goOn 2 23 := ⟨92, by decide +kernel, lk_X5_92, v_2_goOn, rfl⟩
theorem d5_goOnFromLine_23 : mR m5_goOnFromLine = some .boolean ∧ decode (mB m5_goOnFromLine) 23 = .ok (.ireturn, 1) := ⟨rfl, by decide +kernel⟩
theorem d5_endIndex_0 : Dil m5_endIndex 0 0 1 := Or.inl ⟨0, by decide +kernel, rfl, rfl⟩
theorem d5_endIndex_1 : Dc m5_endIndex 1 (.bipush (-3)) 2 3 := ⟨by decide +kernel, rfl⟩
theorem d5_endIndex_3 : Dic m5_endIndex 3 .ne 8 6 := ⟨(5), by decide +kernel, by decide, rfl⟩
theorem d5_endIndex_6 : Dc m5_endIndex 6 (.iconst 0) 1 7 := ⟨by decide +kernel, rfl⟩
theorem d5_endIndex_7 : mR m5_endIndex = some .int ∧ decode (mB m5_endIndex) 7 = .ok (.ireturn, 1) := ⟨rfl, by decide +kernel⟩
theorem d5_endIndex_8 : Dil m5_endIndex 8 0 9 := Or.inl ⟨0, by decide +kernel, rfl, rfl⟩
theorem d5_endIndex_9 : Dc m5_endIndex 9 (.bipush (-2)) 2 11 := ⟨by decide +kernel, rfl⟩
theorem d5_endIndex_11 : Dic m5_endIndex 11 .ne 16 14 := ⟨(5), by decide +kernel, by decide, rfl⟩
theorem d5_endIndex_14 : Dc m5_endIndex 14 (.iconst 1) 1 15 := ⟨by decide +kernel, rfl⟩
theorem d5_endIndex_15 : mR m5_endIndex = some .int ∧ decode (mB m5_endIndex) 15 = .ok (.ireturn, 1) := ⟨rfl, by decide +kernel⟩
theorem d5_endIndex_16 : Dil m5_endIndex 16 0 17 := Or.inl ⟨0, by decide +kernel, rfl, rfl⟩
theorem d5_endIndex_17 : Dif m5_endIndex 17 .lt 32 20 := ⟨(15), by decide +kernel, by decide, rfl⟩
theorem d5_endIndex_20 : Dil m5_endIndex 20 0 21 := Or.inl ⟨0, by decide +kernel, rfl, rfl⟩
theorem d5_endIndex_21 : Dc m5_endIndex 21 (.bipush 9) 2 23 := ⟨by decide +kernel, rfl⟩
theorem d5_endIndex_23 : Dic m5_endIndex 23 .gt 32 26 := ⟨(9), by decide +kernel, by decide, rfl⟩
theorem d5_endIndex_26 : Dil m5_endIndex 26 0 27 := Or.inl ⟨0, by decide +kernel, rfl, rfl⟩
theorem d5_endIndex_27 : Dc m5_endIndex 27 (.iconst 2) 1 28 := ⟨by decide +kernel, rfl⟩
theorem d5_endIndex_28 : Dc m5_endIndex 28 .iadd 1 29 := ⟨by decide +kernel, rfl⟩
theorem d5_endIndex_29 : Dgo m5_endIndex 29 33 := ⟨4, by decide +kernel, by decide⟩
theorem d5_endIndex_32 : Dc m5_endIndex 32 (.iconst (-1)) 1 33 := ⟨by decide +kernel, rfl⟩
theorem d5_endIndex_33 : mR m5_endIndex = some .int ∧ decode (mB m5_endIndex) 33 = .ok (.ireturn, 1) := ⟨rfl, by decide +kernel⟩
end
section
/-! ===== decode rows of X6 ===== -/
theorem d6_init_0 : Dal m6_init 0 0 1 := Or.inl ⟨0, by decide +kernel, rfl, rfl⟩
theorem d6_init_1 : Doi m6_init 1 4 := ⟨1, by decide +kernel, oi_X6_1, oi_i, oi_c, rfl⟩
theorem d6_init_4 : Dal m6_init 4 0 5 := Or.inl ⟨0, by decide +kernel, rfl, rfl⟩
theorem d6_init_5 : Dc m6_init 5 (.sipush 348) 3 8 := ⟨by decide +kernel, rfl⟩
theorem d6_init_8 : Dna m6_init 8 0 10 := ⟨.int, by decide +kernel, rfl, na_int, rfl, by decide, ⟨by decide, by decide⟩, rfl⟩
theorem d6_init_10 : Dpf m6_init 10 6 0 (.array .int) true 13 := ⟨7, by decide +kernel, f_X6_7, p_X6_X6_0, rfl⟩
theorem d6_init_13 : Dal m6_init 13 0 14 := Or.inl ⟨0, by decide +kernel, rfl, rfl⟩
theorem d6_init_14 : Dc m6_init 14 (.sipush 348) 3 17 := ⟨by decide +kernel, rfl⟩
theorem d6_init_17 : Dna m6_init 17 0 19 := ⟨.int, by decide +kernel, rfl, na_int, rfl, by decide, ⟨by decide, by decide⟩, rfl⟩
theorem d6_init_19 : Dpf m6_init 19 6 2 (.array .int) true 22 := ⟨13, by decide +kernel, f_X6_13, p_X6_X6_2, rfl⟩
theorem d6_init_22 : Dal m6_init 22 0 23 := Or.inl ⟨0, by decide +kernel, rfl, rfl⟩
theorem d6_init_23 : Dc m6_init 23 (.sipush 160) 3 26 := ⟨by decide +kernel, rfl⟩
theorem d6_init_26 : Dna m6_init 26 0 28 := ⟨.int, by decide +kernel, rfl, na_int, rfl, by decide, ⟨by decide, by decide⟩, rfl⟩
theorem d6_init_28 : Dpf m6_init 28 6 4 (.array .int) true 31 := ⟨16, by decide +kernel, f_X6_16, p_X6_X6_4, rfl⟩
theorem d6_init_31 : Dal m6_init 31 0 32 := Or.inl ⟨0, by decide +kernel, rfl, rfl⟩
theorem d6_init_32 : Dc m6_init 32 (.bipush 24) 2 34 := ⟨by decide +kernel, rfl⟩
theorem d6_init_34 : Dna m6_init 34 0 36 := ⟨.int, by decide +kernel, rfl, na_int, rfl, by decide, ⟨by decide, by decide⟩, rfl⟩
theorem d6_init_36 : Dpf m6_init 36 6 8 (.array .int) true 39 := ⟨19, by decide +kernel, f_X6_19, p_X6_X6_8, rfl⟩
theorem d6_init_39 : Dal m6_init 39 0 40 := Or.inl ⟨0, by decide +kernel, rfl, rfl⟩
theorem d6_init_40 : Dc m6_init 40 (.iconst 3) 1 41 := ⟨by decide +kernel, rfl⟩
theorem d6_init_41 : Dna m6_init 41 2 43 := ⟨.boolean, by decide +kernel, rfl, na_boolean, rfl, by decide, ⟨by decide, by decide⟩, rfl⟩
theorem d6_init_43 : Dpf m6_init 43 6 9 (.array .boolean) true 46 := ⟨22, by decide +kernel, f_X6_22, p_X6_X6_9, rfl⟩
theorem d6_init_46 : Dal m6_init 46 0 47 := Or.inl ⟨0, by decide +kernel, rfl, rfl⟩
theorem d6_init_47 : Dc m6_init 47 (.bipush 100) 2 49 := ⟨by decide +kernel, rfl⟩
theorem d6_init_49 : Dna m6_init 49 0 51 := ⟨.int, by decide +kernel, rfl, na_int, rfl, by decide, ⟨by decide, by decide⟩, rfl⟩
theorem d6_init_51 : Dpf m6_init 51 6 11 (.array .int) true 54 := ⟨26, by decide +kernel, f_X6_26, p_X6_X6_11, rfl⟩
theorem d6_init_54 : Dal m6_init 54 0 55 := Or.inl ⟨0, by decide +kernel, rfl, rfl⟩
theorem d6_init_55 : Dc m6_init 55 (.iconst 3) 1 56 := ⟨by decide +kernel, rfl⟩
theorem d6_init_56 : Dna m6_init 56 0 58 := ⟨.int, by decide +kernel, rfl, na_int, rfl, by decide, ⟨by decide, by decide⟩, rfl⟩
theorem d6_init_58 : Dpf m6_init 58 6 16 (.array .int) true 61 := ⟨29, by decide +kernel, f_X6_29, p_X6_X6_16, rfl⟩
theorem d6_init_61 : Dal m6_init 61 0 62 := Or.inl ⟨0, by decide +kernel, rfl, rfl⟩
theorem d6_init_62 : Dc m6_init 62 (.iconst 3) 1 63 := ⟨by decide +kernel, rfl⟩
theorem d6_init_63 : Dna m6_init 63 0 65 := ⟨.int, by decide +kernel, rfl, na_int, rfl, by decide, ⟨by decide, by decide⟩, rfl⟩
theorem d6_init_65 : Dpf m6_init 65 6 17 (.array .int) true 68 := ⟨32, by decide +kernel, f_X6_32, p_X6_X6_17, rfl⟩
theorem d6_init_68 : Dal m6_init 68 0 69 := Or.inl ⟨0, by decide +kernel, rfl, rfl⟩
theorem d6_init_69 : Dc m6_init 69 (.sipush 1984) 3 72 := ⟨by decide +kernel, rfl⟩
theorem d6_init_72 : Dna m6_init 72 2 74 := ⟨.boolean, by decide +kernel, rfl, na_boolean, rfl, by decide, ⟨by decide, by decide⟩, rfl⟩
theorem d6_init_74 : Dpf m6_init 74 6 18 (.array .boolean) true 77 := ⟨35, by decide +kernel, f_X6_35, p_X6_X6_18, rfl⟩
theorem d6_init_77 : Dal m6_init 77 0 78 := Or.inl ⟨0, by decide +kernel, rfl, rfl⟩
theorem d6_init_78 : Dc m6_init 78 (.sipush 1984) 3 81 := ⟨by decide +kernel, rfl⟩
theorem d6_init_81 : Dna m6_init 81 0 83 := ⟨.int, by decide +kernel, rfl, na_int, rfl, by decide, ⟨by decide, by decide⟩, rfl⟩
theorem d6_init_83 : Dpf m6_init 83 6 19 (.array .int) true 86 := ⟨38, by decide +kernel, f_X6_38, p_X6_X6_19, rfl⟩
theorem d6_init_86 : Dal m6_init 86 0 87 := Or.inl ⟨0, by decide +kernel, rfl, rfl⟩
theorem d6_init_87 : Dc m6_init 87 (.sipush 1984) 3 90 := ⟨by decide +kernel, rfl⟩
theorem d6_init_90 : Dna m6_init 90 0 92 := ⟨.int, by decide +kernel, rfl, na_int, rfl, by decide, ⟨by decide, by decide⟩, rfl⟩
theorem d6_init_92 : Dpf m6_init 92 6 20 (.array .int) true 95 := ⟨41, by decide +kernel, f_X6_41, p_X6_X6_20, rfl⟩
theorem d6_init_95 : Dal m6_init 95 0 96 := Or.inl ⟨0, by decide +kernel, rfl, rfl⟩
theorem d6_init_96 : Dc m6_init 96 (.sipush 1984) 3 99 := ⟨by decide +kernel, rfl⟩
theorem d6_init_99 : Dna m6_init 99 0 101 := ⟨.int, by decide +kernel, rfl, na_int, rfl, by decide, ⟨by decide, by decide⟩, rfl⟩
theorem d6_init_101 : Dpf m6_init 101 6 21 (.array .int) true 104 := ⟨44, by decide +kernel, f_X6_44, p_X6_X6_21, rfl⟩
theorem d6_init_104 : Dal m6_init 104 0 105 := Or.inl ⟨0, by decide +kernel, rfl, rfl⟩
theorem d6_init_105 : Dc m6_init 105 (.bipush 13) 2 107 := ⟨by decide +kernel, rfl⟩
theorem d6_init_107 : Dna m6_init 107 2 109 := ⟨.boolean, by decide +kernel, rfl, na_boolean, rfl, by decide, ⟨by decide, by decide⟩, rfl⟩
theorem d6_init_109 : Dpf m6_init 109 6 23 (.array .boolean) true 112 := ⟨47, by decide +kernel, f_X6_47, p_X6_X6_23, rfl⟩
theorem d6_init_112 : Dal m6_init 112 0 113 := Or.inl ⟨0, by decide +kernel, rfl, rfl⟩
theorem d6_init_113 : Dc m6_init 113 (.bipush 13) 2 115 := ⟨by decide +kernel, rfl⟩
theorem d6_init_115 : Dna m6_init 115 0 117 := ⟨.int, by decide +kernel, rfl, na_int, rfl, by decide, ⟨by decide, by decide⟩, rfl⟩
theorem d6_init_117 : Dpf m6_init 117 6 24 (.array .int) true 120 := ⟨50, by decide +kernel, f_X6_50, p_X6_X6_24, rfl⟩
theorem d6_init_120 : Dal m6_init 120 0 121 := Or.inl ⟨0, by decide +kernel, rfl, rfl⟩
theorem d6_init_121 : Dc m6_init 121 (.bipush 13) 2 123 := ⟨by decide +kernel, rfl⟩
theorem d6_init_123 : Dna m6_init 123 0 125 := ⟨.int, by decide +kernel, rfl, na_int, rfl, by decide, ⟨by decide, by decide⟩, rfl⟩
theorem d6_init_125 : Dpf m6_init 125 6 25 (.array .int) true 128 := ⟨53, by decide +kernel, f_X6_53, p_X6_X6_25, rfl⟩
theorem d6_init_128 : Dal m6_init 128 0 129 := Or.inl ⟨0, by decide +kernel, rfl, rfl⟩
theorem d6_init_129 : Div m6_init 129 m6_starts 0 132 := ⟨56, by decide +kernel, lk_X6_56, v_6_starts, rfl⟩
theorem d6_init_132 : mR m6_init = none ∧ decode (mB m6_init) 132 = .ok (.return_, 1) := ⟨rfl, by decide +kernel⟩
theorem d6_in_0 : Dil m6_in 0 0 1 := Or.inl ⟨0, by decide +kernel, rfl, rfl⟩
theorem d6_in_1 : Dil m6_in 1 1 2 := Or.inl ⟨1, by decide +kernel, rfl, rfl⟩
theorem d6_in_2 : Dic m6_in 2 .lt 14 5 := ⟨(12), by decide +kernel, by decide, rfl⟩
theorem d6_in_5 : Dil m6_in 5 0 6 := Or.inl ⟨0, by decide +kernel, rfl, rfl⟩
theorem d6_in_6 : Dil m6_in 6 2 7 := Or.inl ⟨2, by decide +kernel, rfl, rfl⟩
theorem d6_in_7 : Dic m6_in 7 .gt 14 10 := ⟨(7), by decide +kernel, by decide, rfl⟩
theorem d6_in_10 : Dc m6_in 10 (.iconst 1) 1 11 := ⟨by decide +kernel, rfl⟩
theorem d6_in_11 : Dgo m6_in 11 15 := ⟨4, by decide +kernel, by decide⟩
theorem d6_in_14 : Dc m6_in 14 (.iconst 0) 1 15 := ⟨by decide +kernel, rfl⟩
theorem d6_in_15 : mR m6_in = some .boolean ∧ decode (mB m6_in) 15 = .ok (.ireturn, 1) := ⟨rfl, by decide +kernel⟩
theorem d6_type_0 : Dil m6_type 0 1 1 := Or.inl ⟨1, by decide +kernel, rfl, rfl⟩
theorem d6_type_1 : Dc m6_type 1 (.iconst 0) 1 2 := ⟨by decide +kernel, rfl⟩
theorem d6_type_2 : Dc m6_type 2 (.bipush 127) 2 4 := ⟨by decide +kernel, rfl⟩
theorem d6_type_4 : Dis' m6_type 4 m6_in 3 7 := ⟨59, by decide +kernel, lk_X6_59, s_6_in, rfl⟩
theorem d6_type_7 : Dif m6_type 7 .ne 13 10 := ⟨(6), by decide +kernel, by decide, rfl⟩
theorem d6_type_10 : Dc m6_type 10 (.bipush (-12)) 2 12 := ⟨by decide +kernel, rfl⟩
theorem d6_type_12 : mR m6_type = some .int ∧ decode (mB m6_type) 12 = .ok (.ireturn, 1) := ⟨rfl, by decide +kernel⟩
theorem d6_type_13 : Dal m6_type 13 0 14 := Or.inl ⟨0, by decide +kernel, rfl, rfl⟩
theorem d6_type_14 : Dgf m6_type 14 6 12 17 := ⟨63, by decide +kernel, f_X6_63, rfl⟩
theorem d6_type_17 : Dc m6_type 17 (.bipush 100) 2 19 := ⟨by decide +kernel, rfl⟩
theorem d6_type_19 : Dic m6_type 19 .ne 25 22 := ⟨(6), by decide +kernel, by decide, rfl⟩
theorem d6_type_22 : Dc m6_type 22 (.bipush (-14)) 2 24 := ⟨by decide +kernel, rfl⟩
theorem d6_type_24 : mR m6_type = some .int ∧ decode (mB m6_type) 24 = .ok (.ireturn, 1) := ⟨rfl, by decide +kernel⟩
theorem d6_type_25 : Dal m6_type 25 0 26 := Or.inl ⟨0, by decide +kernel, rfl, rfl⟩
theorem d6_type_26 : Dgf m6_type 26 6 11 29 := ⟨26, by decide +kernel, f_X6_26, rfl⟩
theorem d6_type_29 : Dal m6_type 29 0 30 := Or.inl ⟨0, by decide +kernel, rfl, rfl⟩
theorem d6_type_30 : Dgf m6_type 30 6 12 33 := ⟨63, by decide +kernel, f_X6_63, rfl⟩
theorem d6_type_33 : Dil m6_type 33 1 34 := Or.inl ⟨1, by decide +kernel, rfl, rfl⟩
theorem d6_type_34 : Dc m6_type 34 .iastore 1 35 := ⟨by decide +kernel, rfl⟩
theorem d6_type_35 : Dal m6_type 35 0 36 := Or.inl ⟨0, by decide +kernel, rfl, rfl⟩
theorem d6_type_36 : Dc m6_type 36 .dup 1 37 := ⟨by decide +kernel, rfl⟩
theorem d6_type_37 : Dgf m6_type 37 6 12 40 := ⟨63, by decide +kernel, f_X6_63, rfl⟩
theorem d6_type_40 : Dc m6_type 40 (.iconst 1) 1 41 := ⟨by decide +kernel, rfl⟩
theorem d6_type_41 : Dc m6_type 41 .iadd 1 42 := ⟨by decide +kernel, rfl⟩
theorem d6_type_42 : Dpf m6_type 42 6 12 .int false 45 := ⟨63, by decide +kernel, f_X6_63, p_X6_X6_12, rfl⟩
theorem d6_type_45 : Dal m6_type 45 0 46 := Or.inl ⟨0, by decide +kernel, rfl, rfl⟩
theorem d6_type_46 : Dgf m6_type 46 6 12 49 := ⟨63, by decide +kernel, f_X6_63, rfl⟩
theorem d6_type_49 : mR m6_type = some .int ∧ decode (mB m6_type) 49 = .ok (.ireturn, 1) := ⟨rfl, by decide +kernel⟩
theorem d6_clearText_0 : Dal m6_clearText 0 0 1 := Or.inl ⟨0, by decide +kernel, rfl, rfl⟩
theorem d6_clearText_1 : Dgf m6_clearText 1 6 12 4 := ⟨63, by decide +kernel, f_X6_63, rfl⟩
theorem d6_clearText_4 : Dis m6_clearText 4 1 5 := Or.inl ⟨1, by decide +kernel, rfl, rfl⟩
theorem d6_clearText_5 : Dal m6_clearText 5 0 6 := Or.inl ⟨0, by decide +kernel, rfl, rfl⟩
theorem d6_clearText_6 : Dc m6_clearText 6 (.iconst 0) 1 7 := ⟨by decide +kernel, rfl⟩
theorem d6_clearText_7 : Dpf m6_clearText 7 6 12 .int false 10 := ⟨63, by decide +kernel, f_X6_63, p_X6_X6_12, rfl⟩
theorem d6_clearText_10 : Dil m6_clearText 10 1 11 := Or.inl ⟨1, by decide +kernel, rfl, rfl⟩
theorem d6_clearText_11 : mR m6_clearText = some .int ∧ decode (mB m6_clearText) 11 = .ok (.ireturn, 1) := ⟨rfl, by decide +kernel⟩
theorem d6_next_0 : Dal m6_next 0 0 1 := Or.inl ⟨0, by decide +kernel, rfl, rfl⟩
theorem d6_next_1 : Dgf m6_next 1 6 13 4 := ⟨67, by decide +kernel, f_X6_67, rfl⟩
theorem d6_next_4 : Dal m6_next 4 0 5 := Or.inl ⟨0, by decide +kernel, rfl, rfl⟩
theorem d6_next_5 : Dgf m6_next 5 6 12 8 := ⟨63, by decide +kernel, f_X6_63, rfl⟩
theorem d6_next_8 : Dic m6_next 8 .ge 23 11 := ⟨(15), by decide +kernel, by decide, rfl⟩
theorem d6_next_11 : Dal m6_next 11 0 12 := Or.inl ⟨0, by decide +kernel, rfl, rfl⟩
theorem d6_next_12 : Dgf m6_next 12 6 11 15 := ⟨26, by decide +kernel, f_X6_26, rfl⟩
theorem d6_next_15 : Dal m6_next 15 0 16 := Or.inl ⟨0, by decide +kernel, rfl, rfl⟩
theorem d6_next_16 : Dgf m6_next 16 6 13 19 := ⟨67, by decide +kernel, f_X6_67, rfl⟩
theorem d6_next_19 : Dc m6_next 19 .iaload 1 20 := ⟨by decide +kernel, rfl⟩
theorem d6_next_20 : Dgo m6_next 20 24 := ⟨4, by decide +kernel, by decide⟩
theorem d6_next_23 : Dc m6_next 23 (.iconst (-1)) 1 24 := ⟨by decide +kernel, rfl⟩
theorem d6_next_24 : mR m6_next = some .int ∧ decode (mB m6_next) 24 = .ok (.ireturn, 1) := ⟨rfl, by decide +kernel⟩
theorem d6_isDigit_0 : Dal m6_isDigit 0 0 1 := Or.inl ⟨0, by decide +kernel, rfl, rfl⟩
theorem d6_isDigit_1 : Div m6_isDigit 1 m6_next 0 4 := ⟨70, by decide +kernel, lk_X6_70, v_6_next, rfl⟩
theorem d6_isDigit_4 : Dc m6_isDigit 4 (.bipush 48) 2 6 := ⟨by decide +kernel, rfl⟩
theorem d6_isDigit_6 : Dc m6_isDigit 6 (.bipush 57) 2 8 := ⟨by decide +kernel, rfl⟩
theorem d6_isDigit_8 : Dis' m6_isDigit 8 m6_in 3 11 := ⟨59, by decide +kernel, lk_X6_59, s_6_in, rfl⟩
theorem d6_isDigit_11 : mR m6_isDigit = some .boolean ∧ decode (mB m6_isDigit) 11 = .ok (.ireturn, 1) := ⟨rfl, by decide +kernel⟩
theorem d6_blanks_0 : Dal m6_blanks 0 0 1 := Or.inl ⟨0, by decide +kernel, rfl, rfl⟩
theorem d6_blanks_1 : Div m6_blanks 1 m6_next 0 4 := ⟨70, by decide +kernel, lk_X6_70, v_6_next, rfl⟩
theorem d6_blanks_4 : Dc m6_blanks 4 (.bipush 32) 2 6 := ⟨by decide +kernel, rfl⟩
theorem d6_blanks_6 : Dic m6_blanks 6 .ne 22 9 := ⟨(16), by decide +kernel, by decide, rfl⟩
theorem d6_blanks_9 : Dal m6_blanks 9 0 10 := Or.inl ⟨0, by decide +kernel, rfl, rfl⟩
theorem d6_blanks_10 : Dc m6_blanks 10 .dup 1 11 := ⟨by decide +kernel, rfl⟩
theorem d6_blanks_11 : Dgf m6_blanks 11 6 13 14 := ⟨67, by decide +kernel, f_X6_67, rfl⟩
theorem d6_blanks_14 : Dc m6_blanks 14 (.iconst 1) 1 15 := ⟨by decide +kernel, rfl⟩
theorem d6_blanks_15 : Dc m6_blanks 15 .iadd 1 16 := ⟨by decide +kernel, rfl⟩
theorem d6_blanks_16 : Dpf m6_blanks 16 6 13 .int false 19 := ⟨67, by decide +kernel, f_X6_67, p_X6_X6_13, rfl⟩
theorem d6_blanks_19 : Dgo m6_blanks 19 0 := ⟨(-19), by decide +kernel, by decide⟩
theorem d6_blanks_22 : mR m6_blanks = none ∧ decode (mB m6_blanks) 22 = .ok (.return_, 1) := ⟨rfl, by decide +kernel⟩
theorem d6_fails_0 : Dal m6_fails 0 0 1 := Or.inl ⟨0, by decide +kernel, rfl, rfl⟩
theorem d6_fails_1 : Dal m6_fails 1 0 2 := Or.inl ⟨0, by decide +kernel, rfl, rfl⟩
theorem d6_fails_2 : Dgf m6_fails 2 6 14 5 := ⟨74, by decide +kernel, f_X6_74, rfl⟩
theorem d6_fails_5 : Dc m6_fails 5 (.bipush (-11)) 2 7 := ⟨by decide +kernel, rfl⟩
theorem d6_fails_7 : Dic m6_fails 7 .ne 14 10 := ⟨(7), by decide +kernel, by decide, rfl⟩
theorem d6_fails_10 : Dil m6_fails 10 1 11 := Or.inl ⟨1, by decide +kernel, rfl, rfl⟩
theorem d6_fails_11 : Dgo m6_fails 11 18 := ⟨7, by decide +kernel, by decide⟩
theorem d6_fails_14 : Dal m6_fails 14 0 15 := Or.inl ⟨0, by decide +kernel, rfl, rfl⟩
theorem d6_fails_15 : Dgf m6_fails 15 6 14 18 := ⟨74, by decide +kernel, f_X6_74, rfl⟩
theorem d6_fails_18 : Dpf m6_fails 18 6 14 .int false 21 := ⟨74, by decide +kernel, f_X6_74, p_X6_X6_14, rfl⟩
theorem d6_fails_21 : mR m6_fails = none ∧ decode (mB m6_fails) 21 = .ok (.return_, 1) := ⟨rfl, by decide +kernel⟩
theorem d6_take_0 : Dal m6_take 0 0 1 := Or.inl ⟨0, by decide +kernel, rfl, rfl⟩
theorem d6_take_1 : Div m6_take 1 m6_next 0 4 := ⟨70, by decide +kernel, lk_X6_70, v_6_next, rfl⟩
theorem d6_take_4 : Dis m6_take 4 2 5 := Or.inl ⟨2, by decide +kernel, rfl, rfl⟩
theorem d6_take_5 : Dal m6_take 5 0 6 := Or.inl ⟨0, by decide +kernel, rfl, rfl⟩
theorem d6_take_6 : Dgf m6_take 6 6 14 9 := ⟨74, by decide +kernel, f_X6_74, rfl⟩
theorem d6_take_9 : Dc m6_take 9 (.bipush (-11)) 2 11 := ⟨by decide +kernel, rfl⟩
theorem d6_take_11 : Dic m6_take 11 .ne 35 14 := ⟨(24), by decide +kernel, by decide, rfl⟩
theorem d6_take_14 : Dil m6_take 14 1 15 := Or.inl ⟨1, by decide +kernel, rfl, rfl⟩
theorem d6_take_15 : Dif m6_take 15 .eq 35 18 := ⟨(20), by decide +kernel, by decide, rfl⟩
theorem d6_take_18 : Dal m6_take 18 0 19 := Or.inl ⟨0, by decide +kernel, rfl, rfl⟩
theorem d6_take_19 : Dc m6_take 19 .dup 1 20 := ⟨by decide +kernel, rfl⟩
theorem d6_take_20 : Dgf m6_take 20 6 13 23 := ⟨67, by decide +kernel, f_X6_67, rfl⟩
theorem d6_take_23 : Dc m6_take 23 (.iconst 1) 1 24 := ⟨by decide +kernel, rfl⟩
theorem d6_take_24 : Dc m6_take 24 .iadd 1 25 := ⟨by decide +kernel, rfl⟩
theorem d6_take_25 : Dpf m6_take 25 6 13 .int false 28 := ⟨67, by decide +kernel, f_X6_67, p_X6_X6_13, rfl⟩
theorem d6_take_28 : Dal m6_take 28 0 29 := Or.inl ⟨0, by decide +kernel, rfl, rfl⟩
theorem d6_take_29 : Div m6_take 29 m6_blanks 0 32 := ⟨77, by decide +kernel, lk_X6_77, v_6_blanks, rfl⟩
theorem d6_take_32 : Dgo m6_take 32 43 := ⟨11, by decide +kernel, by decide⟩
theorem d6_take_35 : Dal m6_take 35 0 36 := Or.inl ⟨0, by decide +kernel, rfl, rfl⟩
theorem d6_take_36 : Dal m6_take 36 0 37 := Or.inl ⟨0, by decide +kernel, rfl, rfl⟩
theorem d6_take_37 : Dgf m6_take 37 6 13 40 := ⟨67, by decide +kernel, f_X6_67, rfl⟩
theorem d6_take_40 : Div m6_take 40 m6_fails 1 43 := ⟨80, by decide +kernel, lk_X6_80, v_6_fails, rfl⟩
theorem d6_take_43 : Dil m6_take 43 2 44 := Or.inl ⟨2, by decide +kernel, rfl, rfl⟩
theorem d6_take_44 : mR m6_take = some .int ∧ decode (mB m6_take) 44 = .ok (.ireturn, 1) := ⟨rfl, by decide +kernel⟩
theorem d6_voice_0 : Dal m6_voice 0 0 1 := Or.inl ⟨0, by decide +kernel, rfl, rfl⟩
theorem d6_voice_1 : Dal m6_voice 1 0 2 := Or.inl ⟨0, by decide +kernel, rfl, rfl⟩
theorem d6_voice_2 : Div m6_voice 2 m6_next 0 5 := ⟨70, by decide +kernel, lk_X6_70, v_6_next, rfl⟩
theorem d6_voice_5 : Dc m6_voice 5 (.bipush 97) 2 7 := ⟨by decide +kernel, rfl⟩
theorem d6_voice_7 : Dc m6_voice 7 (.bipush 102) 2 9 := ⟨by decide +kernel, rfl⟩
theorem d6_voice_9 : Dis' m6_voice 9 m6_in 3 12 := ⟨59, by decide +kernel, lk_X6_59, s_6_in, rfl⟩
theorem d6_voice_12 : Div m6_voice 12 m6_take 1 15 := ⟨84, by decide +kernel, lk_X6_84, v_6_take, rfl⟩
theorem d6_voice_15 : Dc m6_voice 15 (.bipush 97) 2 17 := ⟨by decide +kernel, rfl⟩
theorem d6_voice_17 : Dc m6_voice 17 .isub 1 18 := ⟨by decide +kernel, rfl⟩
theorem d6_voice_18 : mR m6_voice = some .int ∧ decode (mB m6_voice) 18 = .ok (.ireturn, 1) := ⟨rfl, by decide +kernel⟩
theorem d6_digit_0 : Dal m6_digit 0 0 1 := Or.inl ⟨0, by decide +kernel, rfl, rfl⟩
theorem d6_digit_1 : Div m6_digit 1 m6_next 0 4 := ⟨70, by decide +kernel, lk_X6_70, v_6_next, rfl⟩
theorem d6_digit_4 : Dc m6_digit 4 (.bipush 48) 2 6 := ⟨by decide +kernel, rfl⟩
theorem d6_digit_6 : Dc m6_digit 6 .isub 1 7 := ⟨by decide +kernel, rfl⟩
theorem d6_digit_7 : Dis m6_digit 7 2 8 := Or.inl ⟨2, by decide +kernel, rfl, rfl⟩
theorem d6_digit_8 : Dal m6_digit 8 0 9 := Or.inl ⟨0, by decide +kernel, rfl, rfl⟩
theorem d6_digit_9 : Dgf m6_digit 9 6 14 12 := ⟨74, by decide +kernel, f_X6_74, rfl⟩
theorem d6_digit_12 : Dc m6_digit 12 (.bipush (-11)) 2 14 := ⟨by decide +kernel, rfl⟩
theorem d6_digit_14 : Dic m6_digit 14 .ne 26 17 := ⟨(12), by decide +kernel, by decide, rfl⟩
theorem d6_digit_17 : Dil m6_digit 17 2 18 := Or.inl ⟨2, by decide +kernel, rfl, rfl⟩
theorem d6_digit_18 : Dc m6_digit 18 (.iconst 0) 1 19 := ⟨by decide +kernel, rfl⟩
theorem d6_digit_19 : Dil m6_digit 19 1 20 := Or.inl ⟨1, by decide +kernel, rfl, rfl⟩
theorem d6_digit_20 : Dis' m6_digit 20 m6_in 3 23 := ⟨59, by decide +kernel, lk_X6_59, s_6_in, rfl⟩
theorem d6_digit_23 : Dif m6_digit 23 .ne 36 26 := ⟨(13), by decide +kernel, by decide, rfl⟩
theorem d6_digit_26 : Dal m6_digit 26 0 27 := Or.inl ⟨0, by decide +kernel, rfl, rfl⟩
theorem d6_digit_27 : Dal m6_digit 27 0 28 := Or.inl ⟨0, by decide +kernel, rfl, rfl⟩
theorem d6_digit_28 : Dgf m6_digit 28 6 13 31 := ⟨67, by decide +kernel, f_X6_67, rfl⟩
theorem d6_digit_31 : Div m6_digit 31 m6_fails 1 34 := ⟨80, by decide +kernel, lk_X6_80, v_6_fails, rfl⟩
theorem d6_digit_34 : Dc m6_digit 34 (.iconst 0) 1 35 := ⟨by decide +kernel, rfl⟩
theorem d6_digit_35 : mR m6_digit = some .int ∧ decode (mB m6_digit) 35 = .ok (.ireturn, 1) := ⟨rfl, by decide +kernel⟩
theorem d6_digit_36 : Dal m6_digit 36 0 37 := Or.inl ⟨0, by decide +kernel, rfl, rfl⟩
theorem d6_digit_37 : Dc m6_digit 37 .dup 1 38 := ⟨by decide +kernel, rfl⟩
theorem d6_digit_38 : Dgf m6_digit 38 6 13 41 := ⟨67, by decide +kernel, f_X6_67, rfl⟩
theorem d6_digit_41 : Dc m6_digit 41 (.iconst 1) 1 42 := ⟨by decide +kernel, rfl⟩
theorem d6_digit_42 : Dc m6_digit 42 .iadd 1 43 := ⟨by decide +kernel, rfl⟩
theorem d6_digit_43 : Dpf m6_digit 43 6 13 .int false 46 := ⟨67, by decide +kernel, f_X6_67, p_X6_X6_13, rfl⟩
theorem d6_digit_46 : Dal m6_digit 46 0 47 := Or.inl ⟨0, by decide +kernel, rfl, rfl⟩
theorem d6_digit_47 : Div m6_digit 47 m6_isDigit 0 50 := ⟨88, by decide +kernel, lk_X6_88, v_6_isDigit, rfl⟩
theorem d6_digit_50 : Dif m6_digit 50 .eq 61 53 := ⟨(11), by decide +kernel, by decide, rfl⟩
theorem d6_digit_53 : Dal m6_digit 53 0 54 := Or.inl ⟨0, by decide +kernel, rfl, rfl⟩
theorem d6_digit_54 : Dal m6_digit 54 0 55 := Or.inl ⟨0, by decide +kernel, rfl, rfl⟩
theorem d6_digit_55 : Dgf m6_digit 55 6 13 58 := ⟨67, by decide +kernel, f_X6_67, rfl⟩
theorem d6_digit_58 : Div m6_digit 58 m6_fails 1 61 := ⟨80, by decide +kernel, lk_X6_80, v_6_fails, rfl⟩
theorem d6_digit_61 : Dal m6_digit 61 0 62 := Or.inl ⟨0, by decide +kernel, rfl, rfl⟩
theorem d6_digit_62 : Div m6_digit 62 m6_blanks 0 65 := ⟨77, by decide +kernel, lk_X6_77, v_6_blanks, rfl⟩
theorem d6_digit_65 : Dil m6_digit 65 2 66 := Or.inl ⟨2, by decide +kernel, rfl, rfl⟩
theorem d6_digit_66 : mR m6_digit = some .int ∧ decode (mB m6_digit) 66 = .ok (.ireturn, 1) := ⟨rfl, by decide +kernel⟩
theorem d6_number_0 : Dal m6_number 0 0 1 := Or.inl ⟨0, by decide +kernel, rfl, rfl⟩
theorem d6_number_1 : Dgf m6_number 1 6 13 4 := ⟨67, by decide +kernel, f_X6_67, rfl⟩
theorem d6_number_4 : Dis m6_number 4 2 5 := Or.inl ⟨2, by decide +kernel, rfl, rfl⟩
theorem d6_number_5 : Dc m6_number 5 (.iconst 0) 1 6 := ⟨by decide +kernel, rfl⟩
theorem d6_number_6 : Dis m6_number 6 3 7 := Or.inl ⟨3, by decide +kernel, rfl, rfl⟩
theorem d6_number_7 : Dal m6_number 7 0 8 := Or.inl ⟨0, by decide +kernel, rfl, rfl⟩
theorem d6_number_8 : Dgf m6_number 8 6 14 11 := ⟨74, by decide +kernel, f_X6_74, rfl⟩
theorem d6_number_11 : Dc m6_number 11 (.bipush (-11)) 2 13 := ⟨by decide +kernel, rfl⟩
theorem d6_number_13 : Dic m6_number 13 .ne 59 16 := ⟨(46), by decide +kernel, by decide, rfl⟩
theorem d6_number_16 : Dal m6_number 16 0 17 := Or.inl ⟨0, by decide +kernel, rfl, rfl⟩
theorem d6_number_17 : Dgf m6_number 17 6 13 20 := ⟨67, by decide +kernel, f_X6_67, rfl⟩
theorem d6_number_20 : Dil m6_number 20 2 21 := Or.inl ⟨2, by decide +kernel, rfl, rfl⟩
theorem d6_number_21 : Dc m6_number 21 (.iconst 2) 1 22 := ⟨by decide +kernel, rfl⟩
theorem d6_number_22 : Dc m6_number 22 .iadd 1 23 := ⟨by decide +kernel, rfl⟩
theorem d6_number_23 : Dic m6_number 23 .ge 59 26 := ⟨(36), by decide +kernel, by decide, rfl⟩
theorem d6_number_26 : Dal m6_number 26 0 27 := Or.inl ⟨0, by decide +kernel, rfl, rfl⟩
theorem d6_number_27 : Div m6_number 27 m6_isDigit 0 30 := ⟨88, by decide +kernel, lk_X6_88, v_6_isDigit, rfl⟩
theorem d6_number_30 : Dif m6_number 30 .eq 59 33 := ⟨(29), by decide +kernel, by decide, rfl⟩
theorem d6_number_33 : Dc m6_number 33 (.bipush 10) 2 35 := ⟨by decide +kernel, rfl⟩
theorem d6_number_35 : Dil m6_number 35 3 36 := Or.inl ⟨3, by decide +kernel, rfl, rfl⟩
theorem d6_number_36 : Dc m6_number 36 .imul 1 37 := ⟨by decide +kernel, rfl⟩
theorem d6_number_37 : Dal m6_number 37 0 38 := Or.inl ⟨0, by decide +kernel, rfl, rfl⟩
theorem d6_number_38 : Div m6_number 38 m6_next 0 41 := ⟨70, by decide +kernel, lk_X6_70, v_6_next, rfl⟩
theorem d6_number_41 : Dc m6_number 41 .iadd 1 42 := ⟨by decide +kernel, rfl⟩
theorem d6_number_42 : Dc m6_number 42 (.bipush 48) 2 44 := ⟨by decide +kernel, rfl⟩
theorem d6_number_44 : Dc m6_number 44 .isub 1 45 := ⟨by decide +kernel, rfl⟩
theorem d6_number_45 : Dis m6_number 45 3 46 := Or.inl ⟨3, by decide +kernel, rfl, rfl⟩
theorem d6_number_46 : Dal m6_number 46 0 47 := Or.inl ⟨0, by decide +kernel, rfl, rfl⟩
theorem d6_number_47 : Dc m6_number 47 .dup 1 48 := ⟨by decide +kernel, rfl⟩
theorem d6_number_48 : Dgf m6_number 48 6 13 51 := ⟨67, by decide +kernel, f_X6_67, rfl⟩
theorem d6_number_51 : Dc m6_number 51 (.iconst 1) 1 52 := ⟨by decide +kernel, rfl⟩
theorem d6_number_52 : Dc m6_number 52 .iadd 1 53 := ⟨by decide +kernel, rfl⟩
theorem d6_number_53 : Dpf m6_number 53 6 13 .int false 56 := ⟨67, by decide +kernel, f_X6_67, p_X6_X6_13, rfl⟩
theorem d6_number_56 : Dgo m6_number 56 7 := ⟨(-49), by decide +kernel, by decide⟩
theorem d6_number_59 : Dal m6_number 59 0 60 := Or.inl ⟨0, by decide +kernel, rfl, rfl⟩
theorem d6_number_60 : Dgf m6_number 60 6 13 63 := ⟨67, by decide +kernel, f_X6_67, rfl⟩
theorem d6_number_63 : Dil m6_number 63 2 64 := Or.inl ⟨2, by decide +kernel, rfl, rfl⟩
theorem d6_number_64 : Dic m6_number 64 .eq 72 67 := ⟨(8), by decide +kernel, by decide, rfl⟩
theorem d6_number_67 : Dil m6_number 67 3 68 := Or.inl ⟨3, by decide +kernel, rfl, rfl⟩
theorem d6_number_68 : Dil m6_number 68 1 69 := Or.inl ⟨1, by decide +kernel, rfl, rfl⟩
theorem d6_number_69 : Dic m6_number 69 .le 77 72 := ⟨(8), by decide +kernel, by decide, rfl⟩
theorem d6_number_72 : Dal m6_number 72 0 73 := Or.inl ⟨0, by decide +kernel, rfl, rfl⟩
theorem d6_number_73 : Dil m6_number 73 2 74 := Or.inl ⟨2, by decide +kernel, rfl, rfl⟩
theorem d6_number_74 : Div m6_number 74 m6_fails 1 77 := ⟨80, by decide +kernel, lk_X6_80, v_6_fails, rfl⟩
theorem d6_number_77 : Dal m6_number 77 0 78 := Or.inl ⟨0, by decide +kernel, rfl, rfl⟩
theorem d6_number_78 : Div m6_number 78 m6_isDigit 0 81 := ⟨88, by decide +kernel, lk_X6_88, v_6_isDigit, rfl⟩
theorem d6_number_81 : Dif m6_number 81 .eq 92 84 := ⟨(11), by decide +kernel, by decide, rfl⟩
theorem d6_number_84 : Dal m6_number 84 0 85 := Or.inl ⟨0, by decide +kernel, rfl, rfl⟩
theorem d6_number_85 : Dal m6_number 85 0 86 := Or.inl ⟨0, by decide +kernel, rfl, rfl⟩
theorem d6_number_86 : Dgf m6_number 86 6 13 89 := ⟨67, by decide +kernel, f_X6_67, rfl⟩
theorem d6_number_89 : Div m6_number 89 m6_fails 1 92 := ⟨80, by decide +kernel, lk_X6_80, v_6_fails, rfl⟩
theorem d6_number_92 : Dal m6_number 92 0 93 := Or.inl ⟨0, by decide +kernel, rfl, rfl⟩
theorem d6_number_93 : Div m6_number 93 m6_blanks 0 96 := ⟨77, by decide +kernel, lk_X6_77, v_6_blanks, rfl⟩
theorem d6_number_96 : Dil m6_number 96 3 97 := Or.inl ⟨3, by decide +kernel, rfl, rfl⟩
theorem d6_number_97 : mR m6_number = some .int ∧ decode (mB m6_number) 97 = .ok (.ireturn, 1) := ⟨rfl, by decide +kernel⟩
theorem d6_kindOf_0 : Dil m6_kindOf 0 0 1 := Or.inl ⟨0, by decide +kernel, rfl, rfl⟩
theorem d6_kindOf_1 : Dts m6_kindOf 1 99 [100, 106, 103, 94, 106, 92, 106, 96, 106, 106, 106, 106, 106, 90, 106, 106, 88, 98] 106 := ⟨105, 116, #[99, 105, 102, 93, 105, 91, 105, 95, 105, 105, 105, 105, 105, 89, 105, 105, 87, 97], 87, by decide +kernel, by decide, by decide, rfl, by decide⟩
theorem d6_kindOf_88 : Dc m6_kindOf 88 (.iconst 0) 1 89 := ⟨by decide +kernel, rfl⟩
theorem d6_kindOf_89 : mR m6_kindOf = some .int ∧ decode (mB m6_kindOf) 89 = .ok (.ireturn, 1) := ⟨rfl, by decide +kernel⟩
theorem d6_kindOf_90 : Dc m6_kindOf 90 (.iconst 1) 1 91 := ⟨by decide +kernel, rfl⟩
theorem d6_kindOf_91 : mR m6_kindOf = some .int ∧ decode (mB m6_kindOf) 91 = .ok (.ireturn, 1) := ⟨rfl, by decide +kernel⟩
theorem d6_kindOf_92 : Dc m6_kindOf 92 (.iconst 2) 1 93 := ⟨by decide +kernel, rfl⟩
theorem d6_kindOf_93 : mR m6_kindOf = some .int ∧ decode (mB m6_kindOf) 93 = .ok (.ireturn, 1) := ⟨rfl, by decide +kernel⟩
theorem d6_kindOf_94 : Dc m6_kindOf 94 (.iconst 3) 1 95 := ⟨by decide +kernel, rfl⟩
theorem d6_kindOf_95 : mR m6_kindOf = some .int ∧ decode (mB m6_kindOf) 95 = .ok (.ireturn, 1) := ⟨rfl, by decide +kernel⟩
theorem d6_kindOf_96 : Dc m6_kindOf 96 (.iconst 4) 1 97 := ⟨by decide +kernel, rfl⟩
theorem d6_kindOf_97 : mR m6_kindOf = some .int ∧ decode (mB m6_kindOf) 97 = .ok (.ireturn, 1) := ⟨rfl, by decide +kernel⟩
theorem d6_kindOf_98 : Dc m6_kindOf 98 (.iconst 5) 1 99 := ⟨by decide +kernel, rfl⟩
theorem d6_kindOf_99 : mR m6_kindOf = some .int ∧ decode (mB m6_kindOf) 99 = .ok (.ireturn, 1) := ⟨rfl, by decide +kernel⟩
theorem d6_kindOf_100 : Dc m6_kindOf 100 (.bipush 6) 2 102 := ⟨by decide +kernel, rfl⟩
theorem d6_kindOf_102 : mR m6_kindOf = some .int ∧ decode (mB m6_kindOf) 102 = .ok (.ireturn, 1) := ⟨rfl, by decide +kernel⟩
theorem d6_kindOf_103 : Dc m6_kindOf 103 (.bipush 7) 2 105 := ⟨by decide +kernel, rfl⟩
theorem d6_kindOf_105 : mR m6_kindOf = some .int ∧ decode (mB m6_kindOf) 105 = .ok (.ireturn, 1) := ⟨rfl, by decide +kernel⟩
theorem d6_kindOf_106 : Dc m6_kindOf 106 (.bipush (-11)) 2 108 := ⟨by decide +kernel, rfl⟩
theorem d6_kindOf_108 : mR m6_kindOf = some .int ∧ decode (mB m6_kindOf) 108 = .ok (.ireturn, 1) := ⟨rfl, by decide +kernel⟩
theorem d6_readsOptions_0 : Dc m6_readsOptions 0 (.iconst 0) 1 1 := ⟨by decide +kernel, rfl⟩
theorem d6_readsOptions_1 : Dis m6_readsOptions 1 2 2 := Or.inl ⟨2, by decide +kernel, rfl, rfl⟩
theorem d6_readsOptions_2 : Dc m6_readsOptions 2 (.iconst 1) 1 3 := ⟨by decide +kernel, rfl⟩
theorem d6_readsOptions_3 : Dis m6_readsOptions 3 3 4 := Or.inl ⟨3, by decide +kernel, rfl, rfl⟩
theorem d6_readsOptions_4 : Dil m6_readsOptions 4 3 5 := Or.inl ⟨3, by decide +kernel, rfl, rfl⟩
theorem d6_readsOptions_5 : Dif m6_readsOptions 5 .eq 164 8 := ⟨(159), by decide +kernel, by decide, rfl⟩
theorem d6_readsOptions_8 : Dal m6_readsOptions 8 0 9 := Or.inl ⟨0, by decide +kernel, rfl, rfl⟩
theorem d6_readsOptions_9 : Dgf m6_readsOptions 9 6 14 12 := ⟨74, by decide +kernel, f_X6_74, rfl⟩
theorem d6_readsOptions_12 : Dc m6_readsOptions 12 (.bipush (-11)) 2 14 := ⟨by decide +kernel, rfl⟩
theorem d6_readsOptions_14 : Dic m6_readsOptions 14 .ne 164 17 := ⟨(150), by decide +kernel, by decide, rfl⟩
theorem d6_readsOptions_17 : Dil m6_readsOptions 17 2 18 := Or.inl ⟨2, by decide +kernel, rfl, rfl⟩
theorem d6_readsOptions_18 : Dc m6_readsOptions 18 (.iconst 4) 1 19 := ⟨by decide +kernel, rfl⟩
theorem d6_readsOptions_19 : Dic m6_readsOptions 19 .ne 31 22 := ⟨(12), by decide +kernel, by decide, rfl⟩
theorem d6_readsOptions_22 : Dal m6_readsOptions 22 0 23 := Or.inl ⟨0, by decide +kernel, rfl, rfl⟩
theorem d6_readsOptions_23 : Dal m6_readsOptions 23 0 24 := Or.inl ⟨0, by decide +kernel, rfl, rfl⟩
theorem d6_readsOptions_24 : Dgf m6_readsOptions 24 6 13 27 := ⟨67, by decide +kernel, f_X6_67, rfl⟩
theorem d6_readsOptions_27 : Div m6_readsOptions 27 m6_fails 1 30 := ⟨80, by decide +kernel, lk_X6_80, v_6_fails, rfl⟩
theorem d6_readsOptions_30 : mR m6_readsOptions = none ∧ decode (mB m6_readsOptions) 30 = .ok (.return_, 1) := ⟨rfl, by decide +kernel⟩
theorem d6_readsOptions_31 : Dal m6_readsOptions 31 0 32 := Or.inl ⟨0, by decide +kernel, rfl, rfl⟩
theorem d6_readsOptions_32 : Dgf m6_readsOptions 32 6 2 35 := ⟨13, by decide +kernel, f_X6_13, rfl⟩
theorem d6_readsOptions_35 : Dil m6_readsOptions 35 1 36 := Or.inl ⟨1, by decide +kernel, rfl, rfl⟩
theorem d6_readsOptions_36 : Dc m6_readsOptions 36 (.iconst 4) 1 37 := ⟨by decide +kernel, rfl⟩
theorem d6_readsOptions_37 : Dc m6_readsOptions 37 .iadd 1 38 := ⟨by decide +kernel, rfl⟩
theorem d6_readsOptions_38 : Dc m6_readsOptions 38 (.iconst 2) 1 39 := ⟨by decide +kernel, rfl⟩
theorem d6_readsOptions_39 : Dil m6_readsOptions 39 2 40 := Or.inl ⟨2, by decide +kernel, rfl, rfl⟩
theorem d6_readsOptions_40 : Dc m6_readsOptions 40 .imul 1 41 := ⟨by decide +kernel, rfl⟩
theorem d6_readsOptions_41 : Dc m6_readsOptions 41 .iadd 1 42 := ⟨by decide +kernel, rfl⟩
theorem d6_readsOptions_42 : Dal m6_readsOptions 42 0 43 := Or.inl ⟨0, by decide +kernel, rfl, rfl⟩
theorem d6_readsOptions_43 : Dc m6_readsOptions 43 (.bipush 29) 2 45 := ⟨by decide +kernel, rfl⟩
theorem d6_readsOptions_45 : Div m6_readsOptions 45 m6_number 1 48 := ⟨92, by decide +kernel, lk_X6_92, v_6_number, rfl⟩
theorem d6_readsOptions_48 : Dc m6_readsOptions 48 .iastore 1 49 := ⟨by decide +kernel, rfl⟩
theorem d6_readsOptions_49 : Dc m6_readsOptions 49 (.iconst 0) 1 50 := ⟨by decide +kernel, rfl⟩
theorem d6_readsOptions_50 : Dis m6_readsOptions 50 4 52 := Or.inr ⟨by decide +kernel, rfl⟩
theorem d6_readsOptions_52 : Dal m6_readsOptions 52 0 53 := Or.inl ⟨0, by decide +kernel, rfl, rfl⟩
theorem d6_readsOptions_53 : Dgf m6_readsOptions 53 6 14 56 := ⟨74, by decide +kernel, f_X6_74, rfl⟩
theorem d6_readsOptions_56 : Dc m6_readsOptions 56 (.bipush (-11)) 2 58 := ⟨by decide +kernel, rfl⟩
theorem d6_readsOptions_58 : Dic m6_readsOptions 58 .ne 108 61 := ⟨(50), by decide +kernel, by decide, rfl⟩
theorem d6_readsOptions_61 : Dal m6_readsOptions 61 0 62 := Or.inl ⟨0, by decide +kernel, rfl, rfl⟩
theorem d6_readsOptions_62 : Div m6_readsOptions 62 m6_next 0 65 := ⟨70, by decide +kernel, lk_X6_70, v_6_next, rfl⟩
theorem d6_readsOptions_65 : Dc m6_readsOptions 65 (.bipush 63) 2 67 := ⟨by decide +kernel, rfl⟩
theorem d6_readsOptions_67 : Dic m6_readsOptions 67 .eq 79 70 := ⟨(12), by decide +kernel, by decide, rfl⟩
theorem d6_readsOptions_70 : Dal m6_readsOptions 70 0 71 := Or.inl ⟨0, by decide +kernel, rfl, rfl⟩
theorem d6_readsOptions_71 : Div m6_readsOptions 71 m6_next 0 74 := ⟨70, by decide +kernel, lk_X6_70, v_6_next, rfl⟩
theorem d6_readsOptions_74 : Dc m6_readsOptions 74 (.bipush 33) 2 76 := ⟨by decide +kernel, rfl⟩
theorem d6_readsOptions_76 : Dic m6_readsOptions 76 .ne 108 79 := ⟨(32), by decide +kernel, by decide, rfl⟩
theorem d6_readsOptions_79 : Dal m6_readsOptions 79 0 80 := Or.inl ⟨0, by decide +kernel, rfl, rfl⟩
theorem d6_readsOptions_80 : Dc m6_readsOptions 80 (.iconst 1) 1 81 := ⟨by decide +kernel, rfl⟩
theorem d6_readsOptions_81 : Div m6_readsOptions 81 m6_take 1 84 := ⟨84, by decide +kernel, lk_X6_84, v_6_take, rfl⟩
theorem d6_readsOptions_84 : Dc m6_readsOptions 84 (.bipush 63) 2 86 := ⟨by decide +kernel, rfl⟩
theorem d6_readsOptions_86 : Dic m6_readsOptions 86 .ne 93 89 := ⟨(7), by decide +kernel, by decide, rfl⟩
theorem d6_readsOptions_89 : Dc m6_readsOptions 89 (.iconst 1) 1 90 := ⟨by decide +kernel, rfl⟩
theorem d6_readsOptions_90 : Dgo m6_readsOptions 90 94 := ⟨4, by decide +kernel, by decide⟩
theorem d6_readsOptions_93 : Dc m6_readsOptions 93 (.iconst 2) 1 94 := ⟨by decide +kernel, rfl⟩
theorem d6_readsOptions_94 : Dis m6_readsOptions 94 4 96 := Or.inr ⟨by decide +kernel, rfl⟩
theorem d6_readsOptions_96 : Dil m6_readsOptions 96 4 98 := Or.inr ⟨by decide +kernel, rfl⟩
theorem d6_readsOptions_98 : Dc m6_readsOptions 98 (.iconst 2) 1 99 := ⟨by decide +kernel, rfl⟩
theorem d6_readsOptions_99 : Dal m6_readsOptions 99 0 100 := Or.inl ⟨0, by decide +kernel, rfl, rfl⟩
theorem d6_readsOptions_100 : Dc m6_readsOptions 100 (.iconst 5) 1 101 := ⟨by decide +kernel, rfl⟩
theorem d6_readsOptions_101 : Div m6_readsOptions 101 m6_digit 1 104 := ⟨96, by decide +kernel, lk_X6_96, v_6_digit, rfl⟩
theorem d6_readsOptions_104 : Dc m6_readsOptions 104 .imul 1 105 := ⟨by decide +kernel, rfl⟩
theorem d6_readsOptions_105 : Dc m6_readsOptions 105 .iadd 1 106 := ⟨by decide +kernel, rfl⟩
theorem d6_readsOptions_106 : Dis m6_readsOptions 106 4 108 := Or.inr ⟨by decide +kernel, rfl⟩
theorem d6_readsOptions_108 : Dal m6_readsOptions 108 0 109 := Or.inl ⟨0, by decide +kernel, rfl, rfl⟩
theorem d6_readsOptions_109 : Dgf m6_readsOptions 109 6 2 112 := ⟨13, by decide +kernel, f_X6_13, rfl⟩
theorem d6_readsOptions_112 : Dil m6_readsOptions 112 1 113 := Or.inl ⟨1, by decide +kernel, rfl, rfl⟩
theorem d6_readsOptions_113 : Dc m6_readsOptions 113 (.iconst 4) 1 114 := ⟨by decide +kernel, rfl⟩
theorem d6_readsOptions_114 : Dc m6_readsOptions 114 .iadd 1 115 := ⟨by decide +kernel, rfl⟩
theorem d6_readsOptions_115 : Dc m6_readsOptions 115 (.iconst 2) 1 116 := ⟨by decide +kernel, rfl⟩
theorem d6_readsOptions_116 : Dil m6_readsOptions 116 2 117 := Or.inl ⟨2, by decide +kernel, rfl, rfl⟩
theorem d6_readsOptions_117 : Dc m6_readsOptions 117 .imul 1 118 := ⟨by decide +kernel, rfl⟩
theorem d6_readsOptions_118 : Dc m6_readsOptions 118 .iadd 1 119 := ⟨by decide +kernel, rfl⟩
theorem d6_readsOptions_119 : Dc m6_readsOptions 119 (.iconst 1) 1 120 := ⟨by decide +kernel, rfl⟩
theorem d6_readsOptions_120 : Dc m6_readsOptions 120 .iadd 1 121 := ⟨by decide +kernel, rfl⟩
theorem d6_readsOptions_121 : Dil m6_readsOptions 121 4 123 := Or.inr ⟨by decide +kernel, rfl⟩
theorem d6_readsOptions_123 : Dc m6_readsOptions 123 .iastore 1 124 := ⟨by decide +kernel, rfl⟩
theorem d6_readsOptions_124 : Dc m6_readsOptions 124 (.iinc 2 1) 3 127 := ⟨by decide +kernel, rfl⟩
theorem d6_readsOptions_127 : Dal m6_readsOptions 127 0 128 := Or.inl ⟨0, by decide +kernel, rfl, rfl⟩
theorem d6_readsOptions_128 : Dgf m6_readsOptions 128 6 14 131 := ⟨74, by decide +kernel, f_X6_74, rfl⟩
theorem d6_readsOptions_131 : Dc m6_readsOptions 131 (.bipush (-11)) 2 133 := ⟨by decide +kernel, rfl⟩
theorem d6_readsOptions_133 : Dic m6_readsOptions 133 .ne 149 136 := ⟨(16), by decide +kernel, by decide, rfl⟩
theorem d6_readsOptions_136 : Dal m6_readsOptions 136 0 137 := Or.inl ⟨0, by decide +kernel, rfl, rfl⟩
theorem d6_readsOptions_137 : Div m6_readsOptions 137 m6_next 0 140 := ⟨70, by decide +kernel, lk_X6_70, v_6_next, rfl⟩
theorem d6_readsOptions_140 : Dc m6_readsOptions 140 (.bipush 44) 2 142 := ⟨by decide +kernel, rfl⟩
theorem d6_readsOptions_142 : Dic m6_readsOptions 142 .ne 149 145 := ⟨(7), by decide +kernel, by decide, rfl⟩
theorem d6_readsOptions_145 : Dc m6_readsOptions 145 (.iconst 1) 1 146 := ⟨by decide +kernel, rfl⟩
theorem d6_readsOptions_146 : Dgo m6_readsOptions 146 150 := ⟨4, by decide +kernel, by decide⟩
theorem d6_readsOptions_149 : Dc m6_readsOptions 149 (.iconst 0) 1 150 := ⟨by decide +kernel, rfl⟩
theorem d6_readsOptions_150 : Dis m6_readsOptions 150 3 151 := Or.inl ⟨3, by decide +kernel, rfl, rfl⟩
theorem d6_readsOptions_151 : Dil m6_readsOptions 151 3 152 := Or.inl ⟨3, by decide +kernel, rfl, rfl⟩
theorem d6_readsOptions_152 : Dif m6_readsOptions 152 .eq 161 155 := ⟨(9), by decide +kernel, by decide, rfl⟩
theorem d6_readsOptions_155 : Dal m6_readsOptions 155 0 156 := Or.inl ⟨0, by decide +kernel, rfl, rfl⟩
theorem d6_readsOptions_156 : Dc m6_readsOptions 156 (.iconst 1) 1 157 := ⟨by decide +kernel, rfl⟩
theorem d6_readsOptions_157 : Div m6_readsOptions 157 m6_take 1 160 := ⟨84, by decide +kernel, lk_X6_84, v_6_take, rfl⟩
theorem d6_readsOptions_160 : Dc m6_readsOptions 160 .pop 1 161 := ⟨by decide +kernel, rfl⟩
theorem d6_readsOptions_161 : Dgo m6_readsOptions 161 4 := ⟨(-157), by decide +kernel, by decide⟩
theorem d6_readsOptions_164 : Dal m6_readsOptions 164 0 165 := Or.inl ⟨0, by decide +kernel, rfl, rfl⟩
theorem d6_readsOptions_165 : Dgf m6_readsOptions 165 6 2 168 := ⟨13, by decide +kernel, f_X6_13, rfl⟩
theorem d6_readsOptions_168 : Dil m6_readsOptions 168 1 169 := Or.inl ⟨1, by decide +kernel, rfl, rfl⟩
theorem d6_readsOptions_169 : Dc m6_readsOptions 169 (.iconst 1) 1 170 := ⟨by decide +kernel, rfl⟩
theorem d6_readsOptions_170 : Dc m6_readsOptions 170 .iadd 1 171 := ⟨by decide +kernel, rfl⟩
theorem d6_readsOptions_171 : Dil m6_readsOptions 171 2 172 := Or.inl ⟨2, by decide +kernel, rfl, rfl⟩
theorem d6_readsOptions_172 : Dc m6_readsOptions 172 .iastore 1 173 := ⟨by decide +kernel, rfl⟩
theorem d6_readsOptions_173 : mR m6_readsOptions = none ∧ decode (mB m6_readsOptions) 173 = .ok (.return_, 1) := ⟨rfl, by decide +kernel⟩
theorem d6_readsNode_0 : Dal m6_readsNode 0 0 1 := Or.inl ⟨0, by decide +kernel, rfl, rfl⟩
theorem d6_readsNode_1 : Div m6_readsNode 1 m6_next 0 4 := ⟨70, by decide +kernel, lk_X6_70, v_6_next, rfl⟩
theorem d6_readsNode_4 : Dis' m6_readsNode 4 m6_kindOf 1 7 := ⟨99, by decide +kernel, lk_X6_99, s_6_kindOf, rfl⟩
theorem d6_readsNode_7 : Dis m6_readsNode 7 1 8 := Or.inl ⟨1, by decide +kernel, rfl, rfl⟩
theorem d6_readsNode_8 : Dal m6_readsNode 8 0 9 := Or.inl ⟨0, by decide +kernel, rfl, rfl⟩
theorem d6_readsNode_9 : Dgf m6_readsNode 9 6 3 12 := ⟨102, by decide +kernel, f_X6_102, rfl⟩
theorem d6_readsNode_12 : Dc m6_readsNode 12 (.bipush 29) 2 14 := ⟨by decide +kernel, rfl⟩
theorem d6_readsNode_14 : Dic m6_readsNode 14 .eq 23 17 := ⟨(9), by decide +kernel, by decide, rfl⟩
theorem d6_readsNode_17 : Dil m6_readsNode 17 1 18 := Or.inl ⟨1, by decide +kernel, rfl, rfl⟩
theorem d6_readsNode_18 : Dc m6_readsNode 18 (.bipush (-11)) 2 20 := ⟨by decide +kernel, rfl⟩
theorem d6_readsNode_20 : Dic m6_readsNode 20 .ne 32 23 := ⟨(12), by decide +kernel, by decide, rfl⟩
theorem d6_readsNode_23 : Dal m6_readsNode 23 0 24 := Or.inl ⟨0, by decide +kernel, rfl, rfl⟩
theorem d6_readsNode_24 : Dal m6_readsNode 24 0 25 := Or.inl ⟨0, by decide +kernel, rfl, rfl⟩
theorem d6_readsNode_25 : Dgf m6_readsNode 25 6 13 28 := ⟨67, by decide +kernel, f_X6_67, rfl⟩
theorem d6_readsNode_28 : Div m6_readsNode 28 m6_fails 1 31 := ⟨80, by decide +kernel, lk_X6_80, v_6_fails, rfl⟩
theorem d6_readsNode_31 : mR m6_readsNode = none ∧ decode (mB m6_readsNode) 31 = .ok (.return_, 1) := ⟨rfl, by decide +kernel⟩
theorem d6_readsNode_32 : Dc m6_readsNode 32 (.bipush 12) 2 34 := ⟨by decide +kernel, rfl⟩
theorem d6_readsNode_34 : Dal m6_readsNode 34 0 35 := Or.inl ⟨0, by decide +kernel, rfl, rfl⟩
end
section
/-! ===== decode rows of X6 ===== -/
theorem d6_readsNode_35 : Dgf m6_readsNode 35 6 3 38 := ⟨102, by decide +kernel, f_X6_102, rfl⟩
theorem d6_readsNode_38 : Dc m6_readsNode 38 .imul 1 39 := ⟨by decide +kernel, rfl⟩
theorem d6_readsNode_39 : Dis m6_readsNode 39 2 40 := Or.inl ⟨2, by decide +kernel, rfl, rfl⟩
theorem d6_readsNode_40 : Dc m6_readsNode 40 (.iconst 0) 1 41 := ⟨by decide +kernel, rfl⟩
theorem d6_readsNode_41 : Dis m6_readsNode 41 3 42 := Or.inl ⟨3, by decide +kernel, rfl, rfl⟩
theorem d6_readsNode_42 : Dil m6_readsNode 42 3 43 := Or.inl ⟨3, by decide +kernel, rfl, rfl⟩
theorem d6_readsNode_43 : Dc m6_readsNode 43 (.bipush 12) 2 45 := ⟨by decide +kernel, rfl⟩
theorem d6_readsNode_45 : Dic m6_readsNode 45 .ge 72 48 := ⟨(27), by decide +kernel, by decide, rfl⟩
theorem d6_readsNode_48 : Dal m6_readsNode 48 0 49 := Or.inl ⟨0, by decide +kernel, rfl, rfl⟩
theorem d6_readsNode_49 : Dgf m6_readsNode 49 6 2 52 := ⟨13, by decide +kernel, f_X6_13, rfl⟩
theorem d6_readsNode_52 : Dil m6_readsNode 52 2 53 := Or.inl ⟨2, by decide +kernel, rfl, rfl⟩
theorem d6_readsNode_53 : Dil m6_readsNode 53 3 54 := Or.inl ⟨3, by decide +kernel, rfl, rfl⟩
theorem d6_readsNode_54 : Dc m6_readsNode 54 .iadd 1 55 := ⟨by decide +kernel, rfl⟩
theorem d6_readsNode_55 : Dil m6_readsNode 55 3 56 := Or.inl ⟨3, by decide +kernel, rfl, rfl⟩
theorem d6_readsNode_56 : Dif m6_readsNode 56 .ne 63 59 := ⟨(7), by decide +kernel, by decide, rfl⟩
theorem d6_readsNode_59 : Dil m6_readsNode 59 1 60 := Or.inl ⟨1, by decide +kernel, rfl, rfl⟩
theorem d6_readsNode_60 : Dgo m6_readsNode 60 65 := ⟨5, by decide +kernel, by decide⟩
theorem d6_readsNode_63 : Dc m6_readsNode 63 (.bipush (-11)) 2 65 := ⟨by decide +kernel, rfl⟩
theorem d6_readsNode_65 : Dc m6_readsNode 65 .iastore 1 66 := ⟨by decide +kernel, rfl⟩
theorem d6_readsNode_66 : Dc m6_readsNode 66 (.iinc 3 1) 3 69 := ⟨by decide +kernel, rfl⟩
theorem d6_readsNode_69 : Dgo m6_readsNode 69 42 := ⟨(-27), by decide +kernel, by decide⟩
theorem d6_readsNode_72 : Dal m6_readsNode 72 0 73 := Or.inl ⟨0, by decide +kernel, rfl, rfl⟩
theorem d6_readsNode_73 : Dc m6_readsNode 73 (.iconst 1) 1 74 := ⟨by decide +kernel, rfl⟩
theorem d6_readsNode_74 : Div m6_readsNode 74 m6_take 1 77 := ⟨84, by decide +kernel, lk_X6_84, v_6_take, rfl⟩
theorem d6_readsNode_77 : Dc m6_readsNode 77 .pop 1 78 := ⟨by decide +kernel, rfl⟩
theorem d6_readsNode_78 : Dil m6_readsNode 78 1 79 := Or.inl ⟨1, by decide +kernel, rfl, rfl⟩
theorem d6_readsNode_79 : Dts m6_readsNode 79 0 [120, 149, 190, 205, 266, 283, 313] 321 := ⟨242, 6, #[41, 70, 111, 126, 187, 204, 234], 41, by decide +kernel, by decide, by decide, rfl, by decide⟩
theorem d6_readsNode_120 : Dal m6_readsNode 120 0 121 := Or.inl ⟨0, by decide +kernel, rfl, rfl⟩
theorem d6_readsNode_121 : Dgf m6_readsNode 121 6 2 124 := ⟨13, by decide +kernel, f_X6_13, rfl⟩
theorem d6_readsNode_124 : Dil m6_readsNode 124 2 125 := Or.inl ⟨2, by decide +kernel, rfl, rfl⟩
theorem d6_readsNode_125 : Dc m6_readsNode 125 (.iconst 1) 1 126 := ⟨by decide +kernel, rfl⟩
theorem d6_readsNode_126 : Dc m6_readsNode 126 .iadd 1 127 := ⟨by decide +kernel, rfl⟩
theorem d6_readsNode_127 : Dal m6_readsNode 127 0 128 := Or.inl ⟨0, by decide +kernel, rfl, rfl⟩
theorem d6_readsNode_128 : Div m6_readsNode 128 m6_voice 0 131 := ⟨105, by decide +kernel, lk_X6_105, v_6_voice, rfl⟩
theorem d6_readsNode_131 : Dc m6_readsNode 131 .iastore 1 132 := ⟨by decide +kernel, rfl⟩
theorem d6_readsNode_132 : Dal m6_readsNode 132 0 133 := Or.inl ⟨0, by decide +kernel, rfl, rfl⟩
theorem d6_readsNode_133 : Dgf m6_readsNode 133 6 2 136 := ⟨13, by decide +kernel, f_X6_13, rfl⟩
theorem d6_readsNode_136 : Dil m6_readsNode 136 2 137 := Or.inl ⟨2, by decide +kernel, rfl, rfl⟩
theorem d6_readsNode_137 : Dc m6_readsNode 137 (.iconst 2) 1 138 := ⟨by decide +kernel, rfl⟩
theorem d6_readsNode_138 : Dc m6_readsNode 138 .iadd 1 139 := ⟨by decide +kernel, rfl⟩
theorem d6_readsNode_139 : Dal m6_readsNode 139 0 140 := Or.inl ⟨0, by decide +kernel, rfl, rfl⟩
theorem d6_readsNode_140 : Dc m6_readsNode 140 (.bipush 99) 2 142 := ⟨by decide +kernel, rfl⟩
theorem d6_readsNode_142 : Div m6_readsNode 142 m6_number 1 145 := ⟨92, by decide +kernel, lk_X6_92, v_6_number, rfl⟩
theorem d6_readsNode_145 : Dc m6_readsNode 145 .iastore 1 146 := ⟨by decide +kernel, rfl⟩
theorem d6_readsNode_146 : Dgo m6_readsNode 146 335 := ⟨189, by decide +kernel, by decide⟩
theorem d6_readsNode_149 : Dal m6_readsNode 149 0 150 := Or.inl ⟨0, by decide +kernel, rfl, rfl⟩
theorem d6_readsNode_150 : Dgf m6_readsNode 150 6 2 153 := ⟨13, by decide +kernel, f_X6_13, rfl⟩
theorem d6_readsNode_153 : Dil m6_readsNode 153 2 154 := Or.inl ⟨2, by decide +kernel, rfl, rfl⟩
theorem d6_readsNode_154 : Dc m6_readsNode 154 (.iconst 1) 1 155 := ⟨by decide +kernel, rfl⟩
theorem d6_readsNode_155 : Dc m6_readsNode 155 .iadd 1 156 := ⟨by decide +kernel, rfl⟩
theorem d6_readsNode_156 : Dal m6_readsNode 156 0 157 := Or.inl ⟨0, by decide +kernel, rfl, rfl⟩
theorem d6_readsNode_157 : Div m6_readsNode 157 m6_voice 0 160 := ⟨105, by decide +kernel, lk_X6_105, v_6_voice, rfl⟩
theorem d6_readsNode_160 : Dc m6_readsNode 160 .iastore 1 161 := ⟨by decide +kernel, rfl⟩
theorem d6_readsNode_161 : Dal m6_readsNode 161 0 162 := Or.inl ⟨0, by decide +kernel, rfl, rfl⟩
theorem d6_readsNode_162 : Dgf m6_readsNode 162 6 2 165 := ⟨13, by decide +kernel, f_X6_13, rfl⟩
theorem d6_readsNode_165 : Dil m6_readsNode 165 2 166 := Or.inl ⟨2, by decide +kernel, rfl, rfl⟩
theorem d6_readsNode_166 : Dc m6_readsNode 166 (.iconst 2) 1 167 := ⟨by decide +kernel, rfl⟩
theorem d6_readsNode_167 : Dc m6_readsNode 167 .iadd 1 168 := ⟨by decide +kernel, rfl⟩
theorem d6_readsNode_168 : Dal m6_readsNode 168 0 169 := Or.inl ⟨0, by decide +kernel, rfl, rfl⟩
theorem d6_readsNode_169 : Dc m6_readsNode 169 (.iconst 2) 1 170 := ⟨by decide +kernel, rfl⟩
theorem d6_readsNode_170 : Div m6_readsNode 170 m6_digit 1 173 := ⟨96, by decide +kernel, lk_X6_96, v_6_digit, rfl⟩
theorem d6_readsNode_173 : Dc m6_readsNode 173 .iastore 1 174 := ⟨by decide +kernel, rfl⟩
theorem d6_readsNode_174 : Dal m6_readsNode 174 0 175 := Or.inl ⟨0, by decide +kernel, rfl, rfl⟩
theorem d6_readsNode_175 : Dgf m6_readsNode 175 6 2 178 := ⟨13, by decide +kernel, f_X6_13, rfl⟩
theorem d6_readsNode_178 : Dil m6_readsNode 178 2 179 := Or.inl ⟨2, by decide +kernel, rfl, rfl⟩
theorem d6_readsNode_179 : Dc m6_readsNode 179 (.iconst 3) 1 180 := ⟨by decide +kernel, rfl⟩
theorem d6_readsNode_180 : Dc m6_readsNode 180 .iadd 1 181 := ⟨by decide +kernel, rfl⟩
theorem d6_readsNode_181 : Dal m6_readsNode 181 0 182 := Or.inl ⟨0, by decide +kernel, rfl, rfl⟩
theorem d6_readsNode_182 : Dc m6_readsNode 182 (.iconst 4) 1 183 := ⟨by decide +kernel, rfl⟩
theorem d6_readsNode_183 : Div m6_readsNode 183 m6_digit 1 186 := ⟨96, by decide +kernel, lk_X6_96, v_6_digit, rfl⟩
theorem d6_readsNode_186 : Dc m6_readsNode 186 .iastore 1 187 := ⟨by decide +kernel, rfl⟩
theorem d6_readsNode_187 : Dgo m6_readsNode 187 335 := ⟨148, by decide +kernel, by decide⟩
theorem d6_readsNode_190 : Dal m6_readsNode 190 0 191 := Or.inl ⟨0, by decide +kernel, rfl, rfl⟩
theorem d6_readsNode_191 : Dgf m6_readsNode 191 6 2 194 := ⟨13, by decide +kernel, f_X6_13, rfl⟩
theorem d6_readsNode_194 : Dil m6_readsNode 194 2 195 := Or.inl ⟨2, by decide +kernel, rfl, rfl⟩
theorem d6_readsNode_195 : Dc m6_readsNode 195 (.iconst 1) 1 196 := ⟨by decide +kernel, rfl⟩
theorem d6_readsNode_196 : Dc m6_readsNode 196 .iadd 1 197 := ⟨by decide +kernel, rfl⟩
theorem d6_readsNode_197 : Dal m6_readsNode 197 0 198 := Or.inl ⟨0, by decide +kernel, rfl, rfl⟩
theorem d6_readsNode_198 : Div m6_readsNode 198 m6_voice 0 201 := ⟨105, by decide +kernel, lk_X6_105, v_6_voice, rfl⟩
theorem d6_readsNode_201 : Dc m6_readsNode 201 .iastore 1 202 := ⟨by decide +kernel, rfl⟩
theorem d6_readsNode_202 : Dgo m6_readsNode 202 335 := ⟨133, by decide +kernel, by decide⟩
theorem d6_readsNode_205 : Dal m6_readsNode 205 0 206 := Or.inl ⟨0, by decide +kernel, rfl, rfl⟩
theorem d6_readsNode_206 : Dgf m6_readsNode 206 6 2 209 := ⟨13, by decide +kernel, f_X6_13, rfl⟩
theorem d6_readsNode_209 : Dil m6_readsNode 209 2 210 := Or.inl ⟨2, by decide +kernel, rfl, rfl⟩
theorem d6_readsNode_210 : Dc m6_readsNode 210 (.iconst 1) 1 211 := ⟨by decide +kernel, rfl⟩
theorem d6_readsNode_211 : Dc m6_readsNode 211 .iadd 1 212 := ⟨by decide +kernel, rfl⟩
theorem d6_readsNode_212 : Dal m6_readsNode 212 0 213 := Or.inl ⟨0, by decide +kernel, rfl, rfl⟩
theorem d6_readsNode_213 : Dc m6_readsNode 213 (.iconst 5) 1 214 := ⟨by decide +kernel, rfl⟩
theorem d6_readsNode_214 : Div m6_readsNode 214 m6_digit 1 217 := ⟨96, by decide +kernel, lk_X6_96, v_6_digit, rfl⟩
theorem d6_readsNode_217 : Dc m6_readsNode 217 .iastore 1 218 := ⟨by decide +kernel, rfl⟩
theorem d6_readsNode_218 : Dal m6_readsNode 218 0 219 := Or.inl ⟨0, by decide +kernel, rfl, rfl⟩
theorem d6_readsNode_219 : Dgf m6_readsNode 219 6 2 222 := ⟨13, by decide +kernel, f_X6_13, rfl⟩
theorem d6_readsNode_222 : Dil m6_readsNode 222 2 223 := Or.inl ⟨2, by decide +kernel, rfl, rfl⟩
theorem d6_readsNode_223 : Dc m6_readsNode 223 (.iconst 2) 1 224 := ⟨by decide +kernel, rfl⟩
theorem d6_readsNode_224 : Dc m6_readsNode 224 .iadd 1 225 := ⟨by decide +kernel, rfl⟩
theorem d6_readsNode_225 : Dal m6_readsNode 225 0 226 := Or.inl ⟨0, by decide +kernel, rfl, rfl⟩
theorem d6_readsNode_226 : Dal m6_readsNode 226 0 227 := Or.inl ⟨0, by decide +kernel, rfl, rfl⟩
theorem d6_readsNode_227 : Div m6_readsNode 227 m6_next 0 230 := ⟨70, by decide +kernel, lk_X6_70, v_6_next, rfl⟩
theorem d6_readsNode_230 : Dc m6_readsNode 230 (.bipush 43) 2 232 := ⟨by decide +kernel, rfl⟩
theorem d6_readsNode_232 : Dic m6_readsNode 232 .eq 244 235 := ⟨(12), by decide +kernel, by decide, rfl⟩
theorem d6_readsNode_235 : Dal m6_readsNode 235 0 236 := Or.inl ⟨0, by decide +kernel, rfl, rfl⟩
theorem d6_readsNode_236 : Div m6_readsNode 236 m6_next 0 239 := ⟨70, by decide +kernel, lk_X6_70, v_6_next, rfl⟩
theorem d6_readsNode_239 : Dc m6_readsNode 239 (.bipush 45) 2 241 := ⟨by decide +kernel, rfl⟩
theorem d6_readsNode_241 : Dic m6_readsNode 241 .ne 248 244 := ⟨(7), by decide +kernel, by decide, rfl⟩
theorem d6_readsNode_244 : Dc m6_readsNode 244 (.iconst 1) 1 245 := ⟨by decide +kernel, rfl⟩
theorem d6_readsNode_245 : Dgo m6_readsNode 245 249 := ⟨4, by decide +kernel, by decide⟩
theorem d6_readsNode_248 : Dc m6_readsNode 248 (.iconst 0) 1 249 := ⟨by decide +kernel, rfl⟩
theorem d6_readsNode_249 : Div m6_readsNode 249 m6_take 1 252 := ⟨84, by decide +kernel, lk_X6_84, v_6_take, rfl⟩
theorem d6_readsNode_252 : Dc m6_readsNode 252 (.bipush 43) 2 254 := ⟨by decide +kernel, rfl⟩
theorem d6_readsNode_254 : Dic m6_readsNode 254 .ne 261 257 := ⟨(7), by decide +kernel, by decide, rfl⟩
theorem d6_readsNode_257 : Dc m6_readsNode 257 (.iconst 1) 1 258 := ⟨by decide +kernel, rfl⟩
theorem d6_readsNode_258 : Dgo m6_readsNode 258 262 := ⟨4, by decide +kernel, by decide⟩
theorem d6_readsNode_261 : Dc m6_readsNode 261 (.iconst 0) 1 262 := ⟨by decide +kernel, rfl⟩
theorem d6_readsNode_262 : Dc m6_readsNode 262 .iastore 1 263 := ⟨by decide +kernel, rfl⟩
theorem d6_readsNode_263 : Dgo m6_readsNode 263 335 := ⟨72, by decide +kernel, by decide⟩
theorem d6_readsNode_266 : Dal m6_readsNode 266 0 267 := Or.inl ⟨0, by decide +kernel, rfl, rfl⟩
theorem d6_readsNode_267 : Dgf m6_readsNode 267 6 2 270 := ⟨13, by decide +kernel, f_X6_13, rfl⟩
theorem d6_readsNode_270 : Dil m6_readsNode 270 2 271 := Or.inl ⟨2, by decide +kernel, rfl, rfl⟩
theorem d6_readsNode_271 : Dc m6_readsNode 271 (.iconst 1) 1 272 := ⟨by decide +kernel, rfl⟩
theorem d6_readsNode_272 : Dc m6_readsNode 272 .iadd 1 273 := ⟨by decide +kernel, rfl⟩
theorem d6_readsNode_273 : Dal m6_readsNode 273 0 274 := Or.inl ⟨0, by decide +kernel, rfl, rfl⟩
theorem d6_readsNode_274 : Dc m6_readsNode 274 (.bipush 29) 2 276 := ⟨by decide +kernel, rfl⟩
theorem d6_readsNode_276 : Div m6_readsNode 276 m6_number 1 279 := ⟨92, by decide +kernel, lk_X6_92, v_6_number, rfl⟩
theorem d6_readsNode_279 : Dc m6_readsNode 279 .iastore 1 280 := ⟨by decide +kernel, rfl⟩
theorem d6_readsNode_280 : Dgo m6_readsNode 280 335 := ⟨55, by decide +kernel, by decide⟩
theorem d6_readsNode_283 : Dal m6_readsNode 283 0 284 := Or.inl ⟨0, by decide +kernel, rfl, rfl⟩
theorem d6_readsNode_284 : Dgf m6_readsNode 284 6 2 287 := ⟨13, by decide +kernel, f_X6_13, rfl⟩
theorem d6_readsNode_287 : Dil m6_readsNode 287 2 288 := Or.inl ⟨2, by decide +kernel, rfl, rfl⟩
theorem d6_readsNode_288 : Dc m6_readsNode 288 (.iconst 1) 1 289 := ⟨by decide +kernel, rfl⟩
theorem d6_readsNode_289 : Dc m6_readsNode 289 .iadd 1 290 := ⟨by decide +kernel, rfl⟩
theorem d6_readsNode_290 : Dal m6_readsNode 290 0 291 := Or.inl ⟨0, by decide +kernel, rfl, rfl⟩
theorem d6_readsNode_291 : Dc m6_readsNode 291 (.iconst 5) 1 292 := ⟨by decide +kernel, rfl⟩
theorem d6_readsNode_292 : Div m6_readsNode 292 m6_digit 1 295 := ⟨96, by decide +kernel, lk_X6_96, v_6_digit, rfl⟩
theorem d6_readsNode_295 : Dc m6_readsNode 295 .iastore 1 296 := ⟨by decide +kernel, rfl⟩
theorem d6_readsNode_296 : Dal m6_readsNode 296 0 297 := Or.inl ⟨0, by decide +kernel, rfl, rfl⟩
theorem d6_readsNode_297 : Dgf m6_readsNode 297 6 2 300 := ⟨13, by decide +kernel, f_X6_13, rfl⟩
theorem d6_readsNode_300 : Dil m6_readsNode 300 2 301 := Or.inl ⟨2, by decide +kernel, rfl, rfl⟩
theorem d6_readsNode_301 : Dc m6_readsNode 301 (.iconst 2) 1 302 := ⟨by decide +kernel, rfl⟩
theorem d6_readsNode_302 : Dc m6_readsNode 302 .iadd 1 303 := ⟨by decide +kernel, rfl⟩
theorem d6_readsNode_303 : Dal m6_readsNode 303 0 304 := Or.inl ⟨0, by decide +kernel, rfl, rfl⟩
theorem d6_readsNode_304 : Dc m6_readsNode 304 (.bipush 29) 2 306 := ⟨by decide +kernel, rfl⟩
theorem d6_readsNode_306 : Div m6_readsNode 306 m6_number 1 309 := ⟨92, by decide +kernel, lk_X6_92, v_6_number, rfl⟩
theorem d6_readsNode_309 : Dc m6_readsNode 309 .iastore 1 310 := ⟨by decide +kernel, rfl⟩
theorem d6_readsNode_310 : Dgo m6_readsNode 310 335 := ⟨25, by decide +kernel, by decide⟩
theorem d6_readsNode_313 : Dal m6_readsNode 313 0 314 := Or.inl ⟨0, by decide +kernel, rfl, rfl⟩
theorem d6_readsNode_314 : Dil m6_readsNode 314 2 315 := Or.inl ⟨2, by decide +kernel, rfl, rfl⟩
theorem d6_readsNode_315 : Div m6_readsNode 315 m6_readsOptions 1 318 := ⟨108, by decide +kernel, lk_X6_108, v_6_readsOptions, rfl⟩
theorem d6_readsNode_318 : Dgo m6_readsNode 318 335 := ⟨17, by decide +kernel, by decide⟩
theorem d6_readsNode_321 : Dal m6_readsNode 321 0 322 := Or.inl ⟨0, by decide +kernel, rfl, rfl⟩
theorem d6_readsNode_322 : Dgf m6_readsNode 322 6 2 325 := ⟨13, by decide +kernel, f_X6_13, rfl⟩
theorem d6_readsNode_325 : Dil m6_readsNode 325 2 326 := Or.inl ⟨2, by decide +kernel, rfl, rfl⟩
theorem d6_readsNode_326 : Dc m6_readsNode 326 (.iconst 1) 1 327 := ⟨by decide +kernel, rfl⟩
theorem d6_readsNode_327 : Dc m6_readsNode 327 .iadd 1 328 := ⟨by decide +kernel, rfl⟩
theorem d6_readsNode_328 : Dal m6_readsNode 328 0 329 := Or.inl ⟨0, by decide +kernel, rfl, rfl⟩
theorem d6_readsNode_329 : Dc m6_readsNode 329 (.bipush 9) 2 331 := ⟨by decide +kernel, rfl⟩
theorem d6_readsNode_331 : Div m6_readsNode 331 m6_digit 1 334 := ⟨96, by decide +kernel, lk_X6_96, v_6_digit, rfl⟩
theorem d6_readsNode_334 : Dc m6_readsNode 334 .iastore 1 335 := ⟨by decide +kernel, rfl⟩
theorem d6_readsNode_335 : Dal m6_readsNode 335 0 336 := Or.inl ⟨0, by decide +kernel, rfl, rfl⟩
theorem d6_readsNode_336 : Dal m6_readsNode 336 0 337 := Or.inl ⟨0, by decide +kernel, rfl, rfl⟩
theorem d6_readsNode_337 : Div m6_readsNode 337 m6_next 0 340 := ⟨70, by decide +kernel, lk_X6_70, v_6_next, rfl⟩
theorem d6_readsNode_340 : Dc m6_readsNode 340 (.bipush 59) 2 342 := ⟨by decide +kernel, rfl⟩
theorem d6_readsNode_342 : Dic m6_readsNode 342 .ne 349 345 := ⟨(7), by decide +kernel, by decide, rfl⟩
theorem d6_readsNode_345 : Dc m6_readsNode 345 (.iconst 1) 1 346 := ⟨by decide +kernel, rfl⟩
theorem d6_readsNode_346 : Dgo m6_readsNode 346 350 := ⟨4, by decide +kernel, by decide⟩
theorem d6_readsNode_349 : Dc m6_readsNode 349 (.iconst 0) 1 350 := ⟨by decide +kernel, rfl⟩
theorem d6_readsNode_350 : Div m6_readsNode 350 m6_take 1 353 := ⟨84, by decide +kernel, lk_X6_84, v_6_take, rfl⟩
theorem d6_readsNode_353 : Dc m6_readsNode 353 .pop 1 354 := ⟨by decide +kernel, rfl⟩
theorem d6_readsNode_354 : Dal m6_readsNode 354 0 355 := Or.inl ⟨0, by decide +kernel, rfl, rfl⟩
theorem d6_readsNode_355 : Dc m6_readsNode 355 .dup 1 356 := ⟨by decide +kernel, rfl⟩
theorem d6_readsNode_356 : Dgf m6_readsNode 356 6 3 359 := ⟨102, by decide +kernel, f_X6_102, rfl⟩
theorem d6_readsNode_359 : Dc m6_readsNode 359 (.iconst 1) 1 360 := ⟨by decide +kernel, rfl⟩
theorem d6_readsNode_360 : Dc m6_readsNode 360 .iadd 1 361 := ⟨by decide +kernel, rfl⟩
theorem d6_readsNode_361 : Dpf m6_readsNode 361 6 3 .int false 364 := ⟨102, by decide +kernel, f_X6_102, p_X6_X6_3, rfl⟩
theorem d6_readsNode_364 : mR m6_readsNode = none ∧ decode (mB m6_readsNode) 364 = .ok (.return_, 1) := ⟨rfl, by decide +kernel⟩
theorem d6_reads_0 : Dal m6_reads 0 0 1 := Or.inl ⟨0, by decide +kernel, rfl, rfl⟩
theorem d6_reads_1 : Dc m6_reads 1 (.iconst 0) 1 2 := ⟨by decide +kernel, rfl⟩
theorem d6_reads_2 : Dpf m6_reads 2 6 13 .int false 5 := ⟨67, by decide +kernel, f_X6_67, p_X6_X6_13, rfl⟩
theorem d6_reads_5 : Dal m6_reads 5 0 6 := Or.inl ⟨0, by decide +kernel, rfl, rfl⟩
theorem d6_reads_6 : Dc m6_reads 6 (.bipush (-11)) 2 8 := ⟨by decide +kernel, rfl⟩
theorem d6_reads_8 : Dpf m6_reads 8 6 14 .int false 11 := ⟨74, by decide +kernel, f_X6_74, p_X6_X6_14, rfl⟩
theorem d6_reads_11 : Dal m6_reads 11 0 12 := Or.inl ⟨0, by decide +kernel, rfl, rfl⟩
theorem d6_reads_12 : Dc m6_reads 12 (.iconst 0) 1 13 := ⟨by decide +kernel, rfl⟩
theorem d6_reads_13 : Dpf m6_reads 13 6 3 .int false 16 := ⟨102, by decide +kernel, f_X6_102, p_X6_X6_3, rfl⟩
theorem d6_reads_16 : Dal m6_reads 16 0 17 := Or.inl ⟨0, by decide +kernel, rfl, rfl⟩
theorem d6_reads_17 : Div m6_reads 17 m6_blanks 0 20 := ⟨77, by decide +kernel, lk_X6_77, v_6_blanks, rfl⟩
theorem d6_reads_20 : Dal m6_reads 20 0 21 := Or.inl ⟨0, by decide +kernel, rfl, rfl⟩
theorem d6_reads_21 : Dgf m6_reads 21 6 14 24 := ⟨74, by decide +kernel, f_X6_74, rfl⟩
theorem d6_reads_24 : Dc m6_reads 24 (.bipush (-11)) 2 26 := ⟨by decide +kernel, rfl⟩
theorem d6_reads_26 : Dic m6_reads 26 .ne 47 29 := ⟨(21), by decide +kernel, by decide, rfl⟩
theorem d6_reads_29 : Dal m6_reads 29 0 30 := Or.inl ⟨0, by decide +kernel, rfl, rfl⟩
theorem d6_reads_30 : Dgf m6_reads 30 6 13 33 := ⟨67, by decide +kernel, f_X6_67, rfl⟩
theorem d6_reads_33 : Dal m6_reads 33 0 34 := Or.inl ⟨0, by decide +kernel, rfl, rfl⟩
theorem d6_reads_34 : Dgf m6_reads 34 6 12 37 := ⟨63, by decide +kernel, f_X6_63, rfl⟩
theorem d6_reads_37 : Dic m6_reads 37 .ge 47 40 := ⟨(10), by decide +kernel, by decide, rfl⟩
theorem d6_reads_40 : Dal m6_reads 40 0 41 := Or.inl ⟨0, by decide +kernel, rfl, rfl⟩
theorem d6_reads_41 : Div m6_reads 41 m6_readsNode 0 44 := ⟨111, by decide +kernel, lk_X6_111, v_6_readsNode, rfl⟩
theorem d6_reads_44 : Dgo m6_reads 44 20 := ⟨(-24), by decide +kernel, by decide⟩
theorem d6_reads_47 : mR m6_reads = none ∧ decode (mB m6_reads) 47 = .ok (.return_, 1) := ⟨rfl, by decide +kernel⟩
theorem d6_fault_0 : Dal m6_fault 0 0 1 := Or.inl ⟨0, by decide +kernel, rfl, rfl⟩
theorem d6_fault_1 : Div m6_fault 1 m6_reads 0 4 := ⟨114, by decide +kernel, lk_X6_114, v_6_reads, rfl⟩
theorem d6_fault_4 : Dal m6_fault 4 0 5 := Or.inl ⟨0, by decide +kernel, rfl, rfl⟩
theorem d6_fault_5 : Dgf m6_fault 5 6 14 8 := ⟨74, by decide +kernel, f_X6_74, rfl⟩
theorem d6_fault_8 : mR m6_fault = some .int ∧ decode (mB m6_fault) 8 = .ok (.ireturn, 1) := ⟨rfl, by decide +kernel⟩
theorem d6_of_0 : Dal m6_of 0 0 1 := Or.inl ⟨0, by decide +kernel, rfl, rfl⟩
theorem d6_of_1 : Dgf m6_of 1 6 0 4 := ⟨7, by decide +kernel, f_X6_7, rfl⟩
theorem d6_of_4 : Dc m6_of 4 (.bipush 12) 2 6 := ⟨by decide +kernel, rfl⟩
theorem d6_of_6 : Dil m6_of 6 1 7 := Or.inl ⟨1, by decide +kernel, rfl, rfl⟩
theorem d6_of_7 : Dc m6_of 7 .imul 1 8 := ⟨by decide +kernel, rfl⟩
theorem d6_of_8 : Dil m6_of 8 2 9 := Or.inl ⟨2, by decide +kernel, rfl, rfl⟩
theorem d6_of_9 : Dc m6_of 9 .iadd 1 10 := ⟨by decide +kernel, rfl⟩
theorem d6_of_10 : Dc m6_of 10 .iaload 1 11 := ⟨by decide +kernel, rfl⟩
theorem d6_of_11 : mR m6_of = some .int ∧ decode (mB m6_of) 11 = .ok (.ireturn, 1) := ⟨rfl, by decide +kernel⟩
theorem d6_shownKind_0 : Dil m6_shownKind 0 1 1 := Or.inl ⟨1, by decide +kernel, rfl, rfl⟩
theorem d6_shownKind_1 : Dal m6_shownKind 1 0 2 := Or.inl ⟨0, by decide +kernel, rfl, rfl⟩
theorem d6_shownKind_2 : Dgf m6_shownKind 2 6 1 5 := ⟨116, by decide +kernel, f_X6_116, rfl⟩
theorem d6_shownKind_5 : Dic m6_shownKind 5 .lt 10 8 := ⟨(5), by decide +kernel, by decide, rfl⟩
theorem d6_shownKind_8 : Dc m6_shownKind 8 (.iconst 2) 1 9 := ⟨by decide +kernel, rfl⟩
theorem d6_shownKind_9 : mR m6_shownKind = some .int ∧ decode (mB m6_shownKind) 9 = .ok (.ireturn, 1) := ⟨rfl, by decide +kernel⟩
theorem d6_shownKind_10 : Dal m6_shownKind 10 0 11 := Or.inl ⟨0, by decide +kernel, rfl, rfl⟩
theorem d6_shownKind_11 : Dil m6_shownKind 11 1 12 := Or.inl ⟨1, by decide +kernel, rfl, rfl⟩
theorem d6_shownKind_12 : Dc m6_shownKind 12 (.iconst 0) 1 13 := ⟨by decide +kernel, rfl⟩
theorem d6_shownKind_13 : Div m6_shownKind 13 m6_of 2 16 := ⟨119, by decide +kernel, lk_X6_119, v_6_of, rfl⟩
theorem d6_shownKind_16 : Dis m6_shownKind 16 2 17 := Or.inl ⟨2, by decide +kernel, rfl, rfl⟩
theorem d6_shownKind_17 : Dil m6_shownKind 17 2 18 := Or.inl ⟨2, by decide +kernel, rfl, rfl⟩
theorem d6_shownKind_18 : Dif m6_shownKind 18 .ne 25 21 := ⟨(7), by decide +kernel, by decide, rfl⟩
theorem d6_shownKind_21 : Dc m6_shownKind 21 (.iconst 0) 1 22 := ⟨by decide +kernel, rfl⟩
theorem d6_shownKind_22 : Dgo m6_shownKind 22 47 := ⟨25, by decide +kernel, by decide⟩
theorem d6_shownKind_25 : Dil m6_shownKind 25 2 26 := Or.inl ⟨2, by decide +kernel, rfl, rfl⟩
theorem d6_shownKind_26 : Dc m6_shownKind 26 (.bipush 6) 2 28 := ⟨by decide +kernel, rfl⟩
theorem d6_shownKind_28 : Dic m6_shownKind 28 .ne 35 31 := ⟨(7), by decide +kernel, by decide, rfl⟩
theorem d6_shownKind_31 : Dc m6_shownKind 31 (.iconst 1) 1 32 := ⟨by decide +kernel, rfl⟩
theorem d6_shownKind_32 : Dgo m6_shownKind 32 47 := ⟨15, by decide +kernel, by decide⟩
theorem d6_shownKind_35 : Dil m6_shownKind 35 2 36 := Or.inl ⟨2, by decide +kernel, rfl, rfl⟩
theorem d6_shownKind_36 : Dc m6_shownKind 36 (.bipush 7) 2 38 := ⟨by decide +kernel, rfl⟩
theorem d6_shownKind_38 : Dic m6_shownKind 38 .ne 45 41 := ⟨(7), by decide +kernel, by decide, rfl⟩
theorem d6_shownKind_41 : Dc m6_shownKind 41 (.iconst 2) 1 42 := ⟨by decide +kernel, rfl⟩
theorem d6_shownKind_42 : Dgo m6_shownKind 42 47 := ⟨5, by decide +kernel, by decide⟩
theorem d6_shownKind_45 : Dc m6_shownKind 45 (.bipush (-11)) 2 47 := ⟨by decide +kernel, rfl⟩
theorem d6_shownKind_47 : mR m6_shownKind = some .int ∧ decode (mB m6_shownKind) 47 = .ok (.ireturn, 1) := ⟨rfl, by decide +kernel⟩
theorem d6_endOf_0 : Dil m6_endOf 0 1 1 := Or.inl ⟨1, by decide +kernel, rfl, rfl⟩
theorem d6_endOf_1 : Dc m6_endOf 1 (.bipush 30) 2 3 := ⟨by decide +kernel, rfl⟩
theorem d6_endOf_3 : Dic m6_endOf 3 .ne 11 6 := ⟨(8), by decide +kernel, by decide, rfl⟩
theorem d6_endOf_6 : Dc m6_endOf 6 (.bipush (-3)) 2 8 := ⟨by decide +kernel, rfl⟩
theorem d6_endOf_8 : Dgo m6_endOf 8 30 := ⟨22, by decide +kernel, by decide⟩
theorem d6_endOf_11 : Dil m6_endOf 11 1 12 := Or.inl ⟨1, by decide +kernel, rfl, rfl⟩
theorem d6_endOf_12 : Dal m6_endOf 12 0 13 := Or.inl ⟨0, by decide +kernel, rfl, rfl⟩
theorem d6_endOf_13 : Dgf m6_endOf 13 6 1 16 := ⟨116, by decide +kernel, f_X6_116, rfl⟩
theorem d6_endOf_16 : Dic m6_endOf 16 .lt 24 19 := ⟨(8), by decide +kernel, by decide, rfl⟩
theorem d6_endOf_19 : Dc m6_endOf 19 (.bipush (-2)) 2 21 := ⟨by decide +kernel, rfl⟩
theorem d6_endOf_21 : Dgo m6_endOf 21 30 := ⟨9, by decide +kernel, by decide⟩
theorem d6_endOf_24 : Dal m6_endOf 24 0 25 := Or.inl ⟨0, by decide +kernel, rfl, rfl⟩
theorem d6_endOf_25 : Dil m6_endOf 25 1 26 := Or.inl ⟨1, by decide +kernel, rfl, rfl⟩
theorem d6_endOf_26 : Dc m6_endOf 26 (.iconst 1) 1 27 := ⟨by decide +kernel, rfl⟩
theorem d6_endOf_27 : Div m6_endOf 27 m6_of 2 30 := ⟨119, by decide +kernel, lk_X6_119, v_6_of, rfl⟩
theorem d6_endOf_30 : mR m6_endOf = some .int ∧ decode (mB m6_endOf) 30 = .ok (.ireturn, 1) := ⟨rfl, by decide +kernel⟩
theorem d6_leaves_0 : Dc m6_leaves 0 (.iconst 0) 1 1 := ⟨by decide +kernel, rfl⟩
theorem d6_leaves_1 : Dis m6_leaves 1 2 2 := Or.inl ⟨2, by decide +kernel, rfl, rfl⟩
theorem d6_leaves_2 : Dil m6_leaves 2 2 3 := Or.inl ⟨2, by decide +kernel, rfl, rfl⟩
theorem d6_leaves_3 : Dc m6_leaves 3 (.iconst 3) 1 4 := ⟨by decide +kernel, rfl⟩
theorem d6_leaves_4 : Dic m6_leaves 4 .ge 40 7 := ⟨(36), by decide +kernel, by decide, rfl⟩
theorem d6_leaves_7 : Dal m6_leaves 7 0 8 := Or.inl ⟨0, by decide +kernel, rfl, rfl⟩
theorem d6_leaves_8 : Dgf m6_leaves 8 6 16 11 := ⟨29, by decide +kernel, f_X6_29, rfl⟩
theorem d6_leaves_11 : Dil m6_leaves 11 2 12 := Or.inl ⟨2, by decide +kernel, rfl, rfl⟩
theorem d6_leaves_12 : Dal m6_leaves 12 0 13 := Or.inl ⟨0, by decide +kernel, rfl, rfl⟩
theorem d6_leaves_13 : Dgf m6_leaves 13 6 16 16 := ⟨29, by decide +kernel, f_X6_29, rfl⟩
theorem d6_leaves_16 : Dil m6_leaves 16 2 17 := Or.inl ⟨2, by decide +kernel, rfl, rfl⟩
theorem d6_leaves_17 : Dc m6_leaves 17 .iaload 1 18 := ⟨by decide +kernel, rfl⟩
theorem d6_leaves_18 : Dil m6_leaves 18 1 19 := Or.inl ⟨1, by decide +kernel, rfl, rfl⟩
theorem d6_leaves_19 : Dic m6_leaves 19 .ne 27 22 := ⟨(8), by decide +kernel, by decide, rfl⟩
theorem d6_leaves_22 : Dc m6_leaves 22 (.bipush (-11)) 2 24 := ⟨by decide +kernel, rfl⟩
theorem d6_leaves_24 : Dgo m6_leaves 24 33 := ⟨9, by decide +kernel, by decide⟩
theorem d6_leaves_27 : Dal m6_leaves 27 0 28 := Or.inl ⟨0, by decide +kernel, rfl, rfl⟩
theorem d6_leaves_28 : Dgf m6_leaves 28 6 16 31 := ⟨29, by decide +kernel, f_X6_29, rfl⟩
theorem d6_leaves_31 : Dil m6_leaves 31 2 32 := Or.inl ⟨2, by decide +kernel, rfl, rfl⟩
theorem d6_leaves_32 : Dc m6_leaves 32 .iaload 1 33 := ⟨by decide +kernel, rfl⟩
theorem d6_leaves_33 : Dc m6_leaves 33 .iastore 1 34 := ⟨by decide +kernel, rfl⟩
theorem d6_leaves_34 : Dc m6_leaves 34 (.iinc 2 1) 3 37 := ⟨by decide +kernel, rfl⟩
theorem d6_leaves_37 : Dgo m6_leaves 37 2 := ⟨(-35), by decide +kernel, by decide⟩
theorem d6_leaves_40 : mR m6_leaves = none ∧ decode (mB m6_leaves) 40 = .ok (.return_, 1) := ⟨rfl, by decide +kernel⟩
theorem d6_does_0 : Dal m6_does 0 0 1 := Or.inl ⟨0, by decide +kernel, rfl, rfl⟩
theorem d6_does_1 : Dil m6_does 1 1 2 := Or.inl ⟨1, by decide +kernel, rfl, rfl⟩
theorem d6_does_2 : Dc m6_does 2 (.iconst 1) 1 3 := ⟨by decide +kernel, rfl⟩
theorem d6_does_3 : Div m6_does 3 m6_of 2 6 := ⟨119, by decide +kernel, lk_X6_119, v_6_of, rfl⟩
theorem d6_does_6 : Dis m6_does 6 2 7 := Or.inl ⟨2, by decide +kernel, rfl, rfl⟩
theorem d6_does_7 : Dal m6_does 7 0 8 := Or.inl ⟨0, by decide +kernel, rfl, rfl⟩
theorem d6_does_8 : Dil m6_does 8 1 9 := Or.inl ⟨1, by decide +kernel, rfl, rfl⟩
theorem d6_does_9 : Dc m6_does 9 (.iconst 2) 1 10 := ⟨by decide +kernel, rfl⟩
theorem d6_does_10 : Div m6_does 10 m6_of 2 13 := ⟨119, by decide +kernel, lk_X6_119, v_6_of, rfl⟩
theorem d6_does_13 : Dis m6_does 13 3 14 := Or.inl ⟨3, by decide +kernel, rfl, rfl⟩
theorem d6_does_14 : Dal m6_does 14 0 15 := Or.inl ⟨0, by decide +kernel, rfl, rfl⟩
theorem d6_does_15 : Dil m6_does 15 1 16 := Or.inl ⟨1, by decide +kernel, rfl, rfl⟩
theorem d6_does_16 : Dc m6_does 16 (.iconst 0) 1 17 := ⟨by decide +kernel, rfl⟩
theorem d6_does_17 : Div m6_does 17 m6_of 2 20 := ⟨119, by decide +kernel, lk_X6_119, v_6_of, rfl⟩
theorem d6_does_20 : Dts m6_does 20 1 [52, 80, 89, 123] 125 := ⟨105, 4, #[32, 60, 69, 103], 32, by decide +kernel, by decide, by decide, rfl, by decide⟩
theorem d6_does_52 : Dal m6_does 52 0 53 := Or.inl ⟨0, by decide +kernel, rfl, rfl⟩
theorem d6_does_53 : Dil m6_does 53 2 54 := Or.inl ⟨2, by decide +kernel, rfl, rfl⟩
theorem d6_does_54 : Div m6_does 54 m6_leaves 1 57 := ⟨123, by decide +kernel, lk_X6_123, v_6_leaves, rfl⟩
theorem d6_does_57 : Dal m6_does 57 0 58 := Or.inl ⟨0, by decide +kernel, rfl, rfl⟩
theorem d6_does_58 : Dgf m6_does 58 6 16 61 := ⟨29, by decide +kernel, f_X6_29, rfl⟩
theorem d6_does_61 : Dil m6_does 61 3 62 := Or.inl ⟨3, by decide +kernel, rfl, rfl⟩
theorem d6_does_62 : Dil m6_does 62 2 63 := Or.inl ⟨2, by decide +kernel, rfl, rfl⟩
theorem d6_does_63 : Dc m6_does 63 .iastore 1 64 := ⟨by decide +kernel, rfl⟩
theorem d6_does_64 : Dal m6_does 64 0 65 := Or.inl ⟨0, by decide +kernel, rfl, rfl⟩
theorem d6_does_65 : Dgf m6_does 65 6 17 68 := ⟨32, by decide +kernel, f_X6_32, rfl⟩
theorem d6_does_68 : Dil m6_does 68 3 69 := Or.inl ⟨3, by decide +kernel, rfl, rfl⟩
theorem d6_does_69 : Dal m6_does 69 0 70 := Or.inl ⟨0, by decide +kernel, rfl, rfl⟩
theorem d6_does_70 : Dil m6_does 70 1 71 := Or.inl ⟨1, by decide +kernel, rfl, rfl⟩
theorem d6_does_71 : Dc m6_does 71 (.iconst 3) 1 72 := ⟨by decide +kernel, rfl⟩
theorem d6_does_72 : Div m6_does 72 m6_of 2 75 := ⟨119, by decide +kernel, lk_X6_119, v_6_of, rfl⟩
theorem d6_does_75 : Dc m6_does 75 .iastore 1 76 := ⟨by decide +kernel, rfl⟩
theorem d6_does_76 : Dil m6_does 76 1 77 := Or.inl ⟨1, by decide +kernel, rfl, rfl⟩
theorem d6_does_77 : Dc m6_does 77 (.iconst 1) 1 78 := ⟨by decide +kernel, rfl⟩
theorem d6_does_78 : Dc m6_does 78 .iadd 1 79 := ⟨by decide +kernel, rfl⟩
theorem d6_does_79 : mR m6_does = some .int ∧ decode (mB m6_does) 79 = .ok (.ireturn, 1) := ⟨rfl, by decide +kernel⟩
theorem d6_does_80 : Dal m6_does 80 0 81 := Or.inl ⟨0, by decide +kernel, rfl, rfl⟩
theorem d6_does_81 : Dil m6_does 81 2 82 := Or.inl ⟨2, by decide +kernel, rfl, rfl⟩
theorem d6_does_82 : Div m6_does 82 m6_leaves 1 85 := ⟨123, by decide +kernel, lk_X6_123, v_6_leaves, rfl⟩
theorem d6_does_85 : Dil m6_does 85 1 86 := Or.inl ⟨1, by decide +kernel, rfl, rfl⟩
theorem d6_does_86 : Dc m6_does 86 (.iconst 1) 1 87 := ⟨by decide +kernel, rfl⟩
theorem d6_does_87 : Dc m6_does 87 .iadd 1 88 := ⟨by decide +kernel, rfl⟩
theorem d6_does_88 : mR m6_does = some .int ∧ decode (mB m6_does) 88 = .ok (.ireturn, 1) := ⟨rfl, by decide +kernel⟩
theorem d6_does_89 : Dal m6_does 89 0 90 := Or.inl ⟨0, by decide +kernel, rfl, rfl⟩
theorem d6_does_90 : Dil m6_does 90 3 91 := Or.inl ⟨3, by decide +kernel, rfl, rfl⟩
theorem d6_does_91 : Dc m6_does 91 (.iconst 1) 1 92 := ⟨by decide +kernel, rfl⟩
theorem d6_does_92 : Dic m6_does 92 .ne 106 95 := ⟨(14), by decide +kernel, by decide, rfl⟩
theorem d6_does_95 : Dal m6_does 95 0 96 := Or.inl ⟨0, by decide +kernel, rfl, rfl⟩
theorem d6_does_96 : Dgf m6_does 96 6 15 99 := ⟨126, by decide +kernel, f_X6_126, rfl⟩
theorem d6_does_99 : Dc m6_does 99 (.iconst 1) 1 100 := ⟨by decide +kernel, rfl⟩
theorem d6_does_100 : Dil m6_does 100 2 101 := Or.inl ⟨2, by decide +kernel, rfl, rfl⟩
theorem d6_does_101 : Dc m6_does 101 .ishl 1 102 := ⟨by decide +kernel, rfl⟩
theorem d6_does_102 : Dc m6_does 102 .ior 1 103 := ⟨by decide +kernel, rfl⟩
theorem d6_does_103 : Dgo m6_does 103 116 := ⟨13, by decide +kernel, by decide⟩
theorem d6_does_106 : Dal m6_does 106 0 107 := Or.inl ⟨0, by decide +kernel, rfl, rfl⟩
theorem d6_does_107 : Dgf m6_does 107 6 15 110 := ⟨126, by decide +kernel, f_X6_126, rfl⟩
theorem d6_does_110 : Dc m6_does 110 (.iconst 1) 1 111 := ⟨by decide +kernel, rfl⟩
theorem d6_does_111 : Dil m6_does 111 2 112 := Or.inl ⟨2, by decide +kernel, rfl, rfl⟩
theorem d6_does_112 : Dc m6_does 112 .ishl 1 113 := ⟨by decide +kernel, rfl⟩
theorem d6_does_113 : Dc m6_does 113 (.iconst (-1)) 1 114 := ⟨by decide +kernel, rfl⟩
theorem d6_does_114 : Dc m6_does 114 .ixor 1 115 := ⟨by decide +kernel, rfl⟩
theorem d6_does_115 : Dc m6_does 115 .iand 1 116 := ⟨by decide +kernel, rfl⟩
theorem d6_does_116 : Dpf m6_does 116 6 15 .int false 119 := ⟨126, by decide +kernel, f_X6_126, p_X6_X6_15, rfl⟩
theorem d6_does_119 : Dil m6_does 119 1 120 := Or.inl ⟨1, by decide +kernel, rfl, rfl⟩
theorem d6_does_120 : Dc m6_does 120 (.iconst 1) 1 121 := ⟨by decide +kernel, rfl⟩
theorem d6_does_121 : Dc m6_does 121 .iadd 1 122 := ⟨by decide +kernel, rfl⟩
theorem d6_does_122 : mR m6_does = some .int ∧ decode (mB m6_does) 122 = .ok (.ireturn, 1) := ⟨rfl, by decide +kernel⟩
theorem d6_does_123 : Dil m6_does 123 2 124 := Or.inl ⟨2, by decide +kernel, rfl, rfl⟩
theorem d6_does_124 : mR m6_does = some .int ∧ decode (mB m6_does) 124 = .ok (.ireturn, 1) := ⟨rfl, by decide +kernel⟩
theorem d6_does_125 : Dal m6_does 125 0 126 := Or.inl ⟨0, by decide +kernel, rfl, rfl⟩
theorem d6_does_126 : Dgf m6_does 126 6 15 129 := ⟨126, by decide +kernel, f_X6_126, rfl⟩
theorem d6_does_129 : Dil m6_does 129 2 130 := Or.inl ⟨2, by decide +kernel, rfl, rfl⟩
theorem d6_does_130 : Dc m6_does 130 .ishr 1 131 := ⟨by decide +kernel, rfl⟩
theorem d6_does_131 : Dc m6_does 131 (.iconst 1) 1 132 := ⟨by decide +kernel, rfl⟩
theorem d6_does_132 : Dc m6_does 132 .iand 1 133 := ⟨by decide +kernel, rfl⟩
theorem d6_does_133 : Dc m6_does 133 (.iconst 1) 1 134 := ⟨by decide +kernel, rfl⟩
theorem d6_does_134 : Dic m6_does 134 .ne 141 137 := ⟨(7), by decide +kernel, by decide, rfl⟩
theorem d6_does_137 : Dil m6_does 137 3 138 := Or.inl ⟨3, by decide +kernel, rfl, rfl⟩
theorem d6_does_138 : Dgo m6_does 138 144 := ⟨6, by decide +kernel, by decide⟩
theorem d6_does_141 : Dil m6_does 141 1 142 := Or.inl ⟨1, by decide +kernel, rfl, rfl⟩
theorem d6_does_142 : Dc m6_does 142 (.iconst 1) 1 143 := ⟨by decide +kernel, rfl⟩
theorem d6_does_143 : Dc m6_does 143 .iadd 1 144 := ⟨by decide +kernel, rfl⟩
theorem d6_does_144 : mR m6_does = some .int ∧ decode (mB m6_does) 144 = .ok (.ireturn, 1) := ⟨rfl, by decide +kernel⟩
theorem d6_carries_0 : Dil m6_carries 0 1 1 := Or.inl ⟨1, by decide +kernel, rfl, rfl⟩
theorem d6_carries_1 : Dis m6_carries 1 2 2 := Or.inl ⟨2, by decide +kernel, rfl, rfl⟩
theorem d6_carries_2 : Dc m6_carries 2 (.iconst 0) 1 3 := ⟨by decide +kernel, rfl⟩
theorem d6_carries_3 : Dis m6_carries 3 3 4 := Or.inl ⟨3, by decide +kernel, rfl, rfl⟩
theorem d6_carries_4 : Dil m6_carries 4 3 5 := Or.inl ⟨3, by decide +kernel, rfl, rfl⟩
theorem d6_carries_5 : Dc m6_carries 5 (.bipush 60) 2 7 := ⟨by decide +kernel, rfl⟩
theorem d6_carries_7 : Dic m6_carries 7 .ge 32 10 := ⟨(25), by decide +kernel, by decide, rfl⟩
theorem d6_carries_10 : Dal m6_carries 10 0 11 := Or.inl ⟨0, by decide +kernel, rfl, rfl⟩
theorem d6_carries_11 : Dil m6_carries 11 2 12 := Or.inl ⟨2, by decide +kernel, rfl, rfl⟩
theorem d6_carries_12 : Div m6_carries 12 m6_shownKind 1 15 := ⟨129, by decide +kernel, lk_X6_129, v_6_shownKind, rfl⟩
theorem d6_carries_15 : Dc m6_carries 15 (.bipush (-11)) 2 17 := ⟨by decide +kernel, rfl⟩
theorem d6_carries_17 : Dic m6_carries 17 .ne 32 20 := ⟨(15), by decide +kernel, by decide, rfl⟩
theorem d6_carries_20 : Dal m6_carries 20 0 21 := Or.inl ⟨0, by decide +kernel, rfl, rfl⟩
theorem d6_carries_21 : Dil m6_carries 21 2 22 := Or.inl ⟨2, by decide +kernel, rfl, rfl⟩
theorem d6_carries_22 : Div m6_carries 22 m6_does 1 25 := ⟨132, by decide +kernel, lk_X6_132, v_6_does, rfl⟩
theorem d6_carries_25 : Dis m6_carries 25 2 26 := Or.inl ⟨2, by decide +kernel, rfl, rfl⟩
theorem d6_carries_26 : Dc m6_carries 26 (.iinc 3 1) 3 29 := ⟨by decide +kernel, rfl⟩
theorem d6_carries_29 : Dgo m6_carries 29 4 := ⟨(-25), by decide +kernel, by decide⟩
theorem d6_carries_32 : Dal m6_carries 32 0 33 := Or.inl ⟨0, by decide +kernel, rfl, rfl⟩
theorem d6_carries_33 : Dil m6_carries 33 2 34 := Or.inl ⟨2, by decide +kernel, rfl, rfl⟩
theorem d6_carries_34 : Div m6_carries 34 m6_shownKind 1 37 := ⟨129, by decide +kernel, lk_X6_129, v_6_shownKind, rfl⟩
theorem d6_carries_37 : Dc m6_carries 37 (.bipush (-11)) 2 39 := ⟨by decide +kernel, rfl⟩
theorem d6_carries_39 : Dic m6_carries 39 .ne 47 42 := ⟨(8), by decide +kernel, by decide, rfl⟩
theorem d6_carries_42 : Dc m6_carries 42 (.bipush 30) 2 44 := ⟨by decide +kernel, rfl⟩
theorem d6_carries_44 : Dgo m6_carries 44 48 := ⟨4, by decide +kernel, by decide⟩
theorem d6_carries_47 : Dil m6_carries 47 2 48 := Or.inl ⟨2, by decide +kernel, rfl, rfl⟩
theorem d6_carries_48 : mR m6_carries = some .int ∧ decode (mB m6_carries) 48 = .ok (.ireturn, 1) := ⟨rfl, by decide +kernel⟩
theorem d6_isLocked_0 : Dal m6_isLocked 0 0 1 := Or.inl ⟨0, by decide +kernel, rfl, rfl⟩
theorem d6_isLocked_1 : Dil m6_isLocked 1 1 2 := Or.inl ⟨1, by decide +kernel, rfl, rfl⟩
theorem d6_isLocked_2 : Dc m6_isLocked 2 (.iconst 4) 1 3 := ⟨by decide +kernel, rfl⟩
theorem d6_isLocked_3 : Dc m6_isLocked 3 (.iconst 2) 1 4 := ⟨by decide +kernel, rfl⟩
theorem d6_isLocked_4 : Dil m6_isLocked 4 2 5 := Or.inl ⟨2, by decide +kernel, rfl, rfl⟩
theorem d6_isLocked_5 : Dc m6_isLocked 5 .imul 1 6 := ⟨by decide +kernel, rfl⟩
theorem d6_isLocked_6 : Dc m6_isLocked 6 .iadd 1 7 := ⟨by decide +kernel, rfl⟩
theorem d6_isLocked_7 : Dc m6_isLocked 7 (.iconst 1) 1 8 := ⟨by decide +kernel, rfl⟩
theorem d6_isLocked_8 : Dc m6_isLocked 8 .iadd 1 9 := ⟨by decide +kernel, rfl⟩
theorem d6_isLocked_9 : Div m6_isLocked 9 m6_of 2 12 := ⟨119, by decide +kernel, lk_X6_119, v_6_of, rfl⟩
theorem d6_isLocked_12 : Dis m6_isLocked 12 4 14 := Or.inr ⟨by decide +kernel, rfl⟩
theorem d6_isLocked_14 : Dil m6_isLocked 14 4 16 := Or.inr ⟨by decide +kernel, rfl⟩
theorem d6_isLocked_16 : Dif m6_isLocked 16 .ne 21 19 := ⟨(5), by decide +kernel, by decide, rfl⟩
theorem d6_isLocked_19 : Dc m6_isLocked 19 (.iconst 0) 1 20 := ⟨by decide +kernel, rfl⟩
theorem d6_isLocked_20 : mR m6_isLocked = some .boolean ∧ decode (mB m6_isLocked) 20 = .ok (.ireturn, 1) := ⟨rfl, by decide +kernel⟩
theorem d6_isLocked_21 : Dil m6_isLocked 21 3 22 := Or.inl ⟨3, by decide +kernel, rfl, rfl⟩
theorem d6_isLocked_22 : Dil m6_isLocked 22 4 24 := Or.inr ⟨by decide +kernel, rfl⟩
theorem d6_isLocked_24 : Dc m6_isLocked 24 (.iconst 1) 1 25 := ⟨by decide +kernel, rfl⟩
theorem d6_isLocked_25 : Dc m6_isLocked 25 .isub 1 26 := ⟨by decide +kernel, rfl⟩
theorem d6_isLocked_26 : Dc m6_isLocked 26 (.iconst 2) 1 27 := ⟨by decide +kernel, rfl⟩
theorem d6_isLocked_27 : Dc m6_isLocked 27 .idiv 1 28 := ⟨by decide +kernel, rfl⟩
theorem d6_isLocked_28 : Dc m6_isLocked 28 .ishr 1 29 := ⟨by decide +kernel, rfl⟩
theorem d6_isLocked_29 : Dc m6_isLocked 29 (.iconst 1) 1 30 := ⟨by decide +kernel, rfl⟩
theorem d6_isLocked_30 : Dc m6_isLocked 30 .iand 1 31 := ⟨by decide +kernel, rfl⟩
theorem d6_isLocked_31 : Dc m6_isLocked 31 (.iconst 1) 1 32 := ⟨by decide +kernel, rfl⟩
theorem d6_isLocked_32 : Dic m6_isLocked 32 .ne 39 35 := ⟨(7), by decide +kernel, by decide, rfl⟩
theorem d6_isLocked_35 : Dc m6_isLocked 35 (.iconst 1) 1 36 := ⟨by decide +kernel, rfl⟩
theorem d6_isLocked_36 : Dgo m6_isLocked 36 40 := ⟨4, by decide +kernel, by decide⟩
theorem d6_isLocked_39 : Dc m6_isLocked 39 (.iconst 0) 1 40 := ⟨by decide +kernel, rfl⟩
theorem d6_isLocked_40 : Dis m6_isLocked 40 5 42 := Or.inr ⟨by decide +kernel, rfl⟩
theorem d6_isLocked_42 : Dil m6_isLocked 42 4 44 := Or.inr ⟨by decide +kernel, rfl⟩
theorem d6_isLocked_44 : Dc m6_isLocked 44 (.iconst 2) 1 45 := ⟨by decide +kernel, rfl⟩
end
section
/-! ===== decode rows of X6 ===== -/
theorem d6_isLocked_45 : Dc m6_isLocked 45 .irem 1 46 := ⟨by decide +kernel, rfl⟩
theorem d6_isLocked_46 : Dc m6_isLocked 46 (.iconst 1) 1 47 := ⟨by decide +kernel, rfl⟩
theorem d6_isLocked_47 : Dic m6_isLocked 47 .ne 63 50 := ⟨(16), by decide +kernel, by decide, rfl⟩
theorem d6_isLocked_50 : Dil m6_isLocked 50 5 52 := Or.inr ⟨by decide +kernel, rfl⟩
theorem d6_isLocked_52 : Dif m6_isLocked 52 .ne 59 55 := ⟨(7), by decide +kernel, by decide, rfl⟩
theorem d6_isLocked_55 : Dc m6_isLocked 55 (.iconst 1) 1 56 := ⟨by decide +kernel, rfl⟩
theorem d6_isLocked_56 : Dgo m6_isLocked 56 65 := ⟨9, by decide +kernel, by decide⟩
theorem d6_isLocked_59 : Dc m6_isLocked 59 (.iconst 0) 1 60 := ⟨by decide +kernel, rfl⟩
theorem d6_isLocked_60 : Dgo m6_isLocked 60 65 := ⟨5, by decide +kernel, by decide⟩
theorem d6_isLocked_63 : Dil m6_isLocked 63 5 65 := Or.inr ⟨by decide +kernel, rfl⟩
theorem d6_isLocked_65 : mR m6_isLocked = some .boolean ∧ decode (mB m6_isLocked) 65 = .ok (.ireturn, 1) := ⟨rfl, by decide +kernel⟩
theorem d6_placeOf_0 : Dc m6_placeOf 0 (.bipush 8) 2 2 := ⟨by decide +kernel, rfl⟩
theorem d6_placeOf_2 : Dal m6_placeOf 2 0 3 := Or.inl ⟨0, by decide +kernel, rfl, rfl⟩
theorem d6_placeOf_3 : Dgf m6_placeOf 3 6 5 6 := ⟨135, by decide +kernel, f_X6_135, rfl⟩
theorem d6_placeOf_6 : Dil m6_placeOf 6 1 7 := Or.inl ⟨1, by decide +kernel, rfl, rfl⟩
theorem d6_placeOf_7 : Dc m6_placeOf 7 .iadd 1 8 := ⟨by decide +kernel, rfl⟩
theorem d6_placeOf_8 : Dc m6_placeOf 8 (.bipush 20) 2 10 := ⟨by decide +kernel, rfl⟩
theorem d6_placeOf_10 : Dc m6_placeOf 10 .irem 1 11 := ⟨by decide +kernel, rfl⟩
theorem d6_placeOf_11 : Dc m6_placeOf 11 .imul 1 12 := ⟨by decide +kernel, rfl⟩
theorem d6_placeOf_12 : mR m6_placeOf = some .int ∧ decode (mB m6_placeOf) 12 = .ok (.ireturn, 1) := ⟨rfl, by decide +kernel⟩
theorem d6_present_0 : Dal m6_present 0 0 1 := Or.inl ⟨0, by decide +kernel, rfl, rfl⟩
theorem d6_present_1 : Dgf m6_present 1 6 4 4 := ⟨16, by decide +kernel, f_X6_16, rfl⟩
theorem d6_present_4 : Dal m6_present 4 0 5 := Or.inl ⟨0, by decide +kernel, rfl, rfl⟩
theorem d6_present_5 : Dal m6_present 5 0 6 := Or.inl ⟨0, by decide +kernel, rfl, rfl⟩
theorem d6_present_6 : Dgf m6_present 6 6 6 9 := ⟨138, by decide +kernel, f_X6_138, rfl⟩
theorem d6_present_9 : Dc m6_present 9 (.iconst 1) 1 10 := ⟨by decide +kernel, rfl⟩
theorem d6_present_10 : Dc m6_present 10 .isub 1 11 := ⟨by decide +kernel, rfl⟩
theorem d6_present_11 : Div m6_present 11 m6_placeOf 1 14 := ⟨141, by decide +kernel, lk_X6_141, v_6_placeOf, rfl⟩
theorem d6_present_14 : Dil m6_present 14 1 15 := Or.inl ⟨1, by decide +kernel, rfl, rfl⟩
theorem d6_present_15 : Dc m6_present 15 .iadd 1 16 := ⟨by decide +kernel, rfl⟩
theorem d6_present_16 : Dc m6_present 16 .iaload 1 17 := ⟨by decide +kernel, rfl⟩
theorem d6_present_17 : mR m6_present = some .int ∧ decode (mB m6_present) 17 = .ok (.ireturn, 1) := ⟨rfl, by decide +kernel⟩
theorem d6_puts_0 : Dal m6_puts 0 0 1 := Or.inl ⟨0, by decide +kernel, rfl, rfl⟩
theorem d6_puts_1 : Dal m6_puts 1 0 2 := Or.inl ⟨0, by decide +kernel, rfl, rfl⟩
theorem d6_puts_2 : Dgf m6_puts 2 6 6 5 := ⟨138, by decide +kernel, f_X6_138, rfl⟩
theorem d6_puts_5 : Dc m6_puts 5 (.iconst 1) 1 6 := ⟨by decide +kernel, rfl⟩
theorem d6_puts_6 : Dc m6_puts 6 .isub 1 7 := ⟨by decide +kernel, rfl⟩
theorem d6_puts_7 : Div m6_puts 7 m6_placeOf 1 10 := ⟨141, by decide +kernel, lk_X6_141, v_6_placeOf, rfl⟩
theorem d6_puts_10 : Dis m6_puts 10 2 11 := Or.inl ⟨2, by decide +kernel, rfl, rfl⟩
theorem d6_puts_11 : Dal m6_puts 11 0 12 := Or.inl ⟨0, by decide +kernel, rfl, rfl⟩
theorem d6_puts_12 : Dgf m6_puts 12 6 4 15 := ⟨16, by decide +kernel, f_X6_16, rfl⟩
theorem d6_puts_15 : Dil m6_puts 15 2 16 := Or.inl ⟨2, by decide +kernel, rfl, rfl⟩
theorem d6_puts_16 : Dil m6_puts 16 1 17 := Or.inl ⟨1, by decide +kernel, rfl, rfl⟩
theorem d6_puts_17 : Dc m6_puts 17 .iastore 1 18 := ⟨by decide +kernel, rfl⟩
theorem d6_puts_18 : Dal m6_puts 18 0 19 := Or.inl ⟨0, by decide +kernel, rfl, rfl⟩
theorem d6_puts_19 : Dgf m6_puts 19 6 4 22 := ⟨16, by decide +kernel, f_X6_16, rfl⟩
theorem d6_puts_22 : Dil m6_puts 22 2 23 := Or.inl ⟨2, by decide +kernel, rfl, rfl⟩
theorem d6_puts_23 : Dc m6_puts 23 (.iconst 1) 1 24 := ⟨by decide +kernel, rfl⟩
theorem d6_puts_24 : Dc m6_puts 24 .iadd 1 25 := ⟨by decide +kernel, rfl⟩
theorem d6_puts_25 : Dal m6_puts 25 0 26 := Or.inl ⟨0, by decide +kernel, rfl, rfl⟩
theorem d6_puts_26 : Dgf m6_puts 26 6 15 29 := ⟨126, by decide +kernel, f_X6_126, rfl⟩
theorem d6_puts_29 : Dc m6_puts 29 .iastore 1 30 := ⟨by decide +kernel, rfl⟩
theorem d6_puts_30 : Dc m6_puts 30 (.iconst 0) 1 31 := ⟨by decide +kernel, rfl⟩
theorem d6_puts_31 : Dis m6_puts 31 3 32 := Or.inl ⟨3, by decide +kernel, rfl, rfl⟩
theorem d6_puts_32 : Dil m6_puts 32 3 33 := Or.inl ⟨3, by decide +kernel, rfl, rfl⟩
theorem d6_puts_33 : Dc m6_puts 33 (.iconst 3) 1 34 := ⟨by decide +kernel, rfl⟩
theorem d6_puts_34 : Dic m6_puts 34 .ge 91 37 := ⟨(57), by decide +kernel, by decide, rfl⟩
theorem d6_puts_37 : Dal m6_puts 37 0 38 := Or.inl ⟨0, by decide +kernel, rfl, rfl⟩
theorem d6_puts_38 : Dgf m6_puts 38 6 4 41 := ⟨16, by decide +kernel, f_X6_16, rfl⟩
theorem d6_puts_41 : Dil m6_puts 41 2 42 := Or.inl ⟨2, by decide +kernel, rfl, rfl⟩
theorem d6_puts_42 : Dc m6_puts 42 (.iconst 2) 1 43 := ⟨by decide +kernel, rfl⟩
theorem d6_puts_43 : Dc m6_puts 43 .iadd 1 44 := ⟨by decide +kernel, rfl⟩
theorem d6_puts_44 : Dil m6_puts 44 3 45 := Or.inl ⟨3, by decide +kernel, rfl, rfl⟩
theorem d6_puts_45 : Dc m6_puts 45 .iadd 1 46 := ⟨by decide +kernel, rfl⟩
theorem d6_puts_46 : Dal m6_puts 46 0 47 := Or.inl ⟨0, by decide +kernel, rfl, rfl⟩
theorem d6_puts_47 : Dgf m6_puts 47 6 16 50 := ⟨29, by decide +kernel, f_X6_29, rfl⟩
theorem d6_puts_50 : Dil m6_puts 50 3 51 := Or.inl ⟨3, by decide +kernel, rfl, rfl⟩
theorem d6_puts_51 : Dc m6_puts 51 .iaload 1 52 := ⟨by decide +kernel, rfl⟩
theorem d6_puts_52 : Dc m6_puts 52 .iastore 1 53 := ⟨by decide +kernel, rfl⟩
theorem d6_puts_53 : Dal m6_puts 53 0 54 := Or.inl ⟨0, by decide +kernel, rfl, rfl⟩
theorem d6_puts_54 : Dgf m6_puts 54 6 4 57 := ⟨16, by decide +kernel, f_X6_16, rfl⟩
theorem d6_puts_57 : Dil m6_puts 57 2 58 := Or.inl ⟨2, by decide +kernel, rfl, rfl⟩
theorem d6_puts_58 : Dc m6_puts 58 (.iconst 5) 1 59 := ⟨by decide +kernel, rfl⟩
theorem d6_puts_59 : Dc m6_puts 59 .iadd 1 60 := ⟨by decide +kernel, rfl⟩
theorem d6_puts_60 : Dil m6_puts 60 3 61 := Or.inl ⟨3, by decide +kernel, rfl, rfl⟩
theorem d6_puts_61 : Dc m6_puts 61 .iadd 1 62 := ⟨by decide +kernel, rfl⟩
theorem d6_puts_62 : Dal m6_puts 62 0 63 := Or.inl ⟨0, by decide +kernel, rfl, rfl⟩
theorem d6_puts_63 : Dgf m6_puts 63 6 16 66 := ⟨29, by decide +kernel, f_X6_29, rfl⟩
theorem d6_puts_66 : Dil m6_puts 66 3 67 := Or.inl ⟨3, by decide +kernel, rfl, rfl⟩
theorem d6_puts_67 : Dc m6_puts 67 .iaload 1 68 := ⟨by decide +kernel, rfl⟩
theorem d6_puts_68 : Dc m6_puts 68 (.bipush (-11)) 2 70 := ⟨by decide +kernel, rfl⟩
theorem d6_puts_70 : Dic m6_puts 70 .ne 78 73 := ⟨(8), by decide +kernel, by decide, rfl⟩
theorem d6_puts_73 : Dc m6_puts 73 (.bipush (-11)) 2 75 := ⟨by decide +kernel, rfl⟩
theorem d6_puts_75 : Dgo m6_puts 75 84 := ⟨9, by decide +kernel, by decide⟩
theorem d6_puts_78 : Dal m6_puts 78 0 79 := Or.inl ⟨0, by decide +kernel, rfl, rfl⟩
theorem d6_puts_79 : Dgf m6_puts 79 6 17 82 := ⟨32, by decide +kernel, f_X6_32, rfl⟩
theorem d6_puts_82 : Dil m6_puts 82 3 83 := Or.inl ⟨3, by decide +kernel, rfl, rfl⟩
theorem d6_puts_83 : Dc m6_puts 83 .iaload 1 84 := ⟨by decide +kernel, rfl⟩
theorem d6_puts_84 : Dc m6_puts 84 .iastore 1 85 := ⟨by decide +kernel, rfl⟩
theorem d6_puts_85 : Dc m6_puts 85 (.iinc 3 1) 3 88 := ⟨by decide +kernel, rfl⟩
theorem d6_puts_88 : Dgo m6_puts 88 32 := ⟨(-56), by decide +kernel, by decide⟩
theorem d6_puts_91 : Dal m6_puts 91 0 92 := Or.inl ⟨0, by decide +kernel, rfl, rfl⟩
theorem d6_puts_92 : Dc m6_puts 92 .dup 1 93 := ⟨by decide +kernel, rfl⟩
theorem d6_puts_93 : Dgf m6_puts 93 6 10 96 := ⟨144, by decide +kernel, f_X6_144, rfl⟩
theorem d6_puts_96 : Dc m6_puts 96 (.iconst 1) 1 97 := ⟨by decide +kernel, rfl⟩
theorem d6_puts_97 : Dil m6_puts 97 1 98 := Or.inl ⟨1, by decide +kernel, rfl, rfl⟩
theorem d6_puts_98 : Dc m6_puts 98 .ishl 1 99 := ⟨by decide +kernel, rfl⟩
theorem d6_puts_99 : Dc m6_puts 99 .ior 1 100 := ⟨by decide +kernel, rfl⟩
theorem d6_puts_100 : Dpf m6_puts 100 6 10 .int false 103 := ⟨144, by decide +kernel, f_X6_144, p_X6_X6_10, rfl⟩
theorem d6_puts_103 : mR m6_puts = none ∧ decode (mB m6_puts) 103 = .ok (.return_, 1) := ⟨rfl, by decide +kernel⟩
theorem d6_takes_0 : Dal m6_takes 0 0 1 := Or.inl ⟨0, by decide +kernel, rfl, rfl⟩
theorem d6_takes_1 : Dal m6_takes 1 0 2 := Or.inl ⟨0, by decide +kernel, rfl, rfl⟩
theorem d6_takes_2 : Dc m6_takes 2 (.iconst 1) 1 3 := ⟨by decide +kernel, rfl⟩
theorem d6_takes_3 : Div m6_takes 3 m6_present 1 6 := ⟨147, by decide +kernel, lk_X6_147, v_6_present, rfl⟩
theorem d6_takes_6 : Dpf m6_takes 6 6 15 .int false 9 := ⟨126, by decide +kernel, f_X6_126, p_X6_X6_15, rfl⟩
theorem d6_takes_9 : Dc m6_takes 9 (.iconst 0) 1 10 := ⟨by decide +kernel, rfl⟩
theorem d6_takes_10 : Dis m6_takes 10 1 11 := Or.inl ⟨1, by decide +kernel, rfl, rfl⟩
theorem d6_takes_11 : Dil m6_takes 11 1 12 := Or.inl ⟨1, by decide +kernel, rfl, rfl⟩
theorem d6_takes_12 : Dc m6_takes 12 (.iconst 3) 1 13 := ⟨by decide +kernel, rfl⟩
theorem d6_takes_13 : Dic m6_takes 13 .ge 48 16 := ⟨(35), by decide +kernel, by decide, rfl⟩
theorem d6_takes_16 : Dal m6_takes 16 0 17 := Or.inl ⟨0, by decide +kernel, rfl, rfl⟩
theorem d6_takes_17 : Dgf m6_takes 17 6 16 20 := ⟨29, by decide +kernel, f_X6_29, rfl⟩
theorem d6_takes_20 : Dil m6_takes 20 1 21 := Or.inl ⟨1, by decide +kernel, rfl, rfl⟩
theorem d6_takes_21 : Dal m6_takes 21 0 22 := Or.inl ⟨0, by decide +kernel, rfl, rfl⟩
theorem d6_takes_22 : Dc m6_takes 22 (.iconst 2) 1 23 := ⟨by decide +kernel, rfl⟩
theorem d6_takes_23 : Dil m6_takes 23 1 24 := Or.inl ⟨1, by decide +kernel, rfl, rfl⟩
theorem d6_takes_24 : Dc m6_takes 24 .iadd 1 25 := ⟨by decide +kernel, rfl⟩
theorem d6_takes_25 : Div m6_takes 25 m6_present 1 28 := ⟨147, by decide +kernel, lk_X6_147, v_6_present, rfl⟩
theorem d6_takes_28 : Dc m6_takes 28 .iastore 1 29 := ⟨by decide +kernel, rfl⟩
theorem d6_takes_29 : Dal m6_takes 29 0 30 := Or.inl ⟨0, by decide +kernel, rfl, rfl⟩
theorem d6_takes_30 : Dgf m6_takes 30 6 17 33 := ⟨32, by decide +kernel, f_X6_32, rfl⟩
theorem d6_takes_33 : Dil m6_takes 33 1 34 := Or.inl ⟨1, by decide +kernel, rfl, rfl⟩
theorem d6_takes_34 : Dal m6_takes 34 0 35 := Or.inl ⟨0, by decide +kernel, rfl, rfl⟩
theorem d6_takes_35 : Dc m6_takes 35 (.iconst 5) 1 36 := ⟨by decide +kernel, rfl⟩
theorem d6_takes_36 : Dil m6_takes 36 1 37 := Or.inl ⟨1, by decide +kernel, rfl, rfl⟩
theorem d6_takes_37 : Dc m6_takes 37 .iadd 1 38 := ⟨by decide +kernel, rfl⟩
theorem d6_takes_38 : Div m6_takes 38 m6_present 1 41 := ⟨147, by decide +kernel, lk_X6_147, v_6_present, rfl⟩
theorem d6_takes_41 : Dc m6_takes 41 .iastore 1 42 := ⟨by decide +kernel, rfl⟩
theorem d6_takes_42 : Dc m6_takes 42 (.iinc 1 1) 3 45 := ⟨by decide +kernel, rfl⟩
theorem d6_takes_45 : Dgo m6_takes 45 11 := ⟨(-34), by decide +kernel, by decide⟩
theorem d6_takes_48 : mR m6_takes = none ∧ decode (mB m6_takes) 48 = .ok (.return_, 1) := ⟨rfl, by decide +kernel⟩
theorem d6_starts_0 : Dal m6_starts 0 0 1 := Or.inl ⟨0, by decide +kernel, rfl, rfl⟩
theorem d6_starts_1 : Dc m6_starts 1 (.iconst 0) 1 2 := ⟨by decide +kernel, rfl⟩
theorem d6_starts_2 : Dpf m6_starts 2 6 5 .int false 5 := ⟨135, by decide +kernel, f_X6_135, p_X6_X6_5, rfl⟩
theorem d6_starts_5 : Dal m6_starts 5 0 6 := Or.inl ⟨0, by decide +kernel, rfl, rfl⟩
theorem d6_starts_6 : Dc m6_starts 6 (.iconst 1) 1 7 := ⟨by decide +kernel, rfl⟩
theorem d6_starts_7 : Dpf m6_starts 7 6 6 .int false 10 := ⟨138, by decide +kernel, f_X6_138, p_X6_X6_6, rfl⟩
theorem d6_starts_10 : Dal m6_starts 10 0 11 := Or.inl ⟨0, by decide +kernel, rfl, rfl⟩
theorem d6_starts_11 : Dc m6_starts 11 (.iconst 0) 1 12 := ⟨by decide +kernel, rfl⟩
theorem d6_starts_12 : Dpf m6_starts 12 6 7 .int false 15 := ⟨150, by decide +kernel, f_X6_150, p_X6_X6_7, rfl⟩
theorem d6_starts_15 : Dal m6_starts 15 0 16 := Or.inl ⟨0, by decide +kernel, rfl, rfl⟩
theorem d6_starts_16 : Dc m6_starts 16 (.iconst 0) 1 17 := ⟨by decide +kernel, rfl⟩
theorem d6_starts_17 : Dpf m6_starts 17 6 15 .int false 20 := ⟨126, by decide +kernel, f_X6_126, p_X6_X6_15, rfl⟩
theorem d6_starts_20 : Dc m6_starts 20 (.iconst 0) 1 21 := ⟨by decide +kernel, rfl⟩
theorem d6_starts_21 : Dis m6_starts 21 1 22 := Or.inl ⟨1, by decide +kernel, rfl, rfl⟩
theorem d6_starts_22 : Dil m6_starts 22 1 23 := Or.inl ⟨1, by decide +kernel, rfl, rfl⟩
theorem d6_starts_23 : Dc m6_starts 23 (.iconst 3) 1 24 := ⟨by decide +kernel, rfl⟩
theorem d6_starts_24 : Dic m6_starts 24 .ge 49 27 := ⟨(25), by decide +kernel, by decide, rfl⟩
theorem d6_starts_27 : Dal m6_starts 27 0 28 := Or.inl ⟨0, by decide +kernel, rfl, rfl⟩
theorem d6_starts_28 : Dgf m6_starts 28 6 16 31 := ⟨29, by decide +kernel, f_X6_29, rfl⟩
theorem d6_starts_31 : Dil m6_starts 31 1 32 := Or.inl ⟨1, by decide +kernel, rfl, rfl⟩
theorem d6_starts_32 : Dc m6_starts 32 (.bipush (-11)) 2 34 := ⟨by decide +kernel, rfl⟩
theorem d6_starts_34 : Dc m6_starts 34 .iastore 1 35 := ⟨by decide +kernel, rfl⟩
theorem d6_starts_35 : Dal m6_starts 35 0 36 := Or.inl ⟨0, by decide +kernel, rfl, rfl⟩
theorem d6_starts_36 : Dgf m6_starts 36 6 17 39 := ⟨32, by decide +kernel, f_X6_32, rfl⟩
theorem d6_starts_39 : Dil m6_starts 39 1 40 := Or.inl ⟨1, by decide +kernel, rfl, rfl⟩
theorem d6_starts_40 : Dc m6_starts 40 (.bipush (-11)) 2 42 := ⟨by decide +kernel, rfl⟩
theorem d6_starts_42 : Dc m6_starts 42 .iastore 1 43 := ⟨by decide +kernel, rfl⟩
theorem d6_starts_43 : Dc m6_starts 43 (.iinc 1 1) 3 46 := ⟨by decide +kernel, rfl⟩
theorem d6_starts_46 : Dgo m6_starts 46 22 := ⟨(-24), by decide +kernel, by decide⟩
theorem d6_starts_49 : Dal m6_starts 49 0 50 := Or.inl ⟨0, by decide +kernel, rfl, rfl⟩
theorem d6_starts_50 : Dal m6_starts 50 0 51 := Or.inl ⟨0, by decide +kernel, rfl, rfl⟩
theorem d6_starts_51 : Dc m6_starts 51 (.iconst 0) 1 52 := ⟨by decide +kernel, rfl⟩
theorem d6_starts_52 : Div m6_starts 52 m6_carries 1 55 := ⟨153, by decide +kernel, lk_X6_153, v_6_carries, rfl⟩
theorem d6_starts_55 : Div m6_starts 55 m6_puts 1 58 := ⟨156, by decide +kernel, lk_X6_156, v_6_puts, rfl⟩
theorem d6_starts_58 : mR m6_starts = none ∧ decode (mB m6_starts) 58 = .ok (.return_, 1) := ⟨rfl, by decide +kernel⟩
theorem d6_goesOn_0 : Dal m6_goesOn 0 0 1 := Or.inl ⟨0, by decide +kernel, rfl, rfl⟩
theorem d6_goesOn_1 : Div m6_goesOn 1 m6_takes 0 4 := ⟨159, by decide +kernel, lk_X6_159, v_6_takes, rfl⟩
theorem d6_goesOn_4 : Dal m6_goesOn 4 0 5 := Or.inl ⟨0, by decide +kernel, rfl, rfl⟩
theorem d6_goesOn_5 : Dil m6_goesOn 5 1 6 := Or.inl ⟨1, by decide +kernel, rfl, rfl⟩
theorem d6_goesOn_6 : Div m6_goesOn 6 m6_carries 1 9 := ⟨153, by decide +kernel, lk_X6_153, v_6_carries, rfl⟩
theorem d6_goesOn_9 : Dis m6_goesOn 9 2 10 := Or.inl ⟨2, by decide +kernel, rfl, rfl⟩
theorem d6_goesOn_10 : Dal m6_goesOn 10 0 11 := Or.inl ⟨0, by decide +kernel, rfl, rfl⟩
theorem d6_goesOn_11 : Dc m6_goesOn 11 (.iconst 0) 1 12 := ⟨by decide +kernel, rfl⟩
theorem d6_goesOn_12 : Dpf m6_goesOn 12 6 7 .int false 15 := ⟨150, by decide +kernel, f_X6_150, p_X6_X6_7, rfl⟩
theorem d6_goesOn_15 : Dal m6_goesOn 15 0 16 := Or.inl ⟨0, by decide +kernel, rfl, rfl⟩
theorem d6_goesOn_16 : Dgf m6_goesOn 16 6 6 19 := ⟨138, by decide +kernel, f_X6_138, rfl⟩
theorem d6_goesOn_19 : Dc m6_goesOn 19 (.bipush 20) 2 21 := ⟨by decide +kernel, rfl⟩
theorem d6_goesOn_21 : Dic m6_goesOn 21 .ne 40 24 := ⟨(19), by decide +kernel, by decide, rfl⟩
theorem d6_goesOn_24 : Dal m6_goesOn 24 0 25 := Or.inl ⟨0, by decide +kernel, rfl, rfl⟩
theorem d6_goesOn_25 : Dal m6_goesOn 25 0 26 := Or.inl ⟨0, by decide +kernel, rfl, rfl⟩
theorem d6_goesOn_26 : Dgf m6_goesOn 26 6 5 29 := ⟨135, by decide +kernel, f_X6_135, rfl⟩
theorem d6_goesOn_29 : Dc m6_goesOn 29 (.iconst 1) 1 30 := ⟨by decide +kernel, rfl⟩
theorem d6_goesOn_30 : Dc m6_goesOn 30 .iadd 1 31 := ⟨by decide +kernel, rfl⟩
theorem d6_goesOn_31 : Dc m6_goesOn 31 (.bipush 20) 2 33 := ⟨by decide +kernel, rfl⟩
theorem d6_goesOn_33 : Dc m6_goesOn 33 .irem 1 34 := ⟨by decide +kernel, rfl⟩
theorem d6_goesOn_34 : Dpf m6_goesOn 34 6 5 .int false 37 := ⟨135, by decide +kernel, f_X6_135, p_X6_X6_5, rfl⟩
theorem d6_goesOn_37 : Dgo m6_goesOn 37 50 := ⟨13, by decide +kernel, by decide⟩
theorem d6_goesOn_40 : Dal m6_goesOn 40 0 41 := Or.inl ⟨0, by decide +kernel, rfl, rfl⟩
theorem d6_goesOn_41 : Dc m6_goesOn 41 .dup 1 42 := ⟨by decide +kernel, rfl⟩
theorem d6_goesOn_42 : Dgf m6_goesOn 42 6 6 45 := ⟨138, by decide +kernel, f_X6_138, rfl⟩
theorem d6_goesOn_45 : Dc m6_goesOn 45 (.iconst 1) 1 46 := ⟨by decide +kernel, rfl⟩
theorem d6_goesOn_46 : Dc m6_goesOn 46 .iadd 1 47 := ⟨by decide +kernel, rfl⟩
theorem d6_goesOn_47 : Dpf m6_goesOn 47 6 6 .int false 50 := ⟨138, by decide +kernel, f_X6_138, p_X6_X6_6, rfl⟩
theorem d6_goesOn_50 : Dal m6_goesOn 50 0 51 := Or.inl ⟨0, by decide +kernel, rfl, rfl⟩
theorem d6_goesOn_51 : Dil m6_goesOn 51 2 52 := Or.inl ⟨2, by decide +kernel, rfl, rfl⟩
theorem d6_goesOn_52 : Div m6_goesOn 52 m6_puts 1 55 := ⟨156, by decide +kernel, lk_X6_156, v_6_puts, rfl⟩
theorem d6_goesOn_55 : mR m6_goesOn = none ∧ decode (mB m6_goesOn) 55 = .ok (.return_, 1) := ⟨rfl, by decide +kernel⟩
theorem d6_read_0 : Dal m6_read 0 0 1 := Or.inl ⟨0, by decide +kernel, rfl, rfl⟩
theorem d6_read_1 : Div m6_read 1 m6_reads 0 4 := ⟨114, by decide +kernel, lk_X6_114, v_6_reads, rfl⟩
theorem d6_read_4 : Dal m6_read 4 0 5 := Or.inl ⟨0, by decide +kernel, rfl, rfl⟩
theorem d6_read_5 : Dgf m6_read 5 6 14 8 := ⟨74, by decide +kernel, f_X6_74, rfl⟩
theorem d6_read_8 : Dc m6_read 8 (.bipush (-11)) 2 10 := ⟨by decide +kernel, rfl⟩
theorem d6_read_10 : Dic m6_read 10 .eq 16 13 := ⟨(6), by decide +kernel, by decide, rfl⟩
theorem d6_read_13 : Dc m6_read 13 (.bipush (-13)) 2 15 := ⟨by decide +kernel, rfl⟩
theorem d6_read_15 : mR m6_read = some .int ∧ decode (mB m6_read) 15 = .ok (.ireturn, 1) := ⟨rfl, by decide +kernel⟩
theorem d6_read_16 : Dc m6_read 16 (.iconst 0) 1 17 := ⟨by decide +kernel, rfl⟩
theorem d6_read_17 : Dis m6_read 17 1 18 := Or.inl ⟨1, by decide +kernel, rfl, rfl⟩
theorem d6_read_18 : Dil m6_read 18 1 19 := Or.inl ⟨1, by decide +kernel, rfl, rfl⟩
theorem d6_read_19 : Dc m6_read 19 (.bipush 12) 2 21 := ⟨by decide +kernel, rfl⟩
theorem d6_read_21 : Dal m6_read 21 0 22 := Or.inl ⟨0, by decide +kernel, rfl, rfl⟩
theorem d6_read_22 : Dgf m6_read 22 6 3 25 := ⟨102, by decide +kernel, f_X6_102, rfl⟩
theorem d6_read_25 : Dc m6_read 25 .imul 1 26 := ⟨by decide +kernel, rfl⟩
theorem d6_read_26 : Dic m6_read 26 .ge 47 29 := ⟨(21), by decide +kernel, by decide, rfl⟩
theorem d6_read_29 : Dal m6_read 29 0 30 := Or.inl ⟨0, by decide +kernel, rfl, rfl⟩
theorem d6_read_30 : Dgf m6_read 30 6 0 33 := ⟨7, by decide +kernel, f_X6_7, rfl⟩
theorem d6_read_33 : Dil m6_read 33 1 34 := Or.inl ⟨1, by decide +kernel, rfl, rfl⟩
theorem d6_read_34 : Dal m6_read 34 0 35 := Or.inl ⟨0, by decide +kernel, rfl, rfl⟩
theorem d6_read_35 : Dgf m6_read 35 6 2 38 := ⟨13, by decide +kernel, f_X6_13, rfl⟩
theorem d6_read_38 : Dil m6_read 38 1 39 := Or.inl ⟨1, by decide +kernel, rfl, rfl⟩
theorem d6_read_39 : Dc m6_read 39 .iaload 1 40 := ⟨by decide +kernel, rfl⟩
theorem d6_read_40 : Dc m6_read 40 .iastore 1 41 := ⟨by decide +kernel, rfl⟩
theorem d6_read_41 : Dc m6_read 41 (.iinc 1 1) 3 44 := ⟨by decide +kernel, rfl⟩
theorem d6_read_44 : Dgo m6_read 44 18 := ⟨(-26), by decide +kernel, by decide⟩
theorem d6_read_47 : Dal m6_read 47 0 48 := Or.inl ⟨0, by decide +kernel, rfl, rfl⟩
theorem d6_read_48 : Dal m6_read 48 0 49 := Or.inl ⟨0, by decide +kernel, rfl, rfl⟩
theorem d6_read_49 : Dgf m6_read 49 6 3 52 := ⟨102, by decide +kernel, f_X6_102, rfl⟩
theorem d6_read_52 : Dpf m6_read 52 6 1 .int false 55 := ⟨116, by decide +kernel, f_X6_116, p_X6_X6_1, rfl⟩
theorem d6_read_55 : Dc m6_read 55 (.iconst 0) 1 56 := ⟨by decide +kernel, rfl⟩
theorem d6_read_56 : Dis m6_read 56 1 57 := Or.inl ⟨1, by decide +kernel, rfl, rfl⟩
theorem d6_read_57 : Dil m6_read 57 1 58 := Or.inl ⟨1, by decide +kernel, rfl, rfl⟩
theorem d6_read_58 : Dc m6_read 58 (.iconst 3) 1 59 := ⟨by decide +kernel, rfl⟩
theorem d6_read_59 : Dic m6_read 59 .ge 75 62 := ⟨(16), by decide +kernel, by decide, rfl⟩
theorem d6_read_62 : Dal m6_read 62 0 63 := Or.inl ⟨0, by decide +kernel, rfl, rfl⟩
theorem d6_read_63 : Dgf m6_read 63 6 9 66 := ⟨22, by decide +kernel, f_X6_22, rfl⟩
theorem d6_read_66 : Dil m6_read 66 1 67 := Or.inl ⟨1, by decide +kernel, rfl, rfl⟩
theorem d6_read_67 : Dc m6_read 67 (.iconst 0) 1 68 := ⟨by decide +kernel, rfl⟩
theorem d6_read_68 : Dc m6_read 68 .bastore 1 69 := ⟨by decide +kernel, rfl⟩
theorem d6_read_69 : Dc m6_read 69 (.iinc 1 1) 3 72 := ⟨by decide +kernel, rfl⟩
theorem d6_read_72 : Dgo m6_read 72 57 := ⟨(-15), by decide +kernel, by decide⟩
theorem d6_read_75 : Dal m6_read 75 0 76 := Or.inl ⟨0, by decide +kernel, rfl, rfl⟩
theorem d6_read_76 : Dc m6_read 76 (.iconst 0) 1 77 := ⟨by decide +kernel, rfl⟩
theorem d6_read_77 : Dpf m6_read 77 6 10 .int false 80 := ⟨144, by decide +kernel, f_X6_144, p_X6_X6_10, rfl⟩
theorem d6_read_80 : Dal m6_read 80 0 81 := Or.inl ⟨0, by decide +kernel, rfl, rfl⟩
theorem d6_read_81 : Div m6_read 81 m6_starts 0 84 := ⟨56, by decide +kernel, lk_X6_56, v_6_starts, rfl⟩
theorem d6_read_84 : Dal m6_read 84 0 85 := Or.inl ⟨0, by decide +kernel, rfl, rfl⟩
theorem d6_read_85 : Dgf m6_read 85 6 1 88 := ⟨116, by decide +kernel, f_X6_116, rfl⟩
theorem d6_read_88 : mR m6_read = some .int ∧ decode (mB m6_read) 88 = .ok (.ireturn, 1) := ⟨rfl, by decide +kernel⟩
theorem d6_begin_0 : Dal m6_begin 0 0 1 := Or.inl ⟨0, by decide +kernel, rfl, rfl⟩
theorem d6_begin_1 : Div m6_begin 1 m6_starts 0 4 := ⟨56, by decide +kernel, lk_X6_56, v_6_starts, rfl⟩
theorem d6_begin_4 : Dal m6_begin 4 0 5 := Or.inl ⟨0, by decide +kernel, rfl, rfl⟩
theorem d6_begin_5 : Dc m6_begin 5 (.iconst 0) 1 6 := ⟨by decide +kernel, rfl⟩
theorem d6_begin_6 : Div m6_begin 6 m6_present 1 9 := ⟨147, by decide +kernel, lk_X6_147, v_6_present, rfl⟩
theorem d6_begin_9 : mR m6_begin = some .int ∧ decode (mB m6_begin) 9 = .ok (.ireturn, 1) := ⟨rfl, by decide +kernel⟩
theorem d6_go_0 : Dal m6_go 0 0 1 := Or.inl ⟨0, by decide +kernel, rfl, rfl⟩
theorem d6_go_1 : Dal m6_go 1 0 2 := Or.inl ⟨0, by decide +kernel, rfl, rfl⟩
theorem d6_go_2 : Dc m6_go 2 (.iconst 0) 1 3 := ⟨by decide +kernel, rfl⟩
theorem d6_go_3 : Div m6_go 3 m6_present 1 6 := ⟨147, by decide +kernel, lk_X6_147, v_6_present, rfl⟩
theorem d6_go_6 : Div m6_go 6 m6_shownKind 1 9 := ⟨129, by decide +kernel, lk_X6_129, v_6_shownKind, rfl⟩
theorem d6_go_9 : Dif m6_go 9 .eq 15 12 := ⟨(6), by decide +kernel, by decide, rfl⟩
theorem d6_go_12 : Dc m6_go 12 (.bipush (-13)) 2 14 := ⟨by decide +kernel, rfl⟩
theorem d6_go_14 : mR m6_go = some .int ∧ decode (mB m6_go) 14 = .ok (.ireturn, 1) := ⟨rfl, by decide +kernel⟩
theorem d6_go_15 : Dal m6_go 15 0 16 := Or.inl ⟨0, by decide +kernel, rfl, rfl⟩
theorem d6_go_16 : Dal m6_go 16 0 17 := Or.inl ⟨0, by decide +kernel, rfl, rfl⟩
theorem d6_go_17 : Dc m6_go 17 (.iconst 0) 1 18 := ⟨by decide +kernel, rfl⟩
theorem d6_go_18 : Div m6_go 18 m6_present 1 21 := ⟨147, by decide +kernel, lk_X6_147, v_6_present, rfl⟩
theorem d6_go_21 : Dc m6_go 21 (.iconst 1) 1 22 := ⟨by decide +kernel, rfl⟩
theorem d6_go_22 : Dc m6_go 22 .iadd 1 23 := ⟨by decide +kernel, rfl⟩
theorem d6_go_23 : Div m6_go 23 m6_goesOn 1 26 := ⟨162, by decide +kernel, lk_X6_162, v_6_goesOn, rfl⟩
theorem d6_go_26 : Dal m6_go 26 0 27 := Or.inl ⟨0, by decide +kernel, rfl, rfl⟩
theorem d6_go_27 : Dc m6_go 27 (.iconst 0) 1 28 := ⟨by decide +kernel, rfl⟩
theorem d6_go_28 : Div m6_go 28 m6_present 1 31 := ⟨147, by decide +kernel, lk_X6_147, v_6_present, rfl⟩
theorem d6_go_31 : mR m6_go = some .int ∧ decode (mB m6_go) 31 = .ok (.ireturn, 1) := ⟨rfl, by decide +kernel⟩
theorem d6_choose_0 : Dil m6_choose 0 1 1 := Or.inl ⟨1, by decide +kernel, rfl, rfl⟩
theorem d6_choose_1 : Dif m6_choose 1 .ge 7 4 := ⟨(6), by decide +kernel, by decide, rfl⟩
theorem d6_choose_4 : Dc m6_choose 4 (.bipush (-12)) 2 6 := ⟨by decide +kernel, rfl⟩
theorem d6_choose_6 : mR m6_choose = some .int ∧ decode (mB m6_choose) 6 = .ok (.ireturn, 1) := ⟨rfl, by decide +kernel⟩
theorem d6_choose_7 : Dal m6_choose 7 0 8 := Or.inl ⟨0, by decide +kernel, rfl, rfl⟩
theorem d6_choose_8 : Dc m6_choose 8 (.iconst 0) 1 9 := ⟨by decide +kernel, rfl⟩
theorem d6_choose_9 : Div m6_choose 9 m6_present 1 12 := ⟨147, by decide +kernel, lk_X6_147, v_6_present, rfl⟩
theorem d6_choose_12 : Dis m6_choose 12 2 13 := Or.inl ⟨2, by decide +kernel, rfl, rfl⟩
theorem d6_choose_13 : Dal m6_choose 13 0 14 := Or.inl ⟨0, by decide +kernel, rfl, rfl⟩
theorem d6_choose_14 : Dil m6_choose 14 2 15 := Or.inl ⟨2, by decide +kernel, rfl, rfl⟩
theorem d6_choose_15 : Div m6_choose 15 m6_shownKind 1 18 := ⟨129, by decide +kernel, lk_X6_129, v_6_shownKind, rfl⟩
theorem d6_choose_18 : Dc m6_choose 18 (.iconst 1) 1 19 := ⟨by decide +kernel, rfl⟩
theorem d6_choose_19 : Dic m6_choose 19 .ne 46 22 := ⟨(27), by decide +kernel, by decide, rfl⟩
theorem d6_choose_22 : Dil m6_choose 22 1 23 := Or.inl ⟨1, by decide +kernel, rfl, rfl⟩
theorem d6_choose_23 : Dal m6_choose 23 0 24 := Or.inl ⟨0, by decide +kernel, rfl, rfl⟩
theorem d6_choose_24 : Dil m6_choose 24 2 25 := Or.inl ⟨2, by decide +kernel, rfl, rfl⟩
theorem d6_choose_25 : Dc m6_choose 25 (.iconst 1) 1 26 := ⟨by decide +kernel, rfl⟩
theorem d6_choose_26 : Div m6_choose 26 m6_of 2 29 := ⟨119, by decide +kernel, lk_X6_119, v_6_of, rfl⟩
theorem d6_choose_29 : Dic m6_choose 29 .ge 46 32 := ⟨(17), by decide +kernel, by decide, rfl⟩
theorem d6_choose_32 : Dal m6_choose 32 0 33 := Or.inl ⟨0, by decide +kernel, rfl, rfl⟩
theorem d6_choose_33 : Dil m6_choose 33 2 34 := Or.inl ⟨2, by decide +kernel, rfl, rfl⟩
theorem d6_choose_34 : Dil m6_choose 34 1 35 := Or.inl ⟨1, by decide +kernel, rfl, rfl⟩
theorem d6_choose_35 : Dal m6_choose 35 0 36 := Or.inl ⟨0, by decide +kernel, rfl, rfl⟩
theorem d6_choose_36 : Dc m6_choose 36 (.iconst 1) 1 37 := ⟨by decide +kernel, rfl⟩
theorem d6_choose_37 : Div m6_choose 37 m6_present 1 40 := ⟨147, by decide +kernel, lk_X6_147, v_6_present, rfl⟩
theorem d6_choose_40 : Div m6_choose 40 m6_isLocked 3 43 := ⟨165, by decide +kernel, lk_X6_165, v_6_isLocked, rfl⟩
theorem d6_choose_43 : Dif m6_choose 43 .eq 49 46 := ⟨(6), by decide +kernel, by decide, rfl⟩
theorem d6_choose_46 : Dc m6_choose 46 (.bipush (-13)) 2 48 := ⟨by decide +kernel, rfl⟩
theorem d6_choose_48 : mR m6_choose = some .int ∧ decode (mB m6_choose) 48 = .ok (.ireturn, 1) := ⟨rfl, by decide +kernel⟩
theorem d6_choose_49 : Dal m6_choose 49 0 50 := Or.inl ⟨0, by decide +kernel, rfl, rfl⟩
theorem d6_choose_50 : Dal m6_choose 50 0 51 := Or.inl ⟨0, by decide +kernel, rfl, rfl⟩
theorem d6_choose_51 : Dil m6_choose 51 2 52 := Or.inl ⟨2, by decide +kernel, rfl, rfl⟩
theorem d6_choose_52 : Dc m6_choose 52 (.iconst 4) 1 53 := ⟨by decide +kernel, rfl⟩
theorem d6_choose_53 : Dc m6_choose 53 (.iconst 2) 1 54 := ⟨by decide +kernel, rfl⟩
theorem d6_choose_54 : Dil m6_choose 54 1 55 := Or.inl ⟨1, by decide +kernel, rfl, rfl⟩
theorem d6_choose_55 : Dc m6_choose 55 .imul 1 56 := ⟨by decide +kernel, rfl⟩
theorem d6_choose_56 : Dc m6_choose 56 .iadd 1 57 := ⟨by decide +kernel, rfl⟩
theorem d6_choose_57 : Div m6_choose 57 m6_of 2 60 := ⟨119, by decide +kernel, lk_X6_119, v_6_of, rfl⟩
theorem d6_choose_60 : Div m6_choose 60 m6_goesOn 1 63 := ⟨162, by decide +kernel, lk_X6_162, v_6_goesOn, rfl⟩
theorem d6_choose_63 : Dal m6_choose 63 0 64 := Or.inl ⟨0, by decide +kernel, rfl, rfl⟩
theorem d6_choose_64 : Dc m6_choose 64 (.iconst 0) 1 65 := ⟨by decide +kernel, rfl⟩
theorem d6_choose_65 : Div m6_choose 65 m6_present 1 68 := ⟨147, by decide +kernel, lk_X6_147, v_6_present, rfl⟩
theorem d6_choose_68 : mR m6_choose = some .int ∧ decode (mB m6_choose) 68 = .ok (.ireturn, 1) := ⟨rfl, by decide +kernel⟩
theorem d6_skip_0 : Dal m6_skip 0 0 1 := Or.inl ⟨0, by decide +kernel, rfl, rfl⟩
theorem d6_skip_1 : Dal m6_skip 1 0 2 := Or.inl ⟨0, by decide +kernel, rfl, rfl⟩
theorem d6_skip_2 : Dc m6_skip 2 (.iconst 0) 1 3 := ⟨by decide +kernel, rfl⟩
theorem d6_skip_3 : Div m6_skip 3 m6_present 1 6 := ⟨147, by decide +kernel, lk_X6_147, v_6_present, rfl⟩
theorem d6_skip_6 : Div m6_skip 6 m6_shownKind 1 9 := ⟨129, by decide +kernel, lk_X6_129, v_6_shownKind, rfl⟩
theorem d6_skip_9 : Dif m6_skip 9 .eq 15 12 := ⟨(6), by decide +kernel, by decide, rfl⟩
theorem d6_skip_12 : Dc m6_skip 12 (.bipush (-13)) 2 14 := ⟨by decide +kernel, rfl⟩
theorem d6_skip_14 : mR m6_skip = some .int ∧ decode (mB m6_skip) 14 = .ok (.ireturn, 1) := ⟨rfl, by decide +kernel⟩
theorem d6_skip_15 : Dc m6_skip 15 (.iconst 0) 1 16 := ⟨by decide +kernel, rfl⟩
theorem d6_skip_16 : Dis m6_skip 16 1 17 := Or.inl ⟨1, by decide +kernel, rfl, rfl⟩
theorem d6_skip_17 : Dc m6_skip 17 (.iconst 1) 1 18 := ⟨by decide +kernel, rfl⟩
theorem d6_skip_18 : Dis m6_skip 18 2 19 := Or.inl ⟨2, by decide +kernel, rfl, rfl⟩
theorem d6_skip_19 : Dil m6_skip 19 2 20 := Or.inl ⟨2, by decide +kernel, rfl, rfl⟩
theorem d6_skip_20 : Dif m6_skip 20 .eq 82 23 := ⟨(62), by decide +kernel, by decide, rfl⟩
theorem d6_skip_23 : Dil m6_skip 23 1 24 := Or.inl ⟨1, by decide +kernel, rfl, rfl⟩
theorem d6_skip_24 : Dc m6_skip 24 (.bipush 60) 2 26 := ⟨by decide +kernel, rfl⟩
theorem d6_skip_26 : Dic m6_skip 26 .ge 82 29 := ⟨(56), by decide +kernel, by decide, rfl⟩
theorem d6_skip_29 : Dal m6_skip 29 0 30 := Or.inl ⟨0, by decide +kernel, rfl, rfl⟩
theorem d6_skip_30 : Dgf m6_skip 30 6 10 33 := ⟨144, by decide +kernel, f_X6_144, rfl⟩
theorem d6_skip_33 : Dis m6_skip 33 3 34 := Or.inl ⟨3, by decide +kernel, rfl, rfl⟩
theorem d6_skip_34 : Dal m6_skip 34 0 35 := Or.inl ⟨0, by decide +kernel, rfl, rfl⟩
theorem d6_skip_35 : Dal m6_skip 35 0 36 := Or.inl ⟨0, by decide +kernel, rfl, rfl⟩
theorem d6_skip_36 : Dc m6_skip 36 (.iconst 0) 1 37 := ⟨by decide +kernel, rfl⟩
theorem d6_skip_37 : Div m6_skip 37 m6_present 1 40 := ⟨147, by decide +kernel, lk_X6_147, v_6_present, rfl⟩
theorem d6_skip_40 : Dc m6_skip 40 (.iconst 1) 1 41 := ⟨by decide +kernel, rfl⟩
theorem d6_skip_41 : Dc m6_skip 41 .iadd 1 42 := ⟨by decide +kernel, rfl⟩
theorem d6_skip_42 : Div m6_skip 42 m6_goesOn 1 45 := ⟨162, by decide +kernel, lk_X6_162, v_6_goesOn, rfl⟩
theorem d6_skip_45 : Dc m6_skip 45 (.iinc 1 1) 3 48 := ⟨by decide +kernel, rfl⟩
theorem d6_skip_48 : Dal m6_skip 48 0 49 := Or.inl ⟨0, by decide +kernel, rfl, rfl⟩
theorem d6_skip_49 : Dal m6_skip 49 0 50 := Or.inl ⟨0, by decide +kernel, rfl, rfl⟩
theorem d6_skip_50 : Dc m6_skip 50 (.iconst 0) 1 51 := ⟨by decide +kernel, rfl⟩
theorem d6_skip_51 : Div m6_skip 51 m6_present 1 54 := ⟨147, by decide +kernel, lk_X6_147, v_6_present, rfl⟩
theorem d6_skip_54 : Div m6_skip 54 m6_shownKind 1 57 := ⟨129, by decide +kernel, lk_X6_129, v_6_shownKind, rfl⟩
theorem d6_skip_57 : Dif m6_skip 57 .ne 77 60 := ⟨(20), by decide +kernel, by decide, rfl⟩
theorem d6_skip_60 : Dil m6_skip 60 3 61 := Or.inl ⟨3, by decide +kernel, rfl, rfl⟩
theorem d6_skip_61 : Dal m6_skip 61 0 62 := Or.inl ⟨0, by decide +kernel, rfl, rfl⟩
theorem d6_skip_62 : Dc m6_skip 62 (.iconst 0) 1 63 := ⟨by decide +kernel, rfl⟩
theorem d6_skip_63 : Div m6_skip 63 m6_present 1 66 := ⟨147, by decide +kernel, lk_X6_147, v_6_present, rfl⟩
theorem d6_skip_66 : Dc m6_skip 66 .ishr 1 67 := ⟨by decide +kernel, rfl⟩
theorem d6_skip_67 : Dc m6_skip 67 (.iconst 1) 1 68 := ⟨by decide +kernel, rfl⟩
theorem d6_skip_68 : Dc m6_skip 68 .iand 1 69 := ⟨by decide +kernel, rfl⟩
theorem d6_skip_69 : Dc m6_skip 69 (.iconst 1) 1 70 := ⟨by decide +kernel, rfl⟩
theorem d6_skip_70 : Dic m6_skip 70 .ne 77 73 := ⟨(7), by decide +kernel, by decide, rfl⟩
theorem d6_skip_73 : Dc m6_skip 73 (.iconst 1) 1 74 := ⟨by decide +kernel, rfl⟩
theorem d6_skip_74 : Dgo m6_skip 74 78 := ⟨4, by decide +kernel, by decide⟩
theorem d6_skip_77 : Dc m6_skip 77 (.iconst 0) 1 78 := ⟨by decide +kernel, rfl⟩
theorem d6_skip_78 : Dis m6_skip 78 2 79 := Or.inl ⟨2, by decide +kernel, rfl, rfl⟩
theorem d6_skip_79 : Dgo m6_skip 79 19 := ⟨(-60), by decide +kernel, by decide⟩
theorem d6_skip_82 : Dil m6_skip 82 1 83 := Or.inl ⟨1, by decide +kernel, rfl, rfl⟩
theorem d6_skip_83 : mR m6_skip = some .int ∧ decode (mB m6_skip) 83 = .ok (.ireturn, 1) := ⟨rfl, by decide +kernel⟩
theorem d6_back_0 : Dil m6_back 0 1 1 := Or.inl ⟨1, by decide +kernel, rfl, rfl⟩
theorem d6_back_1 : Dc m6_back 1 (.iconst 1) 1 2 := ⟨by decide +kernel, rfl⟩
theorem d6_back_2 : Dc m6_back 2 (.bipush 20) 2 4 := ⟨by decide +kernel, rfl⟩
theorem d6_back_4 : Dis' m6_back 4 m6_in 3 7 := ⟨59, by decide +kernel, lk_X6_59, s_6_in, rfl⟩
theorem d6_back_7 : Dif m6_back 7 .ne 13 10 := ⟨(6), by decide +kernel, by decide, rfl⟩
theorem d6_back_10 : Dc m6_back 10 (.bipush (-12)) 2 12 := ⟨by decide +kernel, rfl⟩
theorem d6_back_12 : mR m6_back = some .int ∧ decode (mB m6_back) 12 = .ok (.ireturn, 1) := ⟨rfl, by decide +kernel⟩
theorem d6_back_13 : Dil m6_back 13 1 14 := Or.inl ⟨1, by decide +kernel, rfl, rfl⟩
theorem d6_back_14 : Dal m6_back 14 0 15 := Or.inl ⟨0, by decide +kernel, rfl, rfl⟩
theorem d6_back_15 : Dgf m6_back 15 6 6 18 := ⟨138, by decide +kernel, f_X6_138, rfl⟩
theorem d6_back_18 : Dic m6_back 18 .lt 24 21 := ⟨(6), by decide +kernel, by decide, rfl⟩
theorem d6_back_21 : Dc m6_back 21 (.bipush (-13)) 2 23 := ⟨by decide +kernel, rfl⟩
theorem d6_back_23 : mR m6_back = some .int ∧ decode (mB m6_back) 23 = .ok (.ireturn, 1) := ⟨rfl, by decide +kernel⟩
theorem d6_back_24 : Dal m6_back 24 0 25 := Or.inl ⟨0, by decide +kernel, rfl, rfl⟩
theorem d6_back_25 : Dc m6_back 25 .dup 1 26 := ⟨by decide +kernel, rfl⟩
theorem d6_back_26 : Dgf m6_back 26 6 6 29 := ⟨138, by decide +kernel, f_X6_138, rfl⟩
theorem d6_back_29 : Dil m6_back 29 1 30 := Or.inl ⟨1, by decide +kernel, rfl, rfl⟩
theorem d6_back_30 : Dc m6_back 30 .isub 1 31 := ⟨by decide +kernel, rfl⟩
theorem d6_back_31 : Dpf m6_back 31 6 6 .int false 34 := ⟨138, by decide +kernel, f_X6_138, p_X6_X6_6, rfl⟩
theorem d6_back_34 : Dal m6_back 34 0 35 := Or.inl ⟨0, by decide +kernel, rfl, rfl⟩
theorem d6_back_35 : Dc m6_back 35 .dup 1 36 := ⟨by decide +kernel, rfl⟩
theorem d6_back_36 : Dgf m6_back 36 6 7 39 := ⟨150, by decide +kernel, f_X6_150, rfl⟩
theorem d6_back_39 : Dil m6_back 39 1 40 := Or.inl ⟨1, by decide +kernel, rfl, rfl⟩
theorem d6_back_40 : Dc m6_back 40 .iadd 1 41 := ⟨by decide +kernel, rfl⟩
theorem d6_back_41 : Dpf m6_back 41 6 7 .int false 44 := ⟨150, by decide +kernel, f_X6_150, p_X6_X6_7, rfl⟩
theorem d6_back_44 : Dal m6_back 44 0 45 := Or.inl ⟨0, by decide +kernel, rfl, rfl⟩
theorem d6_back_45 : Dc m6_back 45 (.iconst 0) 1 46 := ⟨by decide +kernel, rfl⟩
theorem d6_back_46 : Div m6_back 46 m6_present 1 49 := ⟨147, by decide +kernel, lk_X6_147, v_6_present, rfl⟩
theorem d6_back_49 : mR m6_back = some .int ∧ decode (mB m6_back) 49 = .ok (.ireturn, 1) := ⟨rfl, by decide +kernel⟩
theorem d6_again_0 : Dal m6_again 0 0 1 := Or.inl ⟨0, by decide +kernel, rfl, rfl⟩
theorem d6_again_1 : Dgf m6_again 1 6 7 4 := ⟨150, by decide +kernel, f_X6_150, rfl⟩
theorem d6_again_4 : Dif m6_again 4 .ne 10 7 := ⟨(6), by decide +kernel, by decide, rfl⟩
theorem d6_again_7 : Dc m6_again 7 (.bipush (-13)) 2 9 := ⟨by decide +kernel, rfl⟩
theorem d6_again_9 : mR m6_again = some .int ∧ decode (mB m6_again) 9 = .ok (.ireturn, 1) := ⟨rfl, by decide +kernel⟩
theorem d6_again_10 : Dal m6_again 10 0 11 := Or.inl ⟨0, by decide +kernel, rfl, rfl⟩
theorem d6_again_11 : Dc m6_again 11 .dup 1 12 := ⟨by decide +kernel, rfl⟩
theorem d6_again_12 : Dgf m6_again 12 6 7 15 := ⟨150, by decide +kernel, f_X6_150, rfl⟩
theorem d6_again_15 : Dc m6_again 15 (.iconst 1) 1 16 := ⟨by decide +kernel, rfl⟩
theorem d6_again_16 : Dc m6_again 16 .isub 1 17 := ⟨by decide +kernel, rfl⟩
theorem d6_again_17 : Dpf m6_again 17 6 7 .int false 20 := ⟨150, by decide +kernel, f_X6_150, p_X6_X6_7, rfl⟩
theorem d6_again_20 : Dal m6_again 20 0 21 := Or.inl ⟨0, by decide +kernel, rfl, rfl⟩
theorem d6_again_21 : Dc m6_again 21 .dup 1 22 := ⟨by decide +kernel, rfl⟩
theorem d6_again_22 : Dgf m6_again 22 6 6 25 := ⟨138, by decide +kernel, f_X6_138, rfl⟩
theorem d6_again_25 : Dc m6_again 25 (.iconst 1) 1 26 := ⟨by decide +kernel, rfl⟩
theorem d6_again_26 : Dc m6_again 26 .iadd 1 27 := ⟨by decide +kernel, rfl⟩
theorem d6_again_27 : Dpf m6_again 27 6 6 .int false 30 := ⟨138, by decide +kernel, f_X6_138, p_X6_X6_6, rfl⟩
theorem d6_again_30 : Dal m6_again 30 0 31 := Or.inl ⟨0, by decide +kernel, rfl, rfl⟩
theorem d6_again_31 : Dc m6_again 31 (.iconst 0) 1 32 := ⟨by decide +kernel, rfl⟩
theorem d6_again_32 : Div m6_again 32 m6_present 1 35 := ⟨147, by decide +kernel, lk_X6_147, v_6_present, rfl⟩
theorem d6_again_35 : mR m6_again = some .int ∧ decode (mB m6_again) 35 = .ok (.ireturn, 1) := ⟨rfl, by decide +kernel⟩
theorem d6_save_0 : Dil m6_save 0 1 1 := Or.inl ⟨1, by decide +kernel, rfl, rfl⟩
theorem d6_save_1 : Dc m6_save 1 (.iconst 0) 1 2 := ⟨by decide +kernel, rfl⟩
theorem d6_save_2 : Dc m6_save 2 (.iconst 2) 1 3 := ⟨by decide +kernel, rfl⟩
theorem d6_save_3 : Dis' m6_save 3 m6_in 3 6 := ⟨59, by decide +kernel, lk_X6_59, s_6_in, rfl⟩
end
section
/-! ===== decode rows of X6 ===== -/
theorem d6_save_6 : Dif m6_save 6 .ne 12 9 := ⟨(6), by decide +kernel, by decide, rfl⟩
theorem d6_save_9 : Dc m6_save 9 (.bipush (-12)) 2 11 := ⟨by decide +kernel, rfl⟩
theorem d6_save_11 : mR m6_save = some .int ∧ decode (mB m6_save) 11 = .ok (.ireturn, 1) := ⟨rfl, by decide +kernel⟩
theorem d6_save_12 : Dc m6_save 12 (.iconst 0) 1 13 := ⟨by decide +kernel, rfl⟩
theorem d6_save_13 : Dis m6_save 13 2 14 := Or.inl ⟨2, by decide +kernel, rfl, rfl⟩
theorem d6_save_14 : Dil m6_save 14 2 15 := Or.inl ⟨2, by decide +kernel, rfl, rfl⟩
theorem d6_save_15 : Dc m6_save 15 (.bipush 8) 2 17 := ⟨by decide +kernel, rfl⟩
theorem d6_save_17 : Dic m6_save 17 .ge 42 20 := ⟨(25), by decide +kernel, by decide, rfl⟩
theorem d6_save_20 : Dal m6_save 20 0 21 := Or.inl ⟨0, by decide +kernel, rfl, rfl⟩
theorem d6_save_21 : Dgf m6_save 21 6 8 24 := ⟨19, by decide +kernel, f_X6_19, rfl⟩
theorem d6_save_24 : Dc m6_save 24 (.bipush 8) 2 26 := ⟨by decide +kernel, rfl⟩
theorem d6_save_26 : Dil m6_save 26 1 27 := Or.inl ⟨1, by decide +kernel, rfl, rfl⟩
theorem d6_save_27 : Dc m6_save 27 .imul 1 28 := ⟨by decide +kernel, rfl⟩
theorem d6_save_28 : Dil m6_save 28 2 29 := Or.inl ⟨2, by decide +kernel, rfl, rfl⟩
theorem d6_save_29 : Dc m6_save 29 .iadd 1 30 := ⟨by decide +kernel, rfl⟩
theorem d6_save_30 : Dal m6_save 30 0 31 := Or.inl ⟨0, by decide +kernel, rfl, rfl⟩
theorem d6_save_31 : Dil m6_save 31 2 32 := Or.inl ⟨2, by decide +kernel, rfl, rfl⟩
theorem d6_save_32 : Div m6_save 32 m6_present 1 35 := ⟨147, by decide +kernel, lk_X6_147, v_6_present, rfl⟩
theorem d6_save_35 : Dc m6_save 35 .iastore 1 36 := ⟨by decide +kernel, rfl⟩
theorem d6_save_36 : Dc m6_save 36 (.iinc 2 1) 3 39 := ⟨by decide +kernel, rfl⟩
theorem d6_save_39 : Dgo m6_save 39 14 := ⟨(-25), by decide +kernel, by decide⟩
theorem d6_save_42 : Dal m6_save 42 0 43 := Or.inl ⟨0, by decide +kernel, rfl, rfl⟩
theorem d6_save_43 : Dgf m6_save 43 6 9 46 := ⟨22, by decide +kernel, f_X6_22, rfl⟩
theorem d6_save_46 : Dil m6_save 46 1 47 := Or.inl ⟨1, by decide +kernel, rfl, rfl⟩
theorem d6_save_47 : Dc m6_save 47 (.iconst 1) 1 48 := ⟨by decide +kernel, rfl⟩
theorem d6_save_48 : Dc m6_save 48 .bastore 1 49 := ⟨by decide +kernel, rfl⟩
theorem d6_save_49 : Dal m6_save 49 0 50 := Or.inl ⟨0, by decide +kernel, rfl, rfl⟩
theorem d6_save_50 : Dc m6_save 50 (.iconst 0) 1 51 := ⟨by decide +kernel, rfl⟩
theorem d6_save_51 : Div m6_save 51 m6_present 1 54 := ⟨147, by decide +kernel, lk_X6_147, v_6_present, rfl⟩
theorem d6_save_54 : mR m6_save = some .int ∧ decode (mB m6_save) 54 = .ok (.ireturn, 1) := ⟨rfl, by decide +kernel⟩
theorem d6_restore_0 : Dil m6_restore 0 1 1 := Or.inl ⟨1, by decide +kernel, rfl, rfl⟩
theorem d6_restore_1 : Dc m6_restore 1 (.iconst 0) 1 2 := ⟨by decide +kernel, rfl⟩
theorem d6_restore_2 : Dc m6_restore 2 (.iconst 2) 1 3 := ⟨by decide +kernel, rfl⟩
theorem d6_restore_3 : Dis' m6_restore 3 m6_in 3 6 := ⟨59, by decide +kernel, lk_X6_59, s_6_in, rfl⟩
theorem d6_restore_6 : Dif m6_restore 6 .ne 12 9 := ⟨(6), by decide +kernel, by decide, rfl⟩
theorem d6_restore_9 : Dc m6_restore 9 (.bipush (-12)) 2 11 := ⟨by decide +kernel, rfl⟩
theorem d6_restore_11 : mR m6_restore = some .int ∧ decode (mB m6_restore) 11 = .ok (.ireturn, 1) := ⟨rfl, by decide +kernel⟩
theorem d6_restore_12 : Dal m6_restore 12 0 13 := Or.inl ⟨0, by decide +kernel, rfl, rfl⟩
theorem d6_restore_13 : Dgf m6_restore 13 6 9 16 := ⟨22, by decide +kernel, f_X6_22, rfl⟩
theorem d6_restore_16 : Dil m6_restore 16 1 17 := Or.inl ⟨1, by decide +kernel, rfl, rfl⟩
theorem d6_restore_17 : Dc m6_restore 17 .baload 1 18 := ⟨by decide +kernel, rfl⟩
theorem d6_restore_18 : Dif m6_restore 18 .ne 24 21 := ⟨(6), by decide +kernel, by decide, rfl⟩
theorem d6_restore_21 : Dc m6_restore 21 (.bipush (-13)) 2 23 := ⟨by decide +kernel, rfl⟩
theorem d6_restore_23 : mR m6_restore = some .int ∧ decode (mB m6_restore) 23 = .ok (.ireturn, 1) := ⟨rfl, by decide +kernel⟩
theorem d6_restore_24 : Dal m6_restore 24 0 25 := Or.inl ⟨0, by decide +kernel, rfl, rfl⟩
theorem d6_restore_25 : Dc m6_restore 25 (.iconst 0) 1 26 := ⟨by decide +kernel, rfl⟩
theorem d6_restore_26 : Dpf m6_restore 26 6 5 .int false 29 := ⟨135, by decide +kernel, f_X6_135, p_X6_X6_5, rfl⟩
theorem d6_restore_29 : Dal m6_restore 29 0 30 := Or.inl ⟨0, by decide +kernel, rfl, rfl⟩
theorem d6_restore_30 : Dc m6_restore 30 (.iconst 1) 1 31 := ⟨by decide +kernel, rfl⟩
theorem d6_restore_31 : Dpf m6_restore 31 6 6 .int false 34 := ⟨138, by decide +kernel, f_X6_138, p_X6_X6_6, rfl⟩
theorem d6_restore_34 : Dal m6_restore 34 0 35 := Or.inl ⟨0, by decide +kernel, rfl, rfl⟩
theorem d6_restore_35 : Dc m6_restore 35 (.iconst 0) 1 36 := ⟨by decide +kernel, rfl⟩
theorem d6_restore_36 : Dpf m6_restore 36 6 7 .int false 39 := ⟨150, by decide +kernel, f_X6_150, p_X6_X6_7, rfl⟩
theorem d6_restore_39 : Dc m6_restore 39 (.iconst 0) 1 40 := ⟨by decide +kernel, rfl⟩
theorem d6_restore_40 : Dis m6_restore 40 2 41 := Or.inl ⟨2, by decide +kernel, rfl, rfl⟩
theorem d6_restore_41 : Dil m6_restore 41 2 42 := Or.inl ⟨2, by decide +kernel, rfl, rfl⟩
theorem d6_restore_42 : Dc m6_restore 42 (.bipush 8) 2 44 := ⟨by decide +kernel, rfl⟩
theorem d6_restore_44 : Dic m6_restore 44 .ge 70 47 := ⟨(26), by decide +kernel, by decide, rfl⟩
theorem d6_restore_47 : Dal m6_restore 47 0 48 := Or.inl ⟨0, by decide +kernel, rfl, rfl⟩
theorem d6_restore_48 : Dgf m6_restore 48 6 4 51 := ⟨16, by decide +kernel, f_X6_16, rfl⟩
theorem d6_restore_51 : Dil m6_restore 51 2 52 := Or.inl ⟨2, by decide +kernel, rfl, rfl⟩
theorem d6_restore_52 : Dal m6_restore 52 0 53 := Or.inl ⟨0, by decide +kernel, rfl, rfl⟩
theorem d6_restore_53 : Dgf m6_restore 53 6 8 56 := ⟨19, by decide +kernel, f_X6_19, rfl⟩
theorem d6_restore_56 : Dc m6_restore 56 (.bipush 8) 2 58 := ⟨by decide +kernel, rfl⟩
theorem d6_restore_58 : Dil m6_restore 58 1 59 := Or.inl ⟨1, by decide +kernel, rfl, rfl⟩
theorem d6_restore_59 : Dc m6_restore 59 .imul 1 60 := ⟨by decide +kernel, rfl⟩
theorem d6_restore_60 : Dil m6_restore 60 2 61 := Or.inl ⟨2, by decide +kernel, rfl, rfl⟩
theorem d6_restore_61 : Dc m6_restore 61 .iadd 1 62 := ⟨by decide +kernel, rfl⟩
theorem d6_restore_62 : Dc m6_restore 62 .iaload 1 63 := ⟨by decide +kernel, rfl⟩
theorem d6_restore_63 : Dc m6_restore 63 .iastore 1 64 := ⟨by decide +kernel, rfl⟩
theorem d6_restore_64 : Dc m6_restore 64 (.iinc 2 1) 3 67 := ⟨by decide +kernel, rfl⟩
theorem d6_restore_67 : Dgo m6_restore 67 41 := ⟨(-26), by decide +kernel, by decide⟩
theorem d6_restore_70 : Dal m6_restore 70 0 71 := Or.inl ⟨0, by decide +kernel, rfl, rfl⟩
theorem d6_restore_71 : Dc m6_restore 71 .dup 1 72 := ⟨by decide +kernel, rfl⟩
theorem d6_restore_72 : Dgf m6_restore 72 6 10 75 := ⟨144, by decide +kernel, f_X6_144, rfl⟩
theorem d6_restore_75 : Dc m6_restore 75 (.iconst 1) 1 76 := ⟨by decide +kernel, rfl⟩
theorem d6_restore_76 : Dal m6_restore 76 0 77 := Or.inl ⟨0, by decide +kernel, rfl, rfl⟩
theorem d6_restore_77 : Dc m6_restore 77 (.iconst 0) 1 78 := ⟨by decide +kernel, rfl⟩
theorem d6_restore_78 : Div m6_restore 78 m6_present 1 81 := ⟨147, by decide +kernel, lk_X6_147, v_6_present, rfl⟩
theorem d6_restore_81 : Dc m6_restore 81 .ishl 1 82 := ⟨by decide +kernel, rfl⟩
theorem d6_restore_82 : Dc m6_restore 82 .ior 1 83 := ⟨by decide +kernel, rfl⟩
theorem d6_restore_83 : Dpf m6_restore 83 6 10 .int false 86 := ⟨144, by decide +kernel, f_X6_144, p_X6_X6_10, rfl⟩
theorem d6_restore_86 : Dal m6_restore 86 0 87 := Or.inl ⟨0, by decide +kernel, rfl, rfl⟩
theorem d6_restore_87 : Dc m6_restore 87 (.iconst 0) 1 88 := ⟨by decide +kernel, rfl⟩
theorem d6_restore_88 : Div m6_restore 88 m6_present 1 91 := ⟨147, by decide +kernel, lk_X6_147, v_6_present, rfl⟩
theorem d6_restore_91 : mR m6_restore = some .int ∧ decode (mB m6_restore) 91 = .ok (.ireturn, 1) := ⟨rfl, by decide +kernel⟩
theorem d6_open_0 : Dal m6_open 0 0 1 := Or.inl ⟨0, by decide +kernel, rfl, rfl⟩
theorem d6_open_1 : Dc m6_open 1 (.iconst 0) 1 2 := ⟨by decide +kernel, rfl⟩
theorem d6_open_2 : Div m6_open 2 m6_present 1 5 := ⟨147, by decide +kernel, lk_X6_147, v_6_present, rfl⟩
theorem d6_open_5 : Dis m6_open 5 1 6 := Or.inl ⟨1, by decide +kernel, rfl, rfl⟩
theorem d6_open_6 : Dc m6_open 6 (.iconst 0) 1 7 := ⟨by decide +kernel, rfl⟩
theorem d6_open_7 : Dis m6_open 7 2 8 := Or.inl ⟨2, by decide +kernel, rfl, rfl⟩
theorem d6_open_8 : Dc m6_open 8 (.iconst 0) 1 9 := ⟨by decide +kernel, rfl⟩
theorem d6_open_9 : Dis m6_open 9 3 10 := Or.inl ⟨3, by decide +kernel, rfl, rfl⟩
theorem d6_open_10 : Dil m6_open 10 3 11 := Or.inl ⟨3, by decide +kernel, rfl, rfl⟩
theorem d6_open_11 : Dal m6_open 11 0 12 := Or.inl ⟨0, by decide +kernel, rfl, rfl⟩
theorem d6_open_12 : Dil m6_open 12 1 13 := Or.inl ⟨1, by decide +kernel, rfl, rfl⟩
theorem d6_open_13 : Dc m6_open 13 (.iconst 1) 1 14 := ⟨by decide +kernel, rfl⟩
theorem d6_open_14 : Div m6_open 14 m6_of 2 17 := ⟨119, by decide +kernel, lk_X6_119, v_6_of, rfl⟩
theorem d6_open_17 : Dic m6_open 17 .ge 50 20 := ⟨(33), by decide +kernel, by decide, rfl⟩
theorem d6_open_20 : Dil m6_open 20 2 21 := Or.inl ⟨2, by decide +kernel, rfl, rfl⟩
theorem d6_open_21 : Dal m6_open 21 0 22 := Or.inl ⟨0, by decide +kernel, rfl, rfl⟩
theorem d6_open_22 : Dil m6_open 22 1 23 := Or.inl ⟨1, by decide +kernel, rfl, rfl⟩
theorem d6_open_23 : Dil m6_open 23 3 24 := Or.inl ⟨3, by decide +kernel, rfl, rfl⟩
theorem d6_open_24 : Dal m6_open 24 0 25 := Or.inl ⟨0, by decide +kernel, rfl, rfl⟩
theorem d6_open_25 : Dc m6_open 25 (.iconst 1) 1 26 := ⟨by decide +kernel, rfl⟩
theorem d6_open_26 : Div m6_open 26 m6_present 1 29 := ⟨147, by decide +kernel, lk_X6_147, v_6_present, rfl⟩
theorem d6_open_29 : Div m6_open 29 m6_isLocked 3 32 := ⟨165, by decide +kernel, lk_X6_165, v_6_isLocked, rfl⟩
theorem d6_open_32 : Dif m6_open 32 .eq 39 35 := ⟨(7), by decide +kernel, by decide, rfl⟩
theorem d6_open_35 : Dc m6_open 35 (.iconst 0) 1 36 := ⟨by decide +kernel, rfl⟩
theorem d6_open_36 : Dgo m6_open 36 42 := ⟨6, by decide +kernel, by decide⟩
theorem d6_open_39 : Dc m6_open 39 (.iconst 1) 1 40 := ⟨by decide +kernel, rfl⟩
theorem d6_open_40 : Dil m6_open 40 3 41 := Or.inl ⟨3, by decide +kernel, rfl, rfl⟩
theorem d6_open_41 : Dc m6_open 41 .ishl 1 42 := ⟨by decide +kernel, rfl⟩
theorem d6_open_42 : Dc m6_open 42 .ior 1 43 := ⟨by decide +kernel, rfl⟩
theorem d6_open_43 : Dis m6_open 43 2 44 := Or.inl ⟨2, by decide +kernel, rfl, rfl⟩
theorem d6_open_44 : Dc m6_open 44 (.iinc 3 1) 3 47 := ⟨by decide +kernel, rfl⟩
theorem d6_open_47 : Dgo m6_open 47 10 := ⟨(-37), by decide +kernel, by decide⟩
theorem d6_open_50 : Dil m6_open 50 2 51 := Or.inl ⟨2, by decide +kernel, rfl, rfl⟩
theorem d6_open_51 : mR m6_open = some .int ∧ decode (mB m6_open) 51 = .ok (.ireturn, 1) := ⟨rfl, by decide +kernel⟩
theorem d6_shown_0 : Dal m6_shown 0 0 1 := Or.inl ⟨0, by decide +kernel, rfl, rfl⟩
theorem d6_shown_1 : Dc m6_shown 1 (.iconst 0) 1 2 := ⟨by decide +kernel, rfl⟩
theorem d6_shown_2 : Div m6_shown 2 m6_present 1 5 := ⟨147, by decide +kernel, lk_X6_147, v_6_present, rfl⟩
theorem d6_shown_5 : Dis m6_shown 5 2 6 := Or.inl ⟨2, by decide +kernel, rfl, rfl⟩
theorem d6_shown_6 : Dal m6_shown 6 0 7 := Or.inl ⟨0, by decide +kernel, rfl, rfl⟩
theorem d6_shown_7 : Dil m6_shown 7 2 8 := Or.inl ⟨2, by decide +kernel, rfl, rfl⟩
theorem d6_shown_8 : Div m6_shown 8 m6_shownKind 1 11 := ⟨129, by decide +kernel, lk_X6_129, v_6_shownKind, rfl⟩
theorem d6_shown_11 : Dis m6_shown 11 3 12 := Or.inl ⟨3, by decide +kernel, rfl, rfl⟩
theorem d6_shown_12 : Dil m6_shown 12 1 13 := Or.inl ⟨1, by decide +kernel, rfl, rfl⟩
theorem d6_shown_13 : Dts m6_shown 13 0 [52, 54, 56, 72, 100, 106] 121 := ⟨108, 5, #[39, 41, 43, 59, 87, 93], 39, by decide +kernel, by decide, by decide, rfl, by decide⟩
theorem d6_shown_52 : Dil m6_shown 52 2 53 := Or.inl ⟨2, by decide +kernel, rfl, rfl⟩
theorem d6_shown_53 : mR m6_shown = some .int ∧ decode (mB m6_shown) 53 = .ok (.ireturn, 1) := ⟨rfl, by decide +kernel⟩
theorem d6_shown_54 : Dil m6_shown 54 3 55 := Or.inl ⟨3, by decide +kernel, rfl, rfl⟩
theorem d6_shown_55 : mR m6_shown = some .int ∧ decode (mB m6_shown) 55 = .ok (.ireturn, 1) := ⟨rfl, by decide +kernel⟩
theorem d6_shown_56 : Dil m6_shown 56 3 57 := Or.inl ⟨3, by decide +kernel, rfl, rfl⟩
theorem d6_shown_57 : Dif m6_shown 57 .ne 69 60 := ⟨(12), by decide +kernel, by decide, rfl⟩
theorem d6_shown_60 : Dal m6_shown 60 0 61 := Or.inl ⟨0, by decide +kernel, rfl, rfl⟩
theorem d6_shown_61 : Dil m6_shown 61 2 62 := Or.inl ⟨2, by decide +kernel, rfl, rfl⟩
theorem d6_shown_62 : Dc m6_shown 62 (.iconst 1) 1 63 := ⟨by decide +kernel, rfl⟩
theorem d6_shown_63 : Div m6_shown 63 m6_of 2 66 := ⟨119, by decide +kernel, lk_X6_119, v_6_of, rfl⟩
theorem d6_shown_66 : Dgo m6_shown 66 71 := ⟨5, by decide +kernel, by decide⟩
theorem d6_shown_69 : Dc m6_shown 69 (.bipush (-11)) 2 71 := ⟨by decide +kernel, rfl⟩
theorem d6_shown_71 : mR m6_shown = some .int ∧ decode (mB m6_shown) 71 = .ok (.ireturn, 1) := ⟨rfl, by decide +kernel⟩
theorem d6_shown_72 : Dil m6_shown 72 3 73 := Or.inl ⟨3, by decide +kernel, rfl, rfl⟩
theorem d6_shown_73 : Dc m6_shown 73 (.iconst 2) 1 74 := ⟨by decide +kernel, rfl⟩
theorem d6_shown_74 : Dic m6_shown 74 .ne 85 77 := ⟨(11), by decide +kernel, by decide, rfl⟩
theorem d6_shown_77 : Dal m6_shown 77 0 78 := Or.inl ⟨0, by decide +kernel, rfl, rfl⟩
theorem d6_shown_78 : Dil m6_shown 78 2 79 := Or.inl ⟨2, by decide +kernel, rfl, rfl⟩
theorem d6_shown_79 : Div m6_shown 79 m6_endOf 1 82 := ⟨168, by decide +kernel, lk_X6_168, v_6_endOf, rfl⟩
theorem d6_shown_82 : Dgo m6_shown 82 99 := ⟨17, by decide +kernel, by decide⟩
theorem d6_shown_85 : Dal m6_shown 85 0 86 := Or.inl ⟨0, by decide +kernel, rfl, rfl⟩
theorem d6_shown_86 : Dil m6_shown 86 2 87 := Or.inl ⟨2, by decide +kernel, rfl, rfl⟩
theorem d6_shown_87 : Dil m6_shown 87 3 88 := Or.inl ⟨3, by decide +kernel, rfl, rfl⟩
theorem d6_shown_88 : Dif m6_shown 88 .ne 95 91 := ⟨(7), by decide +kernel, by decide, rfl⟩
theorem d6_shown_91 : Dc m6_shown 91 (.iconst 2) 1 92 := ⟨by decide +kernel, rfl⟩
theorem d6_shown_92 : Dgo m6_shown 92 96 := ⟨4, by decide +kernel, by decide⟩
theorem d6_shown_95 : Dc m6_shown 95 (.iconst 1) 1 96 := ⟨by decide +kernel, rfl⟩
theorem d6_shown_96 : Div m6_shown 96 m6_of 2 99 := ⟨119, by decide +kernel, lk_X6_119, v_6_of, rfl⟩
theorem d6_shown_99 : mR m6_shown = some .int ∧ decode (mB m6_shown) 99 = .ok (.ireturn, 1) := ⟨rfl, by decide +kernel⟩
theorem d6_shown_100 : Dal m6_shown 100 0 101 := Or.inl ⟨0, by decide +kernel, rfl, rfl⟩
theorem d6_shown_101 : Dc m6_shown 101 (.iconst 1) 1 102 := ⟨by decide +kernel, rfl⟩
theorem d6_shown_102 : Div m6_shown 102 m6_present 1 105 := ⟨147, by decide +kernel, lk_X6_147, v_6_present, rfl⟩
theorem d6_shown_105 : mR m6_shown = some .int ∧ decode (mB m6_shown) 105 = .ok (.ireturn, 1) := ⟨rfl, by decide +kernel⟩
theorem d6_shown_106 : Dil m6_shown 106 3 107 := Or.inl ⟨3, by decide +kernel, rfl, rfl⟩
theorem d6_shown_107 : Dc m6_shown 107 (.iconst 1) 1 108 := ⟨by decide +kernel, rfl⟩
theorem d6_shown_108 : Dic m6_shown 108 .ne 118 111 := ⟨(10), by decide +kernel, by decide, rfl⟩
theorem d6_shown_111 : Dal m6_shown 111 0 112 := Or.inl ⟨0, by decide +kernel, rfl, rfl⟩
theorem d6_shown_112 : Div m6_shown 112 m6_open 0 115 := ⟨171, by decide +kernel, lk_X6_171, v_6_open, rfl⟩
theorem d6_shown_115 : Dgo m6_shown 115 120 := ⟨5, by decide +kernel, by decide⟩
theorem d6_shown_118 : Dc m6_shown 118 (.bipush (-11)) 2 120 := ⟨by decide +kernel, rfl⟩
theorem d6_shown_120 : mR m6_shown = some .int ∧ decode (mB m6_shown) 120 = .ok (.ireturn, 1) := ⟨rfl, by decide +kernel⟩
theorem d6_shown_121 : Dc m6_shown 121 (.bipush (-12)) 2 123 := ⟨by decide +kernel, rfl⟩
theorem d6_shown_123 : mR m6_shown = some .int ∧ decode (mB m6_shown) 123 = .ok (.ireturn, 1) := ⟨rfl, by decide +kernel⟩
theorem d6_portrait_0 : Dil m6_portrait 0 1 1 := Or.inl ⟨1, by decide +kernel, rfl, rfl⟩
theorem d6_portrait_1 : Dc m6_portrait 1 (.iconst 0) 1 2 := ⟨by decide +kernel, rfl⟩
theorem d6_portrait_2 : Dc m6_portrait 2 (.iconst 2) 1 3 := ⟨by decide +kernel, rfl⟩
theorem d6_portrait_3 : Dis' m6_portrait 3 m6_in 3 6 := ⟨59, by decide +kernel, lk_X6_59, s_6_in, rfl⟩
theorem d6_portrait_6 : Dif m6_portrait 6 .eq 27 9 := ⟨(21), by decide +kernel, by decide, rfl⟩
theorem d6_portrait_9 : Dal m6_portrait 9 0 10 := Or.inl ⟨0, by decide +kernel, rfl, rfl⟩
theorem d6_portrait_10 : Dil m6_portrait 10 2 11 := Or.inl ⟨2, by decide +kernel, rfl, rfl⟩
theorem d6_portrait_11 : Dif m6_portrait 11 .eq 18 14 := ⟨(7), by decide +kernel, by decide, rfl⟩
theorem d6_portrait_14 : Dc m6_portrait 14 (.iconst 5) 1 15 := ⟨by decide +kernel, rfl⟩
theorem d6_portrait_15 : Dgo m6_portrait 15 19 := ⟨4, by decide +kernel, by decide⟩
theorem d6_portrait_18 : Dc m6_portrait 18 (.iconst 2) 1 19 := ⟨by decide +kernel, rfl⟩
theorem d6_portrait_19 : Dil m6_portrait 19 1 20 := Or.inl ⟨1, by decide +kernel, rfl, rfl⟩
theorem d6_portrait_20 : Dc m6_portrait 20 .iadd 1 21 := ⟨by decide +kernel, rfl⟩
theorem d6_portrait_21 : Div m6_portrait 21 m6_present 1 24 := ⟨147, by decide +kernel, lk_X6_147, v_6_present, rfl⟩
theorem d6_portrait_24 : Dgo m6_portrait 24 29 := ⟨5, by decide +kernel, by decide⟩
theorem d6_portrait_27 : Dc m6_portrait 27 (.bipush (-12)) 2 29 := ⟨by decide +kernel, rfl⟩
theorem d6_portrait_29 : mR m6_portrait = some .int ∧ decode (mB m6_portrait) 29 = .ok (.ireturn, 1) := ⟨rfl, by decide +kernel⟩
theorem d6_isNode_0 : Dil m6_isNode 0 1 1 := Or.inl ⟨1, by decide +kernel, rfl, rfl⟩
theorem d6_isNode_1 : Dc m6_isNode 1 (.iconst 0) 1 2 := ⟨by decide +kernel, rfl⟩
theorem d6_isNode_2 : Dal m6_isNode 2 0 3 := Or.inl ⟨0, by decide +kernel, rfl, rfl⟩
theorem d6_isNode_3 : Dgf m6_isNode 3 6 1 6 := ⟨116, by decide +kernel, f_X6_116, rfl⟩
theorem d6_isNode_6 : Dc m6_isNode 6 (.iconst 1) 1 7 := ⟨by decide +kernel, rfl⟩
theorem d6_isNode_7 : Dc m6_isNode 7 .isub 1 8 := ⟨by decide +kernel, rfl⟩
theorem d6_isNode_8 : Dis' m6_isNode 8 m6_in 3 11 := ⟨59, by decide +kernel, lk_X6_59, s_6_in, rfl⟩
theorem d6_isNode_11 : mR m6_isNode = some .boolean ∧ decode (mB m6_isNode) 11 = .ok (.ireturn, 1) := ⟨rfl, by decide +kernel⟩
theorem d6_node_0 : Dal m6_node 0 0 1 := Or.inl ⟨0, by decide +kernel, rfl, rfl⟩
theorem d6_node_1 : Dil m6_node 1 1 2 := Or.inl ⟨1, by decide +kernel, rfl, rfl⟩
theorem d6_node_2 : Div m6_node 2 m6_isNode 1 5 := ⟨174, by decide +kernel, lk_X6_174, v_6_isNode, rfl⟩
theorem d6_node_5 : Dif m6_node 5 .eq 26 8 := ⟨(21), by decide +kernel, by decide, rfl⟩
theorem d6_node_8 : Dil m6_node 8 2 9 := Or.inl ⟨2, by decide +kernel, rfl, rfl⟩
theorem d6_node_9 : Dc m6_node 9 (.iconst 0) 1 10 := ⟨by decide +kernel, rfl⟩
theorem d6_node_10 : Dc m6_node 10 (.iconst 3) 1 11 := ⟨by decide +kernel, rfl⟩
theorem d6_node_11 : Dis' m6_node 11 m6_in 3 14 := ⟨59, by decide +kernel, lk_X6_59, s_6_in, rfl⟩
theorem d6_node_14 : Dif m6_node 14 .eq 26 17 := ⟨(12), by decide +kernel, by decide, rfl⟩
theorem d6_node_17 : Dal m6_node 17 0 18 := Or.inl ⟨0, by decide +kernel, rfl, rfl⟩
theorem d6_node_18 : Dil m6_node 18 1 19 := Or.inl ⟨1, by decide +kernel, rfl, rfl⟩
theorem d6_node_19 : Dil m6_node 19 2 20 := Or.inl ⟨2, by decide +kernel, rfl, rfl⟩
theorem d6_node_20 : Div m6_node 20 m6_of 2 23 := ⟨119, by decide +kernel, lk_X6_119, v_6_of, rfl⟩
theorem d6_node_23 : Dgo m6_node 23 28 := ⟨5, by decide +kernel, by decide⟩
theorem d6_node_26 : Dc m6_node 26 (.bipush (-12)) 2 28 := ⟨by decide +kernel, rfl⟩
theorem d6_node_28 : mR m6_node = some .int ∧ decode (mB m6_node) 28 = .ok (.ireturn, 1) := ⟨rfl, by decide +kernel⟩
theorem d6_isChoice_0 : Dal m6_isChoice 0 0 1 := Or.inl ⟨0, by decide +kernel, rfl, rfl⟩
theorem d6_isChoice_1 : Dil m6_isChoice 1 1 2 := Or.inl ⟨1, by decide +kernel, rfl, rfl⟩
theorem d6_isChoice_2 : Div m6_isChoice 2 m6_isNode 1 5 := ⟨174, by decide +kernel, lk_X6_174, v_6_isNode, rfl⟩
theorem d6_isChoice_5 : Dif m6_isChoice 5 .eq 23 8 := ⟨(18), by decide +kernel, by decide, rfl⟩
theorem d6_isChoice_8 : Dal m6_isChoice 8 0 9 := Or.inl ⟨0, by decide +kernel, rfl, rfl⟩
theorem d6_isChoice_9 : Dil m6_isChoice 9 1 10 := Or.inl ⟨1, by decide +kernel, rfl, rfl⟩
theorem d6_isChoice_10 : Dc m6_isChoice 10 (.iconst 0) 1 11 := ⟨by decide +kernel, rfl⟩
theorem d6_isChoice_11 : Div m6_isChoice 11 m6_of 2 14 := ⟨119, by decide +kernel, lk_X6_119, v_6_of, rfl⟩
theorem d6_isChoice_14 : Dc m6_isChoice 14 (.bipush 6) 2 16 := ⟨by decide +kernel, rfl⟩
theorem d6_isChoice_16 : Dic m6_isChoice 16 .ne 23 19 := ⟨(7), by decide +kernel, by decide, rfl⟩
theorem d6_isChoice_19 : Dc m6_isChoice 19 (.iconst 1) 1 20 := ⟨by decide +kernel, rfl⟩
theorem d6_isChoice_20 : Dgo m6_isChoice 20 24 := ⟨4, by decide +kernel, by decide⟩
theorem d6_isChoice_23 : Dc m6_isChoice 23 (.iconst 0) 1 24 := ⟨by decide +kernel, rfl⟩
theorem d6_isChoice_24 : mR m6_isChoice = some .boolean ∧ decode (mB m6_isChoice) 24 = .ok (.ireturn, 1) := ⟨rfl, by decide +kernel⟩
theorem d6_option_0 : Dal m6_option 0 0 1 := Or.inl ⟨0, by decide +kernel, rfl, rfl⟩
theorem d6_option_1 : Dil m6_option 1 1 2 := Or.inl ⟨1, by decide +kernel, rfl, rfl⟩
theorem d6_option_2 : Div m6_option 2 m6_isChoice 1 5 := ⟨178, by decide +kernel, lk_X6_178, v_6_isChoice, rfl⟩
theorem d6_option_5 : Dif m6_option 5 .eq 21 8 := ⟨(16), by decide +kernel, by decide, rfl⟩
theorem d6_option_8 : Dil m6_option 8 2 9 := Or.inl ⟨2, by decide +kernel, rfl, rfl⟩
theorem d6_option_9 : Dif m6_option 9 .lt 21 12 := ⟨(12), by decide +kernel, by decide, rfl⟩
theorem d6_option_12 : Dil m6_option 12 3 13 := Or.inl ⟨3, by decide +kernel, rfl, rfl⟩
theorem d6_option_13 : Dc m6_option 13 (.iconst 0) 1 14 := ⟨by decide +kernel, rfl⟩
theorem d6_option_14 : Dc m6_option 14 (.iconst 2) 1 15 := ⟨by decide +kernel, rfl⟩
theorem d6_option_15 : Dis' m6_option 15 m6_in 3 18 := ⟨59, by decide +kernel, lk_X6_59, s_6_in, rfl⟩
theorem d6_option_18 : Dif m6_option 18 .ne 24 21 := ⟨(6), by decide +kernel, by decide, rfl⟩
theorem d6_option_21 : Dc m6_option 21 (.bipush (-12)) 2 23 := ⟨by decide +kernel, rfl⟩
theorem d6_option_23 : mR m6_option = some .int ∧ decode (mB m6_option) 23 = .ok (.ireturn, 1) := ⟨rfl, by decide +kernel⟩
theorem d6_option_24 : Dil m6_option 24 2 25 := Or.inl ⟨2, by decide +kernel, rfl, rfl⟩
theorem d6_option_25 : Dal m6_option 25 0 26 := Or.inl ⟨0, by decide +kernel, rfl, rfl⟩
theorem d6_option_26 : Dil m6_option 26 1 27 := Or.inl ⟨1, by decide +kernel, rfl, rfl⟩
theorem d6_option_27 : Dc m6_option 27 (.iconst 1) 1 28 := ⟨by decide +kernel, rfl⟩
theorem d6_option_28 : Div m6_option 28 m6_of 2 31 := ⟨119, by decide +kernel, lk_X6_119, v_6_of, rfl⟩
theorem d6_option_31 : Dic m6_option 31 .lt 37 34 := ⟨(6), by decide +kernel, by decide, rfl⟩
theorem d6_option_34 : Dc m6_option 34 (.bipush (-11)) 2 36 := ⟨by decide +kernel, rfl⟩
theorem d6_option_36 : mR m6_option = some .int ∧ decode (mB m6_option) 36 = .ok (.ireturn, 1) := ⟨rfl, by decide +kernel⟩
theorem d6_option_37 : Dal m6_option 37 0 38 := Or.inl ⟨0, by decide +kernel, rfl, rfl⟩
theorem d6_option_38 : Dil m6_option 38 1 39 := Or.inl ⟨1, by decide +kernel, rfl, rfl⟩
theorem d6_option_39 : Dc m6_option 39 (.iconst 4) 1 40 := ⟨by decide +kernel, rfl⟩
theorem d6_option_40 : Dc m6_option 40 (.iconst 2) 1 41 := ⟨by decide +kernel, rfl⟩
theorem d6_option_41 : Dil m6_option 41 2 42 := Or.inl ⟨2, by decide +kernel, rfl, rfl⟩
theorem d6_option_42 : Dc m6_option 42 .imul 1 43 := ⟨by decide +kernel, rfl⟩
theorem d6_option_43 : Dc m6_option 43 .iadd 1 44 := ⟨by decide +kernel, rfl⟩
theorem d6_option_44 : Dc m6_option 44 (.iconst 1) 1 45 := ⟨by decide +kernel, rfl⟩
theorem d6_option_45 : Dc m6_option 45 .iadd 1 46 := ⟨by decide +kernel, rfl⟩
theorem d6_option_46 : Div m6_option 46 m6_of 2 49 := ⟨119, by decide +kernel, lk_X6_119, v_6_of, rfl⟩
theorem d6_option_49 : Dis m6_option 49 4 51 := Or.inr ⟨by decide +kernel, rfl⟩
theorem d6_option_51 : Dil m6_option 51 3 52 := Or.inl ⟨3, by decide +kernel, rfl, rfl⟩
theorem d6_option_52 : Dif m6_option 52 .ne 66 55 := ⟨(14), by decide +kernel, by decide, rfl⟩
theorem d6_option_55 : Dal m6_option 55 0 56 := Or.inl ⟨0, by decide +kernel, rfl, rfl⟩
theorem d6_option_56 : Dil m6_option 56 1 57 := Or.inl ⟨1, by decide +kernel, rfl, rfl⟩
theorem d6_option_57 : Dc m6_option 57 (.iconst 4) 1 58 := ⟨by decide +kernel, rfl⟩
theorem d6_option_58 : Dc m6_option 58 (.iconst 2) 1 59 := ⟨by decide +kernel, rfl⟩
theorem d6_option_59 : Dil m6_option 59 2 60 := Or.inl ⟨2, by decide +kernel, rfl, rfl⟩
theorem d6_option_60 : Dc m6_option 60 .imul 1 61 := ⟨by decide +kernel, rfl⟩
theorem d6_option_61 : Dc m6_option 61 .iadd 1 62 := ⟨by decide +kernel, rfl⟩
theorem d6_option_62 : Div m6_option 62 m6_of 2 65 := ⟨119, by decide +kernel, lk_X6_119, v_6_of, rfl⟩
theorem d6_option_65 : mR m6_option = some .int ∧ decode (mB m6_option) 65 = .ok (.ireturn, 1) := ⟨rfl, by decide +kernel⟩
theorem d6_option_66 : Dil m6_option 66 3 67 := Or.inl ⟨3, by decide +kernel, rfl, rfl⟩
theorem d6_option_67 : Dc m6_option 67 (.iconst 1) 1 68 := ⟨by decide +kernel, rfl⟩
theorem d6_option_68 : Dic m6_option 68 .ne 89 71 := ⟨(21), by decide +kernel, by decide, rfl⟩
theorem d6_option_71 : Dil m6_option 71 4 73 := Or.inr ⟨by decide +kernel, rfl⟩
theorem d6_option_73 : Dif m6_option 73 .ne 80 76 := ⟨(7), by decide +kernel, by decide, rfl⟩
theorem d6_option_76 : Dc m6_option 76 (.iconst 0) 1 77 := ⟨by decide +kernel, rfl⟩
theorem d6_option_77 : Dgo m6_option 77 105 := ⟨28, by decide +kernel, by decide⟩
theorem d6_option_80 : Dc m6_option 80 (.iconst 2) 1 81 := ⟨by decide +kernel, rfl⟩
theorem d6_option_81 : Dil m6_option 81 4 83 := Or.inr ⟨by decide +kernel, rfl⟩
theorem d6_option_83 : Dc m6_option 83 (.iconst 2) 1 84 := ⟨by decide +kernel, rfl⟩
theorem d6_option_84 : Dc m6_option 84 .irem 1 85 := ⟨by decide +kernel, rfl⟩
theorem d6_option_85 : Dc m6_option 85 .isub 1 86 := ⟨by decide +kernel, rfl⟩
theorem d6_option_86 : Dgo m6_option 86 105 := ⟨19, by decide +kernel, by decide⟩
theorem d6_option_89 : Dil m6_option 89 4 91 := Or.inr ⟨by decide +kernel, rfl⟩
theorem d6_option_91 : Dif m6_option 91 .ne 99 94 := ⟨(8), by decide +kernel, by decide, rfl⟩
theorem d6_option_94 : Dc m6_option 94 (.bipush (-11)) 2 96 := ⟨by decide +kernel, rfl⟩
theorem d6_option_96 : Dgo m6_option 96 105 := ⟨9, by decide +kernel, by decide⟩
theorem d6_option_99 : Dil m6_option 99 4 101 := Or.inr ⟨by decide +kernel, rfl⟩
theorem d6_option_101 : Dc m6_option 101 (.iconst 1) 1 102 := ⟨by decide +kernel, rfl⟩
theorem d6_option_102 : Dc m6_option 102 .isub 1 103 := ⟨by decide +kernel, rfl⟩
theorem d6_option_103 : Dc m6_option 103 (.iconst 2) 1 104 := ⟨by decide +kernel, rfl⟩
theorem d6_option_104 : Dc m6_option 104 .idiv 1 105 := ⟨by decide +kernel, rfl⟩
theorem d6_option_105 : mR m6_option = some .int ∧ decode (mB m6_option) 105 = .ok (.ireturn, 1) := ⟨rfl, by decide +kernel⟩
theorem d6_follows_0 : Dal m6_follows 0 0 1 := Or.inl ⟨0, by decide +kernel, rfl, rfl⟩
theorem d6_follows_1 : Dil m6_follows 1 1 2 := Or.inl ⟨1, by decide +kernel, rfl, rfl⟩
theorem d6_follows_2 : Div m6_follows 2 m6_carries 1 5 := ⟨153, by decide +kernel, lk_X6_153, v_6_carries, rfl⟩
theorem d6_follows_5 : Dis m6_follows 5 4 7 := Or.inr ⟨by decide +kernel, rfl⟩
theorem d6_follows_7 : Dal m6_follows 7 0 8 := Or.inl ⟨0, by decide +kernel, rfl, rfl⟩
theorem d6_follows_8 : Dgf m6_follows 8 6 18 11 := ⟨35, by decide +kernel, f_X6_35, rfl⟩
theorem d6_follows_11 : Dc m6_follows 11 (.bipush 64) 2 13 := ⟨by decide +kernel, rfl⟩
theorem d6_follows_13 : Dil m6_follows 13 4 15 := Or.inr ⟨by decide +kernel, rfl⟩
theorem d6_follows_15 : Dc m6_follows 15 .imul 1 16 := ⟨by decide +kernel, rfl⟩
theorem d6_follows_16 : Dal m6_follows 16 0 17 := Or.inl ⟨0, by decide +kernel, rfl, rfl⟩
theorem d6_follows_17 : Dgf m6_follows 17 6 15 20 := ⟨126, by decide +kernel, f_X6_126, rfl⟩
theorem d6_follows_20 : Dc m6_follows 20 .iadd 1 21 := ⟨by decide +kernel, rfl⟩
theorem d6_follows_21 : Dc m6_follows 21 .baload 1 22 := ⟨by decide +kernel, rfl⟩
theorem d6_follows_22 : Dif m6_follows 22 .ne 29 25 := ⟨(7), by decide +kernel, by decide, rfl⟩
theorem d6_follows_25 : Dc m6_follows 25 (.iconst 1) 1 26 := ⟨by decide +kernel, rfl⟩
theorem d6_follows_26 : Dgo m6_follows 26 30 := ⟨4, by decide +kernel, by decide⟩
theorem d6_follows_29 : Dc m6_follows 29 (.iconst 0) 1 30 := ⟨by decide +kernel, rfl⟩
theorem d6_follows_30 : Dis m6_follows 30 5 32 := Or.inr ⟨by decide +kernel, rfl⟩
theorem d6_follows_32 : Dil m6_follows 32 5 34 := Or.inr ⟨by decide +kernel, rfl⟩
theorem d6_follows_34 : Dif m6_follows 34 .eq 231 37 := ⟨(197), by decide +kernel, by decide, rfl⟩
theorem d6_follows_37 : Dal m6_follows 37 0 38 := Or.inl ⟨0, by decide +kernel, rfl, rfl⟩
theorem d6_follows_38 : Dgf m6_follows 38 6 18 41 := ⟨35, by decide +kernel, f_X6_35, rfl⟩
theorem d6_follows_41 : Dc m6_follows 41 (.bipush 64) 2 43 := ⟨by decide +kernel, rfl⟩
theorem d6_follows_43 : Dil m6_follows 43 4 45 := Or.inr ⟨by decide +kernel, rfl⟩
theorem d6_follows_45 : Dc m6_follows 45 .imul 1 46 := ⟨by decide +kernel, rfl⟩
theorem d6_follows_46 : Dal m6_follows 46 0 47 := Or.inl ⟨0, by decide +kernel, rfl, rfl⟩
theorem d6_follows_47 : Dgf m6_follows 47 6 15 50 := ⟨126, by decide +kernel, f_X6_126, rfl⟩
theorem d6_follows_50 : Dc m6_follows 50 .iadd 1 51 := ⟨by decide +kernel, rfl⟩
theorem d6_follows_51 : Dc m6_follows 51 (.iconst 1) 1 52 := ⟨by decide +kernel, rfl⟩
theorem d6_follows_52 : Dc m6_follows 52 .bastore 1 53 := ⟨by decide +kernel, rfl⟩
theorem d6_follows_53 : Dal m6_follows 53 0 54 := Or.inl ⟨0, by decide +kernel, rfl, rfl⟩
theorem d6_follows_54 : Dil m6_follows 54 4 56 := Or.inr ⟨by decide +kernel, rfl⟩
theorem d6_follows_56 : Div m6_follows 56 m6_shownKind 1 59 := ⟨129, by decide +kernel, lk_X6_129, v_6_shownKind, rfl⟩
theorem d6_follows_59 : Dis m6_follows 59 6 61 := Or.inr ⟨by decide +kernel, rfl⟩
theorem d6_follows_61 : Dil m6_follows 61 6 63 := Or.inr ⟨by decide +kernel, rfl⟩
theorem d6_follows_63 : Dc m6_follows 63 (.iconst 1) 1 64 := ⟨by decide +kernel, rfl⟩
theorem d6_follows_64 : Dic m6_follows 64 .ne 119 67 := ⟨(55), by decide +kernel, by decide, rfl⟩
theorem d6_follows_67 : Dal m6_follows 67 0 68 := Or.inl ⟨0, by decide +kernel, rfl, rfl⟩
theorem d6_follows_68 : Dgf m6_follows 68 6 19 71 := ⟨38, by decide +kernel, f_X6_38, rfl⟩
theorem d6_follows_71 : Dal m6_follows 71 0 72 := Or.inl ⟨0, by decide +kernel, rfl, rfl⟩
theorem d6_follows_72 : Dgf m6_follows 72 6 22 75 := ⟨181, by decide +kernel, f_X6_181, rfl⟩
theorem d6_follows_75 : Dc m6_follows 75 (.bipush 64) 2 77 := ⟨by decide +kernel, rfl⟩
theorem d6_follows_77 : Dil m6_follows 77 4 79 := Or.inr ⟨by decide +kernel, rfl⟩
theorem d6_follows_79 : Dc m6_follows 79 .imul 1 80 := ⟨by decide +kernel, rfl⟩
theorem d6_follows_80 : Dal m6_follows 80 0 81 := Or.inl ⟨0, by decide +kernel, rfl, rfl⟩
theorem d6_follows_81 : Dgf m6_follows 81 6 15 84 := ⟨126, by decide +kernel, f_X6_126, rfl⟩
theorem d6_follows_84 : Dc m6_follows 84 .iadd 1 85 := ⟨by decide +kernel, rfl⟩
theorem d6_follows_85 : Dc m6_follows 85 .iastore 1 86 := ⟨by decide +kernel, rfl⟩
theorem d6_follows_86 : Dal m6_follows 86 0 87 := Or.inl ⟨0, by decide +kernel, rfl, rfl⟩
theorem d6_follows_87 : Dgf m6_follows 87 6 20 90 := ⟨41, by decide +kernel, f_X6_41, rfl⟩
theorem d6_follows_90 : Dal m6_follows 90 0 91 := Or.inl ⟨0, by decide +kernel, rfl, rfl⟩
theorem d6_follows_91 : Dgf m6_follows 91 6 22 94 := ⟨181, by decide +kernel, f_X6_181, rfl⟩
theorem d6_follows_94 : Dil m6_follows 94 2 95 := Or.inl ⟨2, by decide +kernel, rfl, rfl⟩
theorem d6_follows_95 : Dc m6_follows 95 .iastore 1 96 := ⟨by decide +kernel, rfl⟩
theorem d6_follows_96 : Dal m6_follows 96 0 97 := Or.inl ⟨0, by decide +kernel, rfl, rfl⟩
theorem d6_follows_97 : Dgf m6_follows 97 6 21 100 := ⟨44, by decide +kernel, f_X6_44, rfl⟩
theorem d6_follows_100 : Dal m6_follows 100 0 101 := Or.inl ⟨0, by decide +kernel, rfl, rfl⟩
theorem d6_follows_101 : Dgf m6_follows 101 6 22 104 := ⟨181, by decide +kernel, f_X6_181, rfl⟩
theorem d6_follows_104 : Dil m6_follows 104 3 105 := Or.inl ⟨3, by decide +kernel, rfl, rfl⟩
theorem d6_follows_105 : Dc m6_follows 105 .iastore 1 106 := ⟨by decide +kernel, rfl⟩
theorem d6_follows_106 : Dal m6_follows 106 0 107 := Or.inl ⟨0, by decide +kernel, rfl, rfl⟩
theorem d6_follows_107 : Dc m6_follows 107 .dup 1 108 := ⟨by decide +kernel, rfl⟩
theorem d6_follows_108 : Dgf m6_follows 108 6 22 111 := ⟨181, by decide +kernel, f_X6_181, rfl⟩
theorem d6_follows_111 : Dc m6_follows 111 (.iconst 1) 1 112 := ⟨by decide +kernel, rfl⟩
theorem d6_follows_112 : Dc m6_follows 112 .iadd 1 113 := ⟨by decide +kernel, rfl⟩
theorem d6_follows_113 : Dpf m6_follows 113 6 22 .int false 116 := ⟨181, by decide +kernel, f_X6_181, p_X6_X6_22, rfl⟩
theorem d6_follows_116 : Dgo m6_follows 116 183 := ⟨67, by decide +kernel, by decide⟩
theorem d6_follows_119 : Dil m6_follows 119 6 121 := Or.inr ⟨by decide +kernel, rfl⟩
theorem d6_follows_121 : Dc m6_follows 121 (.iconst 2) 1 122 := ⟨by decide +kernel, rfl⟩
theorem d6_follows_122 : Dic m6_follows 122 .ne 183 125 := ⟨(61), by decide +kernel, by decide, rfl⟩
theorem d6_follows_125 : Dal m6_follows 125 0 126 := Or.inl ⟨0, by decide +kernel, rfl, rfl⟩
theorem d6_follows_126 : Dgf m6_follows 126 6 23 129 := ⟨47, by decide +kernel, f_X6_47, rfl⟩
theorem d6_follows_129 : Dc m6_follows 129 (.iconst 3) 1 130 := ⟨by decide +kernel, rfl⟩
theorem d6_follows_130 : Dal m6_follows 130 0 131 := Or.inl ⟨0, by decide +kernel, rfl, rfl⟩
theorem d6_follows_131 : Dil m6_follows 131 4 133 := Or.inr ⟨by decide +kernel, rfl⟩
theorem d6_follows_133 : Div m6_follows 133 m6_endOf 1 136 := ⟨168, by decide +kernel, lk_X6_168, v_6_endOf, rfl⟩
theorem d6_follows_136 : Dc m6_follows 136 .iadd 1 137 := ⟨by decide +kernel, rfl⟩
theorem d6_follows_137 : Dc m6_follows 137 .baload 1 138 := ⟨by decide +kernel, rfl⟩
theorem d6_follows_138 : Dif m6_follows 138 .ne 183 141 := ⟨(45), by decide +kernel, by decide, rfl⟩
theorem d6_follows_141 : Dal m6_follows 141 0 142 := Or.inl ⟨0, by decide +kernel, rfl, rfl⟩
theorem d6_follows_142 : Dgf m6_follows 142 6 23 145 := ⟨47, by decide +kernel, f_X6_47, rfl⟩
theorem d6_follows_145 : Dc m6_follows 145 (.iconst 3) 1 146 := ⟨by decide +kernel, rfl⟩
theorem d6_follows_146 : Dal m6_follows 146 0 147 := Or.inl ⟨0, by decide +kernel, rfl, rfl⟩
theorem d6_follows_147 : Dil m6_follows 147 4 149 := Or.inr ⟨by decide +kernel, rfl⟩
theorem d6_follows_149 : Div m6_follows 149 m6_endOf 1 152 := ⟨168, by decide +kernel, lk_X6_168, v_6_endOf, rfl⟩
theorem d6_follows_152 : Dc m6_follows 152 .iadd 1 153 := ⟨by decide +kernel, rfl⟩
theorem d6_follows_153 : Dc m6_follows 153 (.iconst 1) 1 154 := ⟨by decide +kernel, rfl⟩
theorem d6_follows_154 : Dc m6_follows 154 .bastore 1 155 := ⟨by decide +kernel, rfl⟩
theorem d6_follows_155 : Dal m6_follows 155 0 156 := Or.inl ⟨0, by decide +kernel, rfl, rfl⟩
theorem d6_follows_156 : Dgf m6_follows 156 6 24 159 := ⟨50, by decide +kernel, f_X6_50, rfl⟩
theorem d6_follows_159 : Dc m6_follows 159 (.iconst 3) 1 160 := ⟨by decide +kernel, rfl⟩
theorem d6_follows_160 : Dal m6_follows 160 0 161 := Or.inl ⟨0, by decide +kernel, rfl, rfl⟩
theorem d6_follows_161 : Dil m6_follows 161 4 163 := Or.inr ⟨by decide +kernel, rfl⟩
theorem d6_follows_163 : Div m6_follows 163 m6_endOf 1 166 := ⟨168, by decide +kernel, lk_X6_168, v_6_endOf, rfl⟩
theorem d6_follows_166 : Dc m6_follows 166 .iadd 1 167 := ⟨by decide +kernel, rfl⟩
theorem d6_follows_167 : Dil m6_follows 167 2 168 := Or.inl ⟨2, by decide +kernel, rfl, rfl⟩
theorem d6_follows_168 : Dc m6_follows 168 .iastore 1 169 := ⟨by decide +kernel, rfl⟩
theorem d6_follows_169 : Dal m6_follows 169 0 170 := Or.inl ⟨0, by decide +kernel, rfl, rfl⟩
theorem d6_follows_170 : Dgf m6_follows 170 6 25 173 := ⟨53, by decide +kernel, f_X6_53, rfl⟩
theorem d6_follows_173 : Dc m6_follows 173 (.iconst 3) 1 174 := ⟨by decide +kernel, rfl⟩
theorem d6_follows_174 : Dal m6_follows 174 0 175 := Or.inl ⟨0, by decide +kernel, rfl, rfl⟩
theorem d6_follows_175 : Dil m6_follows 175 4 177 := Or.inr ⟨by decide +kernel, rfl⟩
theorem d6_follows_177 : Div m6_follows 177 m6_endOf 1 180 := ⟨168, by decide +kernel, lk_X6_168, v_6_endOf, rfl⟩
theorem d6_follows_180 : Dc m6_follows 180 .iadd 1 181 := ⟨by decide +kernel, rfl⟩
theorem d6_follows_181 : Dil m6_follows 181 3 182 := Or.inl ⟨3, by decide +kernel, rfl, rfl⟩
theorem d6_follows_182 : Dc m6_follows 182 .iastore 1 183 := ⟨by decide +kernel, rfl⟩
theorem d6_follows_183 : Dil m6_follows 183 6 185 := Or.inr ⟨by decide +kernel, rfl⟩
theorem d6_follows_185 : Dif m6_follows 185 .ne 199 188 := ⟨(14), by decide +kernel, by decide, rfl⟩
theorem d6_follows_188 : Dal m6_follows 188 0 189 := Or.inl ⟨0, by decide +kernel, rfl, rfl⟩
theorem d6_follows_189 : Dil m6_follows 189 4 191 := Or.inr ⟨by decide +kernel, rfl⟩
theorem d6_follows_191 : Dc m6_follows 191 (.iconst 1) 1 192 := ⟨by decide +kernel, rfl⟩
theorem d6_follows_192 : Dc m6_follows 192 .iadd 1 193 := ⟨by decide +kernel, rfl⟩
theorem d6_follows_193 : Div m6_follows 193 m6_carries 1 196 := ⟨153, by decide +kernel, lk_X6_153, v_6_carries, rfl⟩
theorem d6_follows_196 : Dgo m6_follows 196 201 := ⟨5, by decide +kernel, by decide⟩
theorem d6_follows_199 : Dil m6_follows 199 4 201 := Or.inr ⟨by decide +kernel, rfl⟩
theorem d6_follows_201 : Dis m6_follows 201 4 203 := Or.inr ⟨by decide +kernel, rfl⟩
theorem d6_follows_203 : Dal m6_follows 203 0 204 := Or.inl ⟨0, by decide +kernel, rfl, rfl⟩
theorem d6_follows_204 : Dgf m6_follows 204 6 18 207 := ⟨35, by decide +kernel, f_X6_35, rfl⟩
theorem d6_follows_207 : Dc m6_follows 207 (.bipush 64) 2 209 := ⟨by decide +kernel, rfl⟩
theorem d6_follows_209 : Dil m6_follows 209 4 211 := Or.inr ⟨by decide +kernel, rfl⟩
theorem d6_follows_211 : Dc m6_follows 211 .imul 1 212 := ⟨by decide +kernel, rfl⟩
theorem d6_follows_212 : Dal m6_follows 212 0 213 := Or.inl ⟨0, by decide +kernel, rfl, rfl⟩
theorem d6_follows_213 : Dgf m6_follows 213 6 15 216 := ⟨126, by decide +kernel, f_X6_126, rfl⟩
theorem d6_follows_216 : Dc m6_follows 216 .iadd 1 217 := ⟨by decide +kernel, rfl⟩
theorem d6_follows_217 : Dc m6_follows 217 .baload 1 218 := ⟨by decide +kernel, rfl⟩
theorem d6_follows_218 : Dif m6_follows 218 .ne 225 221 := ⟨(7), by decide +kernel, by decide, rfl⟩
end
section
/-! ===== decode rows of X6 ===== -/
theorem d6_follows_221 : Dc m6_follows 221 (.iconst 1) 1 222 := ⟨by decide +kernel, rfl⟩
theorem d6_follows_222 : Dgo m6_follows 222 226 := ⟨4, by decide +kernel, by decide⟩
theorem d6_follows_225 : Dc m6_follows 225 (.iconst 0) 1 226 := ⟨by decide +kernel, rfl⟩
theorem d6_follows_226 : Dis m6_follows 226 5 228 := Or.inr ⟨by decide +kernel, rfl⟩
theorem d6_follows_228 : Dgo m6_follows 228 32 := ⟨(-196), by decide +kernel, by decide⟩
theorem d6_follows_231 : mR m6_follows = none ∧ decode (mB m6_follows) 231 = .ok (.return_, 1) := ⟨rfl, by decide +kernel⟩
theorem d6_charts_0 : Dc m6_charts 0 (.iconst 0) 1 1 := ⟨by decide +kernel, rfl⟩
theorem d6_charts_1 : Dis m6_charts 1 1 2 := Or.inl ⟨1, by decide +kernel, rfl, rfl⟩
theorem d6_charts_2 : Dil m6_charts 2 1 3 := Or.inl ⟨1, by decide +kernel, rfl, rfl⟩
theorem d6_charts_3 : Dc m6_charts 3 (.sipush 1984) 3 6 := ⟨by decide +kernel, rfl⟩
theorem d6_charts_6 : Dic m6_charts 6 .ge 22 9 := ⟨(16), by decide +kernel, by decide, rfl⟩
theorem d6_charts_9 : Dal m6_charts 9 0 10 := Or.inl ⟨0, by decide +kernel, rfl, rfl⟩
theorem d6_charts_10 : Dgf m6_charts 10 6 18 13 := ⟨35, by decide +kernel, f_X6_35, rfl⟩
theorem d6_charts_13 : Dil m6_charts 13 1 14 := Or.inl ⟨1, by decide +kernel, rfl, rfl⟩
theorem d6_charts_14 : Dc m6_charts 14 (.iconst 0) 1 15 := ⟨by decide +kernel, rfl⟩
theorem d6_charts_15 : Dc m6_charts 15 .bastore 1 16 := ⟨by decide +kernel, rfl⟩
theorem d6_charts_16 : Dc m6_charts 16 (.iinc 1 1) 3 19 := ⟨by decide +kernel, rfl⟩
theorem d6_charts_19 : Dgo m6_charts 19 2 := ⟨(-17), by decide +kernel, by decide⟩
theorem d6_charts_22 : Dc m6_charts 22 (.iconst 0) 1 23 := ⟨by decide +kernel, rfl⟩
theorem d6_charts_23 : Dis m6_charts 23 1 24 := Or.inl ⟨1, by decide +kernel, rfl, rfl⟩
theorem d6_charts_24 : Dil m6_charts 24 1 25 := Or.inl ⟨1, by decide +kernel, rfl, rfl⟩
theorem d6_charts_25 : Dc m6_charts 25 (.bipush 13) 2 27 := ⟨by decide +kernel, rfl⟩
theorem d6_charts_27 : Dic m6_charts 27 .ge 43 30 := ⟨(16), by decide +kernel, by decide, rfl⟩
theorem d6_charts_30 : Dal m6_charts 30 0 31 := Or.inl ⟨0, by decide +kernel, rfl, rfl⟩
theorem d6_charts_31 : Dgf m6_charts 31 6 23 34 := ⟨47, by decide +kernel, f_X6_47, rfl⟩
theorem d6_charts_34 : Dil m6_charts 34 1 35 := Or.inl ⟨1, by decide +kernel, rfl, rfl⟩
theorem d6_charts_35 : Dc m6_charts 35 (.iconst 0) 1 36 := ⟨by decide +kernel, rfl⟩
theorem d6_charts_36 : Dc m6_charts 36 .bastore 1 37 := ⟨by decide +kernel, rfl⟩
theorem d6_charts_37 : Dc m6_charts 37 (.iinc 1 1) 3 40 := ⟨by decide +kernel, rfl⟩
theorem d6_charts_40 : Dgo m6_charts 40 24 := ⟨(-16), by decide +kernel, by decide⟩
theorem d6_charts_43 : Dal m6_charts 43 0 44 := Or.inl ⟨0, by decide +kernel, rfl, rfl⟩
theorem d6_charts_44 : Dc m6_charts 44 (.iconst 0) 1 45 := ⟨by decide +kernel, rfl⟩
theorem d6_charts_45 : Dpf m6_charts 45 6 22 .int false 48 := ⟨181, by decide +kernel, f_X6_181, p_X6_X6_22, rfl⟩
theorem d6_charts_48 : Dal m6_charts 48 0 49 := Or.inl ⟨0, by decide +kernel, rfl, rfl⟩
theorem d6_charts_49 : Dc m6_charts 49 (.iconst 0) 1 50 := ⟨by decide +kernel, rfl⟩
theorem d6_charts_50 : Dpf m6_charts 50 6 15 .int false 53 := ⟨126, by decide +kernel, f_X6_126, p_X6_X6_15, rfl⟩
theorem d6_charts_53 : Dal m6_charts 53 0 54 := Or.inl ⟨0, by decide +kernel, rfl, rfl⟩
theorem d6_charts_54 : Dc m6_charts 54 (.iconst 0) 1 55 := ⟨by decide +kernel, rfl⟩
theorem d6_charts_55 : Dc m6_charts 55 (.bipush (-11)) 2 57 := ⟨by decide +kernel, rfl⟩
theorem d6_charts_57 : Dc m6_charts 57 (.bipush (-11)) 2 59 := ⟨by decide +kernel, rfl⟩
theorem d6_charts_59 : Div m6_charts 59 m6_follows 3 62 := ⟨184, by decide +kernel, lk_X6_184, v_6_follows, rfl⟩
theorem d6_charts_62 : Dc m6_charts 62 (.iconst 0) 1 63 := ⟨by decide +kernel, rfl⟩
theorem d6_charts_63 : Dis m6_charts 63 1 64 := Or.inl ⟨1, by decide +kernel, rfl, rfl⟩
theorem d6_charts_64 : Dil m6_charts 64 1 65 := Or.inl ⟨1, by decide +kernel, rfl, rfl⟩
theorem d6_charts_65 : Dal m6_charts 65 0 66 := Or.inl ⟨0, by decide +kernel, rfl, rfl⟩
theorem d6_charts_66 : Dgf m6_charts 66 6 22 69 := ⟨181, by decide +kernel, f_X6_181, rfl⟩
theorem d6_charts_69 : Dic m6_charts 69 .ge 153 72 := ⟨(84), by decide +kernel, by decide, rfl⟩
theorem d6_charts_72 : Dal m6_charts 72 0 73 := Or.inl ⟨0, by decide +kernel, rfl, rfl⟩
theorem d6_charts_73 : Dgf m6_charts 73 6 19 76 := ⟨38, by decide +kernel, f_X6_38, rfl⟩
theorem d6_charts_76 : Dil m6_charts 76 1 77 := Or.inl ⟨1, by decide +kernel, rfl, rfl⟩
theorem d6_charts_77 : Dc m6_charts 77 .iaload 1 78 := ⟨by decide +kernel, rfl⟩
theorem d6_charts_78 : Dc m6_charts 78 (.bipush 64) 2 80 := ⟨by decide +kernel, rfl⟩
theorem d6_charts_80 : Dc m6_charts 80 .idiv 1 81 := ⟨by decide +kernel, rfl⟩
theorem d6_charts_81 : Dis m6_charts 81 2 82 := Or.inl ⟨2, by decide +kernel, rfl, rfl⟩
theorem d6_charts_82 : Dc m6_charts 82 (.iconst 0) 1 83 := ⟨by decide +kernel, rfl⟩
theorem d6_charts_83 : Dis m6_charts 83 3 84 := Or.inl ⟨3, by decide +kernel, rfl, rfl⟩
theorem d6_charts_84 : Dil m6_charts 84 3 85 := Or.inl ⟨3, by decide +kernel, rfl, rfl⟩
theorem d6_charts_85 : Dal m6_charts 85 0 86 := Or.inl ⟨0, by decide +kernel, rfl, rfl⟩
theorem d6_charts_86 : Dil m6_charts 86 2 87 := Or.inl ⟨2, by decide +kernel, rfl, rfl⟩
theorem d6_charts_87 : Dc m6_charts 87 (.iconst 1) 1 88 := ⟨by decide +kernel, rfl⟩
theorem d6_charts_88 : Div m6_charts 88 m6_of 2 91 := ⟨119, by decide +kernel, lk_X6_119, v_6_of, rfl⟩
theorem d6_charts_91 : Dic m6_charts 91 .ge 147 94 := ⟨(56), by decide +kernel, by decide, rfl⟩
theorem d6_charts_94 : Dal m6_charts 94 0 95 := Or.inl ⟨0, by decide +kernel, rfl, rfl⟩
theorem d6_charts_95 : Dil m6_charts 95 2 96 := Or.inl ⟨2, by decide +kernel, rfl, rfl⟩
theorem d6_charts_96 : Dil m6_charts 96 3 97 := Or.inl ⟨3, by decide +kernel, rfl, rfl⟩
theorem d6_charts_97 : Dal m6_charts 97 0 98 := Or.inl ⟨0, by decide +kernel, rfl, rfl⟩
theorem d6_charts_98 : Dgf m6_charts 98 6 19 101 := ⟨38, by decide +kernel, f_X6_38, rfl⟩
theorem d6_charts_101 : Dil m6_charts 101 1 102 := Or.inl ⟨1, by decide +kernel, rfl, rfl⟩
theorem d6_charts_102 : Dc m6_charts 102 .iaload 1 103 := ⟨by decide +kernel, rfl⟩
theorem d6_charts_103 : Dc m6_charts 103 (.bipush 64) 2 105 := ⟨by decide +kernel, rfl⟩
theorem d6_charts_105 : Dc m6_charts 105 .irem 1 106 := ⟨by decide +kernel, rfl⟩
theorem d6_charts_106 : Div m6_charts 106 m6_isLocked 3 109 := ⟨165, by decide +kernel, lk_X6_165, v_6_isLocked, rfl⟩
theorem d6_charts_109 : Dif m6_charts 109 .ne 141 112 := ⟨(32), by decide +kernel, by decide, rfl⟩
theorem d6_charts_112 : Dal m6_charts 112 0 113 := Or.inl ⟨0, by decide +kernel, rfl, rfl⟩
theorem d6_charts_113 : Dal m6_charts 113 0 114 := Or.inl ⟨0, by decide +kernel, rfl, rfl⟩
theorem d6_charts_114 : Dgf m6_charts 114 6 19 117 := ⟨38, by decide +kernel, f_X6_38, rfl⟩
theorem d6_charts_117 : Dil m6_charts 117 1 118 := Or.inl ⟨1, by decide +kernel, rfl, rfl⟩
theorem d6_charts_118 : Dc m6_charts 118 .iaload 1 119 := ⟨by decide +kernel, rfl⟩
theorem d6_charts_119 : Dc m6_charts 119 (.bipush 64) 2 121 := ⟨by decide +kernel, rfl⟩
theorem d6_charts_121 : Dc m6_charts 121 .irem 1 122 := ⟨by decide +kernel, rfl⟩
theorem d6_charts_122 : Dpf m6_charts 122 6 15 .int false 125 := ⟨126, by decide +kernel, f_X6_126, p_X6_X6_15, rfl⟩
theorem d6_charts_125 : Dal m6_charts 125 0 126 := Or.inl ⟨0, by decide +kernel, rfl, rfl⟩
theorem d6_charts_126 : Dal m6_charts 126 0 127 := Or.inl ⟨0, by decide +kernel, rfl, rfl⟩
theorem d6_charts_127 : Dil m6_charts 127 2 128 := Or.inl ⟨2, by decide +kernel, rfl, rfl⟩
theorem d6_charts_128 : Dc m6_charts 128 (.iconst 4) 1 129 := ⟨by decide +kernel, rfl⟩
theorem d6_charts_129 : Dc m6_charts 129 (.iconst 2) 1 130 := ⟨by decide +kernel, rfl⟩
theorem d6_charts_130 : Dil m6_charts 130 3 131 := Or.inl ⟨3, by decide +kernel, rfl, rfl⟩
theorem d6_charts_131 : Dc m6_charts 131 .imul 1 132 := ⟨by decide +kernel, rfl⟩
theorem d6_charts_132 : Dc m6_charts 132 .iadd 1 133 := ⟨by decide +kernel, rfl⟩
theorem d6_charts_133 : Div m6_charts 133 m6_of 2 136 := ⟨119, by decide +kernel, lk_X6_119, v_6_of, rfl⟩
theorem d6_charts_136 : Dil m6_charts 136 1 137 := Or.inl ⟨1, by decide +kernel, rfl, rfl⟩
theorem d6_charts_137 : Dil m6_charts 137 3 138 := Or.inl ⟨3, by decide +kernel, rfl, rfl⟩
theorem d6_charts_138 : Div m6_charts 138 m6_follows 3 141 := ⟨184, by decide +kernel, lk_X6_184, v_6_follows, rfl⟩
theorem d6_charts_141 : Dc m6_charts 141 (.iinc 3 1) 3 144 := ⟨by decide +kernel, rfl⟩
theorem d6_charts_144 : Dgo m6_charts 144 84 := ⟨(-60), by decide +kernel, by decide⟩
theorem d6_charts_147 : Dc m6_charts 147 (.iinc 1 1) 3 150 := ⟨by decide +kernel, rfl⟩
theorem d6_charts_150 : Dgo m6_charts 150 64 := ⟨(-86), by decide +kernel, by decide⟩
theorem d6_charts_153 : mR m6_charts = none ∧ decode (mB m6_charts) 153 = .ok (.return_, 1) := ⟨rfl, by decide +kernel⟩
theorem d6_situationsOf_0 : Dc m6_situationsOf 0 (.iconst 0) 1 1 := ⟨by decide +kernel, rfl⟩
theorem d6_situationsOf_1 : Dis m6_situationsOf 1 2 2 := Or.inl ⟨2, by decide +kernel, rfl, rfl⟩
theorem d6_situationsOf_2 : Dc m6_situationsOf 2 (.iconst 0) 1 3 := ⟨by decide +kernel, rfl⟩
theorem d6_situationsOf_3 : Dis m6_situationsOf 3 3 4 := Or.inl ⟨3, by decide +kernel, rfl, rfl⟩
theorem d6_situationsOf_4 : Dil m6_situationsOf 4 3 5 := Or.inl ⟨3, by decide +kernel, rfl, rfl⟩
theorem d6_situationsOf_5 : Dc m6_situationsOf 5 (.sipush 1984) 3 8 := ⟨by decide +kernel, rfl⟩
theorem d6_situationsOf_8 : Dic m6_situationsOf 8 .ge 47 11 := ⟨(39), by decide +kernel, by decide, rfl⟩
theorem d6_situationsOf_11 : Dil m6_situationsOf 11 2 12 := Or.inl ⟨2, by decide +kernel, rfl, rfl⟩
theorem d6_situationsOf_12 : Dal m6_situationsOf 12 0 13 := Or.inl ⟨0, by decide +kernel, rfl, rfl⟩
theorem d6_situationsOf_13 : Dgf m6_situationsOf 13 6 18 16 := ⟨35, by decide +kernel, f_X6_35, rfl⟩
theorem d6_situationsOf_16 : Dil m6_situationsOf 16 3 17 := Or.inl ⟨3, by decide +kernel, rfl, rfl⟩
theorem d6_situationsOf_17 : Dc m6_situationsOf 17 .baload 1 18 := ⟨by decide +kernel, rfl⟩
theorem d6_situationsOf_18 : Dif m6_situationsOf 18 .eq 38 21 := ⟨(20), by decide +kernel, by decide, rfl⟩
theorem d6_situationsOf_21 : Dil m6_situationsOf 21 1 22 := Or.inl ⟨1, by decide +kernel, rfl, rfl⟩
theorem d6_situationsOf_22 : Dc m6_situationsOf 22 (.iconst (-1)) 1 23 := ⟨by decide +kernel, rfl⟩
theorem d6_situationsOf_23 : Dic m6_situationsOf 23 .eq 34 26 := ⟨(11), by decide +kernel, by decide, rfl⟩
theorem d6_situationsOf_26 : Dil m6_situationsOf 26 3 27 := Or.inl ⟨3, by decide +kernel, rfl, rfl⟩
theorem d6_situationsOf_27 : Dc m6_situationsOf 27 (.bipush 64) 2 29 := ⟨by decide +kernel, rfl⟩
theorem d6_situationsOf_29 : Dc m6_situationsOf 29 .idiv 1 30 := ⟨by decide +kernel, rfl⟩
theorem d6_situationsOf_30 : Dil m6_situationsOf 30 1 31 := Or.inl ⟨1, by decide +kernel, rfl, rfl⟩
theorem d6_situationsOf_31 : Dic m6_situationsOf 31 .ne 38 34 := ⟨(7), by decide +kernel, by decide, rfl⟩
theorem d6_situationsOf_34 : Dc m6_situationsOf 34 (.iconst 1) 1 35 := ⟨by decide +kernel, rfl⟩
theorem d6_situationsOf_35 : Dgo m6_situationsOf 35 39 := ⟨4, by decide +kernel, by decide⟩
theorem d6_situationsOf_38 : Dc m6_situationsOf 38 (.iconst 0) 1 39 := ⟨by decide +kernel, rfl⟩
theorem d6_situationsOf_39 : Dc m6_situationsOf 39 .iadd 1 40 := ⟨by decide +kernel, rfl⟩
theorem d6_situationsOf_40 : Dis m6_situationsOf 40 2 41 := Or.inl ⟨2, by decide +kernel, rfl, rfl⟩
theorem d6_situationsOf_41 : Dc m6_situationsOf 41 (.iinc 3 1) 3 44 := ⟨by decide +kernel, rfl⟩
theorem d6_situationsOf_44 : Dgo m6_situationsOf 44 4 := ⟨(-40), by decide +kernel, by decide⟩
theorem d6_situationsOf_47 : Dil m6_situationsOf 47 2 48 := Or.inl ⟨2, by decide +kernel, rfl, rfl⟩
theorem d6_situationsOf_48 : mR m6_situationsOf = some .int ∧ decode (mB m6_situationsOf) 48 = .ok (.ireturn, 1) := ⟨rfl, by decide +kernel⟩
theorem d6_situations_0 : Dil m6_situations 0 1 1 := Or.inl ⟨1, by decide +kernel, rfl, rfl⟩
theorem d6_situations_1 : Dc m6_situations 1 (.iconst (-1)) 1 2 := ⟨by decide +kernel, rfl⟩
theorem d6_situations_2 : Dc m6_situations 2 (.bipush 30) 2 4 := ⟨by decide +kernel, rfl⟩
theorem d6_situations_4 : Dis' m6_situations 4 m6_in 3 7 := ⟨59, by decide +kernel, lk_X6_59, s_6_in, rfl⟩
theorem d6_situations_7 : Dif m6_situations 7 .ne 13 10 := ⟨(6), by decide +kernel, by decide, rfl⟩
theorem d6_situations_10 : Dc m6_situations 10 (.bipush (-12)) 2 12 := ⟨by decide +kernel, rfl⟩
theorem d6_situations_12 : mR m6_situations = some .int ∧ decode (mB m6_situations) 12 = .ok (.ireturn, 1) := ⟨rfl, by decide +kernel⟩
theorem d6_situations_13 : Dal m6_situations 13 0 14 := Or.inl ⟨0, by decide +kernel, rfl, rfl⟩
theorem d6_situations_14 : Div m6_situations 14 m6_charts 0 17 := ⟨188, by decide +kernel, lk_X6_188, v_6_charts, rfl⟩
theorem d6_situations_17 : Dal m6_situations 17 0 18 := Or.inl ⟨0, by decide +kernel, rfl, rfl⟩
theorem d6_situations_18 : Dil m6_situations 18 1 19 := Or.inl ⟨1, by decide +kernel, rfl, rfl⟩
theorem d6_situations_19 : Div m6_situations 19 m6_situationsOf 1 22 := ⟨191, by decide +kernel, lk_X6_191, v_6_situationsOf, rfl⟩
theorem d6_situations_22 : mR m6_situations = some .int ∧ decode (mB m6_situations) 22 = .ok (.ireturn, 1) := ⟨rfl, by decide +kernel⟩
theorem d6_isEndNumber_0 : Dil m6_isEndNumber 0 0 1 := Or.inl ⟨0, by decide +kernel, rfl, rfl⟩
theorem d6_isEndNumber_1 : Dc m6_isEndNumber 1 (.iconst 0) 1 2 := ⟨by decide +kernel, rfl⟩
theorem d6_isEndNumber_2 : Dc m6_isEndNumber 2 (.bipush 9) 2 4 := ⟨by decide +kernel, rfl⟩
theorem d6_isEndNumber_4 : Dis' m6_isEndNumber 4 m6_in 3 7 := ⟨59, by decide +kernel, lk_X6_59, s_6_in, rfl⟩
theorem d6_isEndNumber_7 : Dif m6_isEndNumber 7 .ne 22 10 := ⟨(15), by decide +kernel, by decide, rfl⟩
theorem d6_isEndNumber_10 : Dil m6_isEndNumber 10 0 11 := Or.inl ⟨0, by decide +kernel, rfl, rfl⟩
theorem d6_isEndNumber_11 : Dc m6_isEndNumber 11 (.bipush (-2)) 2 13 := ⟨by decide +kernel, rfl⟩
theorem d6_isEndNumber_13 : Dic m6_isEndNumber 13 .eq 22 16 := ⟨(9), by decide +kernel, by decide, rfl⟩
theorem d6_isEndNumber_16 : Dil m6_isEndNumber 16 0 17 := Or.inl ⟨0, by decide +kernel, rfl, rfl⟩
theorem d6_isEndNumber_17 : Dc m6_isEndNumber 17 (.bipush (-3)) 2 19 := ⟨by decide +kernel, rfl⟩
theorem d6_isEndNumber_19 : Dic m6_isEndNumber 19 .ne 26 22 := ⟨(7), by decide +kernel, by decide, rfl⟩
theorem d6_isEndNumber_22 : Dc m6_isEndNumber 22 (.iconst 1) 1 23 := ⟨by decide +kernel, rfl⟩
theorem d6_isEndNumber_23 : Dgo m6_isEndNumber 23 27 := ⟨4, by decide +kernel, by decide⟩
theorem d6_isEndNumber_26 : Dc m6_isEndNumber 26 (.iconst 0) 1 27 := ⟨by decide +kernel, rfl⟩
theorem d6_isEndNumber_27 : mR m6_isEndNumber = some .boolean ∧ decode (mB m6_isEndNumber) 27 = .ok (.ireturn, 1) := ⟨rfl, by decide +kernel⟩
theorem d6_stepsTo_0 : Dal m6_stepsTo 0 0 1 := Or.inl ⟨0, by decide +kernel, rfl, rfl⟩
theorem d6_stepsTo_1 : Dgf m6_stepsTo 1 6 23 4 := ⟨47, by decide +kernel, f_X6_47, rfl⟩
theorem d6_stepsTo_4 : Dc m6_stepsTo 4 (.iconst 3) 1 5 := ⟨by decide +kernel, rfl⟩
theorem d6_stepsTo_5 : Dil m6_stepsTo 5 1 6 := Or.inl ⟨1, by decide +kernel, rfl, rfl⟩
theorem d6_stepsTo_6 : Dc m6_stepsTo 6 .iadd 1 7 := ⟨by decide +kernel, rfl⟩
theorem d6_stepsTo_7 : Dc m6_stepsTo 7 .baload 1 8 := ⟨by decide +kernel, rfl⟩
theorem d6_stepsTo_8 : Dif m6_stepsTo 8 .ne 14 11 := ⟨(6), by decide +kernel, by decide, rfl⟩
theorem d6_stepsTo_11 : Dc m6_stepsTo 11 (.bipush (-11)) 2 13 := ⟨by decide +kernel, rfl⟩
theorem d6_stepsTo_13 : mR m6_stepsTo = some .int ∧ decode (mB m6_stepsTo) 13 = .ok (.ireturn, 1) := ⟨rfl, by decide +kernel⟩
theorem d6_stepsTo_14 : Dc m6_stepsTo 14 (.iconst 0) 1 15 := ⟨by decide +kernel, rfl⟩
theorem d6_stepsTo_15 : Dis m6_stepsTo 15 2 16 := Or.inl ⟨2, by decide +kernel, rfl, rfl⟩
theorem d6_stepsTo_16 : Dal m6_stepsTo 16 0 17 := Or.inl ⟨0, by decide +kernel, rfl, rfl⟩
theorem d6_stepsTo_17 : Dgf m6_stepsTo 17 6 24 20 := ⟨50, by decide +kernel, f_X6_50, rfl⟩
theorem d6_stepsTo_20 : Dc m6_stepsTo 20 (.iconst 3) 1 21 := ⟨by decide +kernel, rfl⟩
theorem d6_stepsTo_21 : Dil m6_stepsTo 21 1 22 := Or.inl ⟨1, by decide +kernel, rfl, rfl⟩
theorem d6_stepsTo_22 : Dc m6_stepsTo 22 .iadd 1 23 := ⟨by decide +kernel, rfl⟩
theorem d6_stepsTo_23 : Dc m6_stepsTo 23 .iaload 1 24 := ⟨by decide +kernel, rfl⟩
theorem d6_stepsTo_24 : Dis m6_stepsTo 24 3 25 := Or.inl ⟨3, by decide +kernel, rfl, rfl⟩
theorem d6_stepsTo_25 : Dil m6_stepsTo 25 3 26 := Or.inl ⟨3, by decide +kernel, rfl, rfl⟩
theorem d6_stepsTo_26 : Dc m6_stepsTo 26 (.bipush (-11)) 2 28 := ⟨by decide +kernel, rfl⟩
theorem d6_stepsTo_28 : Dic m6_stepsTo 28 .eq 44 31 := ⟨(16), by decide +kernel, by decide, rfl⟩
theorem d6_stepsTo_31 : Dc m6_stepsTo 31 (.iinc 2 1) 3 34 := ⟨by decide +kernel, rfl⟩
theorem d6_stepsTo_34 : Dal m6_stepsTo 34 0 35 := Or.inl ⟨0, by decide +kernel, rfl, rfl⟩
theorem d6_stepsTo_35 : Dgf m6_stepsTo 35 6 20 38 := ⟨41, by decide +kernel, f_X6_41, rfl⟩
theorem d6_stepsTo_38 : Dil m6_stepsTo 38 3 39 := Or.inl ⟨3, by decide +kernel, rfl, rfl⟩
theorem d6_stepsTo_39 : Dc m6_stepsTo 39 .iaload 1 40 := ⟨by decide +kernel, rfl⟩
theorem d6_stepsTo_40 : Dis m6_stepsTo 40 3 41 := Or.inl ⟨3, by decide +kernel, rfl, rfl⟩
theorem d6_stepsTo_41 : Dgo m6_stepsTo 41 25 := ⟨(-16), by decide +kernel, by decide⟩
theorem d6_stepsTo_44 : Dil m6_stepsTo 44 2 45 := Or.inl ⟨2, by decide +kernel, rfl, rfl⟩
theorem d6_stepsTo_45 : mR m6_stepsTo = some .int ∧ decode (mB m6_stepsTo) 45 = .ok (.ireturn, 1) := ⟨rfl, by decide +kernel⟩
theorem d6_choicesTo_0 : Dil m6_choicesTo 0 1 1 := Or.inl ⟨1, by decide +kernel, rfl, rfl⟩
theorem d6_choicesTo_1 : Dis' m6_choicesTo 1 m6_isEndNumber 1 4 := ⟨194, by decide +kernel, lk_X6_194, s_6_isEndNumber, rfl⟩
theorem d6_choicesTo_4 : Dif m6_choicesTo 4 .ne 10 7 := ⟨(6), by decide +kernel, by decide, rfl⟩
theorem d6_choicesTo_7 : Dc m6_choicesTo 7 (.bipush (-12)) 2 9 := ⟨by decide +kernel, rfl⟩
theorem d6_choicesTo_9 : mR m6_choicesTo = some .int ∧ decode (mB m6_choicesTo) 9 = .ok (.ireturn, 1) := ⟨rfl, by decide +kernel⟩
theorem d6_choicesTo_10 : Dal m6_choicesTo 10 0 11 := Or.inl ⟨0, by decide +kernel, rfl, rfl⟩
theorem d6_choicesTo_11 : Div m6_choicesTo 11 m6_charts 0 14 := ⟨188, by decide +kernel, lk_X6_188, v_6_charts, rfl⟩
theorem d6_choicesTo_14 : Dal m6_choicesTo 14 0 15 := Or.inl ⟨0, by decide +kernel, rfl, rfl⟩
theorem d6_choicesTo_15 : Dil m6_choicesTo 15 1 16 := Or.inl ⟨1, by decide +kernel, rfl, rfl⟩
theorem d6_choicesTo_16 : Div m6_choicesTo 16 m6_stepsTo 1 19 := ⟨197, by decide +kernel, lk_X6_197, v_6_stepsTo, rfl⟩
theorem d6_choicesTo_19 : mR m6_choicesTo = some .int ∧ decode (mB m6_choicesTo) 19 = .ok (.ireturn, 1) := ⟨rfl, by decide +kernel⟩
theorem d6_wayTo_0 : Dil m6_wayTo 0 1 1 := Or.inl ⟨1, by decide +kernel, rfl, rfl⟩
theorem d6_wayTo_1 : Dis' m6_wayTo 1 m6_isEndNumber 1 4 := ⟨194, by decide +kernel, lk_X6_194, s_6_isEndNumber, rfl⟩
theorem d6_wayTo_4 : Dif m6_wayTo 4 .eq 11 7 := ⟨(7), by decide +kernel, by decide, rfl⟩
theorem d6_wayTo_7 : Dil m6_wayTo 7 2 8 := Or.inl ⟨2, by decide +kernel, rfl, rfl⟩
theorem d6_wayTo_8 : Dif m6_wayTo 8 .ge 14 11 := ⟨(6), by decide +kernel, by decide, rfl⟩
theorem d6_wayTo_11 : Dc m6_wayTo 11 (.bipush (-12)) 2 13 := ⟨by decide +kernel, rfl⟩
theorem d6_wayTo_13 : mR m6_wayTo = some .int ∧ decode (mB m6_wayTo) 13 = .ok (.ireturn, 1) := ⟨rfl, by decide +kernel⟩
theorem d6_wayTo_14 : Dal m6_wayTo 14 0 15 := Or.inl ⟨0, by decide +kernel, rfl, rfl⟩
theorem d6_wayTo_15 : Div m6_wayTo 15 m6_charts 0 18 := ⟨188, by decide +kernel, lk_X6_188, v_6_charts, rfl⟩
theorem d6_wayTo_18 : Dal m6_wayTo 18 0 19 := Or.inl ⟨0, by decide +kernel, rfl, rfl⟩
theorem d6_wayTo_19 : Dil m6_wayTo 19 1 20 := Or.inl ⟨1, by decide +kernel, rfl, rfl⟩
theorem d6_wayTo_20 : Div m6_wayTo 20 m6_stepsTo 1 23 := ⟨197, by decide +kernel, lk_X6_197, v_6_stepsTo, rfl⟩
theorem d6_wayTo_23 : Dis m6_wayTo 23 3 24 := Or.inl ⟨3, by decide +kernel, rfl, rfl⟩
theorem d6_wayTo_24 : Dil m6_wayTo 24 3 25 := Or.inl ⟨3, by decide +kernel, rfl, rfl⟩
theorem d6_wayTo_25 : Dc m6_wayTo 25 (.bipush (-11)) 2 27 := ⟨by decide +kernel, rfl⟩
theorem d6_wayTo_27 : Dic m6_wayTo 27 .eq 35 30 := ⟨(8), by decide +kernel, by decide, rfl⟩
theorem d6_wayTo_30 : Dil m6_wayTo 30 2 31 := Or.inl ⟨2, by decide +kernel, rfl, rfl⟩
theorem d6_wayTo_31 : Dil m6_wayTo 31 3 32 := Or.inl ⟨3, by decide +kernel, rfl, rfl⟩
theorem d6_wayTo_32 : Dic m6_wayTo 32 .lt 38 35 := ⟨(6), by decide +kernel, by decide, rfl⟩
theorem d6_wayTo_35 : Dc m6_wayTo 35 (.bipush (-11)) 2 37 := ⟨by decide +kernel, rfl⟩
theorem d6_wayTo_37 : mR m6_wayTo = some .int ∧ decode (mB m6_wayTo) 37 = .ok (.ireturn, 1) := ⟨rfl, by decide +kernel⟩
theorem d6_wayTo_38 : Dal m6_wayTo 38 0 39 := Or.inl ⟨0, by decide +kernel, rfl, rfl⟩
theorem d6_wayTo_39 : Dgf m6_wayTo 39 6 25 42 := ⟨53, by decide +kernel, f_X6_53, rfl⟩
theorem d6_wayTo_42 : Dc m6_wayTo 42 (.iconst 3) 1 43 := ⟨by decide +kernel, rfl⟩
theorem d6_wayTo_43 : Dil m6_wayTo 43 1 44 := Or.inl ⟨1, by decide +kernel, rfl, rfl⟩
theorem d6_wayTo_44 : Dc m6_wayTo 44 .iadd 1 45 := ⟨by decide +kernel, rfl⟩
theorem d6_wayTo_45 : Dc m6_wayTo 45 .iaload 1 46 := ⟨by decide +kernel, rfl⟩
theorem d6_wayTo_46 : Dis m6_wayTo 46 4 48 := Or.inr ⟨by decide +kernel, rfl⟩
theorem d6_wayTo_48 : Dal m6_wayTo 48 0 49 := Or.inl ⟨0, by decide +kernel, rfl, rfl⟩
theorem d6_wayTo_49 : Dgf m6_wayTo 49 6 24 52 := ⟨50, by decide +kernel, f_X6_50, rfl⟩
theorem d6_wayTo_52 : Dc m6_wayTo 52 (.iconst 3) 1 53 := ⟨by decide +kernel, rfl⟩
theorem d6_wayTo_53 : Dil m6_wayTo 53 1 54 := Or.inl ⟨1, by decide +kernel, rfl, rfl⟩
theorem d6_wayTo_54 : Dc m6_wayTo 54 .iadd 1 55 := ⟨by decide +kernel, rfl⟩
theorem d6_wayTo_55 : Dc m6_wayTo 55 .iaload 1 56 := ⟨by decide +kernel, rfl⟩
theorem d6_wayTo_56 : Dis m6_wayTo 56 5 58 := Or.inr ⟨by decide +kernel, rfl⟩
theorem d6_wayTo_58 : Dil m6_wayTo 58 3 59 := Or.inl ⟨3, by decide +kernel, rfl, rfl⟩
theorem d6_wayTo_59 : Dc m6_wayTo 59 (.iconst 1) 1 60 := ⟨by decide +kernel, rfl⟩
theorem d6_wayTo_60 : Dc m6_wayTo 60 .isub 1 61 := ⟨by decide +kernel, rfl⟩
theorem d6_wayTo_61 : Dis m6_wayTo 61 6 63 := Or.inr ⟨by decide +kernel, rfl⟩
theorem d6_wayTo_63 : Dil m6_wayTo 63 6 65 := Or.inr ⟨by decide +kernel, rfl⟩
theorem d6_wayTo_65 : Dil m6_wayTo 65 2 66 := Or.inl ⟨2, by decide +kernel, rfl, rfl⟩
theorem d6_wayTo_66 : Dic m6_wayTo 66 .le 93 69 := ⟨(27), by decide +kernel, by decide, rfl⟩
theorem d6_wayTo_69 : Dal m6_wayTo 69 0 70 := Or.inl ⟨0, by decide +kernel, rfl, rfl⟩
theorem d6_wayTo_70 : Dgf m6_wayTo 70 6 21 73 := ⟨44, by decide +kernel, f_X6_44, rfl⟩
theorem d6_wayTo_73 : Dil m6_wayTo 73 5 75 := Or.inr ⟨by decide +kernel, rfl⟩
theorem d6_wayTo_75 : Dc m6_wayTo 75 .iaload 1 76 := ⟨by decide +kernel, rfl⟩
theorem d6_wayTo_76 : Dis m6_wayTo 76 4 78 := Or.inr ⟨by decide +kernel, rfl⟩
theorem d6_wayTo_78 : Dal m6_wayTo 78 0 79 := Or.inl ⟨0, by decide +kernel, rfl, rfl⟩
theorem d6_wayTo_79 : Dgf m6_wayTo 79 6 20 82 := ⟨41, by decide +kernel, f_X6_41, rfl⟩
theorem d6_wayTo_82 : Dil m6_wayTo 82 5 84 := Or.inr ⟨by decide +kernel, rfl⟩
theorem d6_wayTo_84 : Dc m6_wayTo 84 .iaload 1 85 := ⟨by decide +kernel, rfl⟩
theorem d6_wayTo_85 : Dis m6_wayTo 85 5 87 := Or.inr ⟨by decide +kernel, rfl⟩
theorem d6_wayTo_87 : Dc m6_wayTo 87 (.iinc 6 (-1)) 3 90 := ⟨by decide +kernel, rfl⟩
theorem d6_wayTo_90 : Dgo m6_wayTo 90 63 := ⟨(-27), by decide +kernel, by decide⟩
theorem d6_wayTo_93 : Dil m6_wayTo 93 4 95 := Or.inr ⟨by decide +kernel, rfl⟩
theorem d6_wayTo_95 : mR m6_wayTo = some .int ∧ decode (mB m6_wayTo) 95 = .ok (.ireturn, 1) := ⟨rfl, by decide +kernel⟩
theorem d6_isUsable_0 : Dc m6_isUsable 0 (.iconst 0) 1 1 := ⟨by decide +kernel, rfl⟩
theorem d6_isUsable_1 : Dis m6_isUsable 1 3 2 := Or.inl ⟨3, by decide +kernel, rfl, rfl⟩
theorem d6_isUsable_2 : Dil m6_isUsable 2 3 3 := Or.inl ⟨3, by decide +kernel, rfl, rfl⟩
theorem d6_isUsable_3 : Dal m6_isUsable 3 0 4 := Or.inl ⟨0, by decide +kernel, rfl, rfl⟩
theorem d6_isUsable_4 : Dgf m6_isUsable 4 6 22 7 := ⟨181, by decide +kernel, f_X6_181, rfl⟩
theorem d6_isUsable_7 : Dic m6_isUsable 7 .ge 49 10 := ⟨(42), by decide +kernel, by decide, rfl⟩
theorem d6_isUsable_10 : Dal m6_isUsable 10 0 11 := Or.inl ⟨0, by decide +kernel, rfl, rfl⟩
theorem d6_isUsable_11 : Dgf m6_isUsable 11 6 19 14 := ⟨38, by decide +kernel, f_X6_38, rfl⟩
theorem d6_isUsable_14 : Dil m6_isUsable 14 3 15 := Or.inl ⟨3, by decide +kernel, rfl, rfl⟩
theorem d6_isUsable_15 : Dc m6_isUsable 15 .iaload 1 16 := ⟨by decide +kernel, rfl⟩
theorem d6_isUsable_16 : Dc m6_isUsable 16 (.bipush 64) 2 18 := ⟨by decide +kernel, rfl⟩
theorem d6_isUsable_18 : Dc m6_isUsable 18 .idiv 1 19 := ⟨by decide +kernel, rfl⟩
theorem d6_isUsable_19 : Dil m6_isUsable 19 1 20 := Or.inl ⟨1, by decide +kernel, rfl, rfl⟩
theorem d6_isUsable_20 : Dic m6_isUsable 20 .ne 43 23 := ⟨(23), by decide +kernel, by decide, rfl⟩
theorem d6_isUsable_23 : Dal m6_isUsable 23 0 24 := Or.inl ⟨0, by decide +kernel, rfl, rfl⟩
theorem d6_isUsable_24 : Dil m6_isUsable 24 1 25 := Or.inl ⟨1, by decide +kernel, rfl, rfl⟩
theorem d6_isUsable_25 : Dil m6_isUsable 25 2 26 := Or.inl ⟨2, by decide +kernel, rfl, rfl⟩
theorem d6_isUsable_26 : Dal m6_isUsable 26 0 27 := Or.inl ⟨0, by decide +kernel, rfl, rfl⟩
theorem d6_isUsable_27 : Dgf m6_isUsable 27 6 19 30 := ⟨38, by decide +kernel, f_X6_38, rfl⟩
theorem d6_isUsable_30 : Dil m6_isUsable 30 3 31 := Or.inl ⟨3, by decide +kernel, rfl, rfl⟩
theorem d6_isUsable_31 : Dc m6_isUsable 31 .iaload 1 32 := ⟨by decide +kernel, rfl⟩
theorem d6_isUsable_32 : Dc m6_isUsable 32 (.bipush 64) 2 34 := ⟨by decide +kernel, rfl⟩
theorem d6_isUsable_34 : Dc m6_isUsable 34 .irem 1 35 := ⟨by decide +kernel, rfl⟩
theorem d6_isUsable_35 : Div m6_isUsable 35 m6_isLocked 3 38 := ⟨165, by decide +kernel, lk_X6_165, v_6_isLocked, rfl⟩
theorem d6_isUsable_38 : Dif m6_isUsable 38 .ne 43 41 := ⟨(5), by decide +kernel, by decide, rfl⟩
theorem d6_isUsable_41 : Dc m6_isUsable 41 (.iconst 1) 1 42 := ⟨by decide +kernel, rfl⟩
theorem d6_isUsable_42 : mR m6_isUsable = some .int ∧ decode (mB m6_isUsable) 42 = .ok (.ireturn, 1) := ⟨rfl, by decide +kernel⟩
theorem d6_isUsable_43 : Dc m6_isUsable 43 (.iinc 3 1) 3 46 := ⟨by decide +kernel, rfl⟩
theorem d6_isUsable_46 : Dgo m6_isUsable 46 2 := ⟨(-44), by decide +kernel, by decide⟩
theorem d6_isUsable_49 : Dc m6_isUsable 49 (.iconst 0) 1 50 := ⟨by decide +kernel, rfl⟩
theorem d6_isUsable_50 : mR m6_isUsable = some .int ∧ decode (mB m6_isUsable) 50 = .ok (.ireturn, 1) := ⟨rfl, by decide +kernel⟩
theorem d6_usable_0 : Dal m6_usable 0 0 1 := Or.inl ⟨0, by decide +kernel, rfl, rfl⟩
theorem d6_usable_1 : Dil m6_usable 1 1 2 := Or.inl ⟨1, by decide +kernel, rfl, rfl⟩
theorem d6_usable_2 : Div m6_usable 2 m6_isChoice 1 5 := ⟨178, by decide +kernel, lk_X6_178, v_6_isChoice, rfl⟩
theorem d6_usable_5 : Dif m6_usable 5 .eq 24 8 := ⟨(19), by decide +kernel, by decide, rfl⟩
theorem d6_usable_8 : Dil m6_usable 8 2 9 := Or.inl ⟨2, by decide +kernel, rfl, rfl⟩
theorem d6_usable_9 : Dc m6_usable 9 (.iconst 0) 1 10 := ⟨by decide +kernel, rfl⟩
theorem d6_usable_10 : Dal m6_usable 10 0 11 := Or.inl ⟨0, by decide +kernel, rfl, rfl⟩
theorem d6_usable_11 : Dil m6_usable 11 1 12 := Or.inl ⟨1, by decide +kernel, rfl, rfl⟩
theorem d6_usable_12 : Dc m6_usable 12 (.iconst 1) 1 13 := ⟨by decide +kernel, rfl⟩
theorem d6_usable_13 : Div m6_usable 13 m6_of 2 16 := ⟨119, by decide +kernel, lk_X6_119, v_6_of, rfl⟩
theorem d6_usable_16 : Dc m6_usable 16 (.iconst 1) 1 17 := ⟨by decide +kernel, rfl⟩
theorem d6_usable_17 : Dc m6_usable 17 .isub 1 18 := ⟨by decide +kernel, rfl⟩
theorem d6_usable_18 : Dis' m6_usable 18 m6_in 3 21 := ⟨59, by decide +kernel, lk_X6_59, s_6_in, rfl⟩
theorem d6_usable_21 : Dif m6_usable 21 .ne 27 24 := ⟨(6), by decide +kernel, by decide, rfl⟩
theorem d6_usable_24 : Dc m6_usable 24 (.bipush (-12)) 2 26 := ⟨by decide +kernel, rfl⟩
theorem d6_usable_26 : mR m6_usable = some .int ∧ decode (mB m6_usable) 26 = .ok (.ireturn, 1) := ⟨rfl, by decide +kernel⟩
theorem d6_usable_27 : Dal m6_usable 27 0 28 := Or.inl ⟨0, by decide +kernel, rfl, rfl⟩
theorem d6_usable_28 : Div m6_usable 28 m6_charts 0 31 := ⟨188, by decide +kernel, lk_X6_188, v_6_charts, rfl⟩
theorem d6_usable_31 : Dal m6_usable 31 0 32 := Or.inl ⟨0, by decide +kernel, rfl, rfl⟩
theorem d6_usable_32 : Dil m6_usable 32 1 33 := Or.inl ⟨1, by decide +kernel, rfl, rfl⟩
theorem d6_usable_33 : Dil m6_usable 33 2 34 := Or.inl ⟨2, by decide +kernel, rfl, rfl⟩
theorem d6_usable_34 : Div m6_usable 34 m6_isUsable 2 37 := ⟨200, by decide +kernel, lk_X6_200, v_6_isUsable, rfl⟩
theorem d6_usable_37 : mR m6_usable = some .int ∧ decode (mB m6_usable) 37 = .ok (.ireturn, 1) := ⟨rfl, by decide +kernel⟩
theorem d6_seenNodes_0 : Dc m6_seenNodes 0 (.iconst 0) 1 1 := ⟨by decide +kernel, rfl⟩
theorem d6_seenNodes_1 : Dis m6_seenNodes 1 1 2 := Or.inl ⟨1, by decide +kernel, rfl, rfl⟩
theorem d6_seenNodes_2 : Dc m6_seenNodes 2 (.iconst 0) 1 3 := ⟨by decide +kernel, rfl⟩
theorem d6_seenNodes_3 : Dis m6_seenNodes 3 2 4 := Or.inl ⟨2, by decide +kernel, rfl, rfl⟩
theorem d6_seenNodes_4 : Dil m6_seenNodes 4 2 5 := Or.inl ⟨2, by decide +kernel, rfl, rfl⟩
theorem d6_seenNodes_5 : Dc m6_seenNodes 5 (.bipush 31) 2 7 := ⟨by decide +kernel, rfl⟩
theorem d6_seenNodes_7 : Dic m6_seenNodes 7 .ge 27 10 := ⟨(20), by decide +kernel, by decide, rfl⟩
theorem d6_seenNodes_10 : Dil m6_seenNodes 10 1 11 := Or.inl ⟨1, by decide +kernel, rfl, rfl⟩
theorem d6_seenNodes_11 : Dal m6_seenNodes 11 0 12 := Or.inl ⟨0, by decide +kernel, rfl, rfl⟩
theorem d6_seenNodes_12 : Dgf m6_seenNodes 12 6 10 15 := ⟨144, by decide +kernel, f_X6_144, rfl⟩
theorem d6_seenNodes_15 : Dil m6_seenNodes 15 2 16 := Or.inl ⟨2, by decide +kernel, rfl, rfl⟩
theorem d6_seenNodes_16 : Dc m6_seenNodes 16 .ishr 1 17 := ⟨by decide +kernel, rfl⟩
theorem d6_seenNodes_17 : Dc m6_seenNodes 17 (.iconst 1) 1 18 := ⟨by decide +kernel, rfl⟩
theorem d6_seenNodes_18 : Dc m6_seenNodes 18 .iand 1 19 := ⟨by decide +kernel, rfl⟩
theorem d6_seenNodes_19 : Dc m6_seenNodes 19 .iadd 1 20 := ⟨by decide +kernel, rfl⟩
theorem d6_seenNodes_20 : Dis m6_seenNodes 20 1 21 := Or.inl ⟨1, by decide +kernel, rfl, rfl⟩
theorem d6_seenNodes_21 : Dc m6_seenNodes 21 (.iinc 2 1) 3 24 := ⟨by decide +kernel, rfl⟩
theorem d6_seenNodes_24 : Dgo m6_seenNodes 24 4 := ⟨(-20), by decide +kernel, by decide⟩
theorem d6_seenNodes_27 : Dil m6_seenNodes 27 1 28 := Or.inl ⟨1, by decide +kernel, rfl, rfl⟩
theorem d6_seenNodes_28 : mR m6_seenNodes = some .int ∧ decode (mB m6_seenNodes) 28 = .ok (.ireturn, 1) := ⟨rfl, by decide +kernel⟩
theorem d6_savedMoments_0 : Dc m6_savedMoments 0 (.iconst 0) 1 1 := ⟨by decide +kernel, rfl⟩
theorem d6_savedMoments_1 : Dis m6_savedMoments 1 1 2 := Or.inl ⟨1, by decide +kernel, rfl, rfl⟩
theorem d6_savedMoments_2 : Dc m6_savedMoments 2 (.iconst 0) 1 3 := ⟨by decide +kernel, rfl⟩
theorem d6_savedMoments_3 : Dis m6_savedMoments 3 2 4 := Or.inl ⟨2, by decide +kernel, rfl, rfl⟩
theorem d6_savedMoments_4 : Dil m6_savedMoments 4 2 5 := Or.inl ⟨2, by decide +kernel, rfl, rfl⟩
theorem d6_savedMoments_5 : Dc m6_savedMoments 5 (.iconst 3) 1 6 := ⟨by decide +kernel, rfl⟩
theorem d6_savedMoments_6 : Dic m6_savedMoments 6 .ge 32 9 := ⟨(26), by decide +kernel, by decide, rfl⟩
theorem d6_savedMoments_9 : Dil m6_savedMoments 9 1 10 := Or.inl ⟨1, by decide +kernel, rfl, rfl⟩
theorem d6_savedMoments_10 : Dal m6_savedMoments 10 0 11 := Or.inl ⟨0, by decide +kernel, rfl, rfl⟩
theorem d6_savedMoments_11 : Dgf m6_savedMoments 11 6 9 14 := ⟨22, by decide +kernel, f_X6_22, rfl⟩
theorem d6_savedMoments_14 : Dil m6_savedMoments 14 2 15 := Or.inl ⟨2, by decide +kernel, rfl, rfl⟩
theorem d6_savedMoments_15 : Dc m6_savedMoments 15 .baload 1 16 := ⟨by decide +kernel, rfl⟩
theorem d6_savedMoments_16 : Dif m6_savedMoments 16 .eq 23 19 := ⟨(7), by decide +kernel, by decide, rfl⟩
theorem d6_savedMoments_19 : Dc m6_savedMoments 19 (.iconst 1) 1 20 := ⟨by decide +kernel, rfl⟩
theorem d6_savedMoments_20 : Dgo m6_savedMoments 20 24 := ⟨4, by decide +kernel, by decide⟩
theorem d6_savedMoments_23 : Dc m6_savedMoments 23 (.iconst 0) 1 24 := ⟨by decide +kernel, rfl⟩
theorem d6_savedMoments_24 : Dc m6_savedMoments 24 .iadd 1 25 := ⟨by decide +kernel, rfl⟩
theorem d6_savedMoments_25 : Dis m6_savedMoments 25 1 26 := Or.inl ⟨1, by decide +kernel, rfl, rfl⟩
theorem d6_savedMoments_26 : Dc m6_savedMoments 26 (.iinc 2 1) 3 29 := ⟨by decide +kernel, rfl⟩
theorem d6_savedMoments_29 : Dgo m6_savedMoments 29 4 := ⟨(-25), by decide +kernel, by decide⟩
theorem d6_savedMoments_32 : Dil m6_savedMoments 32 1 33 := Or.inl ⟨1, by decide +kernel, rfl, rfl⟩
theorem d6_savedMoments_33 : mR m6_savedMoments = some .int ∧ decode (mB m6_savedMoments) 33 = .ok (.ireturn, 1) := ⟨rfl, by decide +kernel⟩
theorem d6_ends_0 : Dc m6_ends 0 (.iconst 0) 1 1 := ⟨by decide +kernel, rfl⟩
theorem d6_ends_1 : Dis m6_ends 1 1 2 := Or.inl ⟨1, by decide +kernel, rfl, rfl⟩
theorem d6_ends_2 : Dal m6_ends 2 0 3 := Or.inl ⟨0, by decide +kernel, rfl, rfl⟩
theorem d6_ends_3 : Div m6_ends 3 m6_charts 0 6 := ⟨188, by decide +kernel, lk_X6_188, v_6_charts, rfl⟩
theorem d6_ends_6 : Dc m6_ends 6 (.iconst 0) 1 7 := ⟨by decide +kernel, rfl⟩
theorem d6_ends_7 : Dis m6_ends 7 2 8 := Or.inl ⟨2, by decide +kernel, rfl, rfl⟩
theorem d6_ends_8 : Dil m6_ends 8 2 9 := Or.inl ⟨2, by decide +kernel, rfl, rfl⟩
theorem d6_ends_9 : Dc m6_ends 9 (.bipush 13) 2 11 := ⟨by decide +kernel, rfl⟩
theorem d6_ends_11 : Dic m6_ends 11 .ge 37 14 := ⟨(26), by decide +kernel, by decide, rfl⟩
theorem d6_ends_14 : Dil m6_ends 14 1 15 := Or.inl ⟨1, by decide +kernel, rfl, rfl⟩
theorem d6_ends_15 : Dal m6_ends 15 0 16 := Or.inl ⟨0, by decide +kernel, rfl, rfl⟩
theorem d6_ends_16 : Dgf m6_ends 16 6 23 19 := ⟨47, by decide +kernel, f_X6_47, rfl⟩
theorem d6_ends_19 : Dil m6_ends 19 2 20 := Or.inl ⟨2, by decide +kernel, rfl, rfl⟩
theorem d6_ends_20 : Dc m6_ends 20 .baload 1 21 := ⟨by decide +kernel, rfl⟩
theorem d6_ends_21 : Dif m6_ends 21 .eq 28 24 := ⟨(7), by decide +kernel, by decide, rfl⟩
theorem d6_ends_24 : Dc m6_ends 24 (.iconst 1) 1 25 := ⟨by decide +kernel, rfl⟩
theorem d6_ends_25 : Dgo m6_ends 25 29 := ⟨4, by decide +kernel, by decide⟩
theorem d6_ends_28 : Dc m6_ends 28 (.iconst 0) 1 29 := ⟨by decide +kernel, rfl⟩
theorem d6_ends_29 : Dc m6_ends 29 .iadd 1 30 := ⟨by decide +kernel, rfl⟩
theorem d6_ends_30 : Dis m6_ends 30 1 31 := Or.inl ⟨1, by decide +kernel, rfl, rfl⟩
theorem d6_ends_31 : Dc m6_ends 31 (.iinc 2 1) 3 34 := ⟨by decide +kernel, rfl⟩
theorem d6_ends_34 : Dgo m6_ends 34 8 := ⟨(-26), by decide +kernel, by decide⟩
theorem d6_ends_37 : Dil m6_ends 37 1 38 := Or.inl ⟨1, by decide +kernel, rfl, rfl⟩
theorem d6_ends_38 : mR m6_ends = some .int ∧ decode (mB m6_ends) 38 = .ok (.ireturn, 1) := ⟨rfl, by decide +kernel⟩
theorem d6_count_0 : Dil m6_count 0 1 1 := Or.inl ⟨1, by decide +kernel, rfl, rfl⟩
theorem d6_count_1 : Dts m6_count 1 0 [44, 49, 54, 59, 64, 69, 74] 79 := ⟨78, 6, #[43, 48, 53, 58, 63, 68, 73], 43, by decide +kernel, by decide, by decide, rfl, by decide⟩
theorem d6_count_44 : Dal m6_count 44 0 45 := Or.inl ⟨0, by decide +kernel, rfl, rfl⟩
theorem d6_count_45 : Dgf m6_count 45 6 1 48 := ⟨116, by decide +kernel, f_X6_116, rfl⟩
theorem d6_count_48 : mR m6_count = some .int ∧ decode (mB m6_count) 48 = .ok (.ireturn, 1) := ⟨rfl, by decide +kernel⟩
theorem d6_count_49 : Dal m6_count 49 0 50 := Or.inl ⟨0, by decide +kernel, rfl, rfl⟩
theorem d6_count_50 : Dgf m6_count 50 6 6 53 := ⟨138, by decide +kernel, f_X6_138, rfl⟩
theorem d6_count_53 : mR m6_count = some .int ∧ decode (mB m6_count) 53 = .ok (.ireturn, 1) := ⟨rfl, by decide +kernel⟩
theorem d6_count_54 : Dal m6_count 54 0 55 := Or.inl ⟨0, by decide +kernel, rfl, rfl⟩
theorem d6_count_55 : Dgf m6_count 55 6 7 58 := ⟨150, by decide +kernel, f_X6_150, rfl⟩
theorem d6_count_58 : mR m6_count = some .int ∧ decode (mB m6_count) 58 = .ok (.ireturn, 1) := ⟨rfl, by decide +kernel⟩
theorem d6_count_59 : Dal m6_count 59 0 60 := Or.inl ⟨0, by decide +kernel, rfl, rfl⟩
theorem d6_count_60 : Div m6_count 60 m6_seenNodes 0 63 := ⟨203, by decide +kernel, lk_X6_203, v_6_seenNodes, rfl⟩
theorem d6_count_63 : mR m6_count = some .int ∧ decode (mB m6_count) 63 = .ok (.ireturn, 1) := ⟨rfl, by decide +kernel⟩
theorem d6_count_64 : Dal m6_count 64 0 65 := Or.inl ⟨0, by decide +kernel, rfl, rfl⟩
theorem d6_count_65 : Div m6_count 65 m6_savedMoments 0 68 := ⟨206, by decide +kernel, lk_X6_206, v_6_savedMoments, rfl⟩
theorem d6_count_68 : mR m6_count = some .int ∧ decode (mB m6_count) 68 = .ok (.ireturn, 1) := ⟨rfl, by decide +kernel⟩
theorem d6_count_69 : Dal m6_count 69 0 70 := Or.inl ⟨0, by decide +kernel, rfl, rfl⟩
theorem d6_count_70 : Div m6_count 70 m6_ends 0 73 := ⟨209, by decide +kernel, lk_X6_209, v_6_ends, rfl⟩
theorem d6_count_73 : mR m6_count = some .int ∧ decode (mB m6_count) 73 = .ok (.ireturn, 1) := ⟨rfl, by decide +kernel⟩
theorem d6_count_74 : Dal m6_count 74 0 75 := Or.inl ⟨0, by decide +kernel, rfl, rfl⟩
theorem d6_count_75 : Dgf m6_count 75 6 12 78 := ⟨63, by decide +kernel, f_X6_63, rfl⟩
theorem d6_count_78 : mR m6_count = some .int ∧ decode (mB m6_count) 78 = .ok (.ireturn, 1) := ⟨rfl, by decide +kernel⟩
theorem d6_count_79 : Dc m6_count 79 (.bipush (-12)) 2 81 := ⟨by decide +kernel, rfl⟩
theorem d6_count_81 : mR m6_count = some .int ∧ decode (mB m6_count) 81 = .ok (.ireturn, 1) := ⟨rfl, by decide +kernel⟩
theorem d6_mixes_0 : Dal m6_mixes 0 0 1 := Or.inl ⟨0, by decide +kernel, rfl, rfl⟩
theorem d6_mixes_1 : Dl2 m6_mixes 1 31 4 := ⟨212, by decide +kernel, tG_of (List.mem_of_getElem? (i := 1043) (by decide +kernel)) (by decide +kernel), rfl⟩
theorem d6_mixes_4 : Dal m6_mixes 4 0 5 := Or.inl ⟨0, by decide +kernel, rfl, rfl⟩
theorem d6_mixes_5 : Dgf m6_mixes 5 6 26 8 := ⟨214, by decide +kernel, f_X6_214, rfl⟩
theorem d6_mixes_8 : Dc m6_mixes 8 .lmul 1 9 := ⟨by decide +kernel, rfl⟩
theorem d6_mixes_9 : Dil m6_mixes 9 1 10 := Or.inl ⟨1, by decide +kernel, rfl, rfl⟩
theorem d6_mixes_10 : Dc m6_mixes 10 .i2l 1 11 := ⟨by decide +kernel, rfl⟩
theorem d6_mixes_11 : Dc m6_mixes 11 .ladd 1 12 := ⟨by decide +kernel, rfl⟩
theorem d6_mixes_12 : Dpf m6_mixes 12 6 26 .long false 15 := ⟨214, by decide +kernel, f_X6_214, p_X6_X6_26, rfl⟩
theorem d6_mixes_15 : mR m6_mixes = none ∧ decode (mB m6_mixes) 15 = .ok (.return_, 1) := ⟨rfl, by decide +kernel⟩
theorem d6_mixesNode_0 : Dc m6_mixesNode 0 (.iconst 0) 1 1 := ⟨by decide +kernel, rfl⟩
theorem d6_mixesNode_1 : Dis m6_mixesNode 1 2 2 := Or.inl ⟨2, by decide +kernel, rfl, rfl⟩
theorem d6_mixesNode_2 : Dil m6_mixesNode 2 2 3 := Or.inl ⟨2, by decide +kernel, rfl, rfl⟩
theorem d6_mixesNode_3 : Dc m6_mixesNode 3 (.iconst 4) 1 4 := ⟨by decide +kernel, rfl⟩
theorem d6_mixesNode_4 : Dic m6_mixesNode 4 .ge 23 7 := ⟨(19), by decide +kernel, by decide, rfl⟩
theorem d6_mixesNode_7 : Dal m6_mixesNode 7 0 8 := Or.inl ⟨0, by decide +kernel, rfl, rfl⟩
theorem d6_mixesNode_8 : Dal m6_mixesNode 8 0 9 := Or.inl ⟨0, by decide +kernel, rfl, rfl⟩
theorem d6_mixesNode_9 : Dil m6_mixesNode 9 1 10 := Or.inl ⟨1, by decide +kernel, rfl, rfl⟩
theorem d6_mixesNode_10 : Dil m6_mixesNode 10 2 11 := Or.inl ⟨2, by decide +kernel, rfl, rfl⟩
theorem d6_mixesNode_11 : Div m6_mixesNode 11 m6_of 2 14 := ⟨119, by decide +kernel, lk_X6_119, v_6_of, rfl⟩
theorem d6_mixesNode_14 : Div m6_mixesNode 14 m6_mixes 1 17 := ⟨218, by decide +kernel, lk_X6_218, v_6_mixes, rfl⟩
theorem d6_mixesNode_17 : Dc m6_mixesNode 17 (.iinc 2 1) 3 20 := ⟨by decide +kernel, rfl⟩
end
section
/-! ===== decode rows of X6 ===== -/
theorem d6_mixesNode_20 : Dgo m6_mixesNode 20 2 := ⟨(-18), by decide +kernel, by decide⟩
theorem d6_mixesNode_23 : Dc m6_mixesNode 23 (.iconst 0) 1 24 := ⟨by decide +kernel, rfl⟩
theorem d6_mixesNode_24 : Dis m6_mixesNode 24 2 25 := Or.inl ⟨2, by decide +kernel, rfl, rfl⟩
theorem d6_mixesNode_25 : Dal m6_mixesNode 25 0 26 := Or.inl ⟨0, by decide +kernel, rfl, rfl⟩
theorem d6_mixesNode_26 : Dil m6_mixesNode 26 1 27 := Or.inl ⟨1, by decide +kernel, rfl, rfl⟩
theorem d6_mixesNode_27 : Dc m6_mixesNode 27 (.iconst 0) 1 28 := ⟨by decide +kernel, rfl⟩
theorem d6_mixesNode_28 : Div m6_mixesNode 28 m6_of 2 31 := ⟨119, by decide +kernel, lk_X6_119, v_6_of, rfl⟩
theorem d6_mixesNode_31 : Dc m6_mixesNode 31 (.bipush 6) 2 33 := ⟨by decide +kernel, rfl⟩
theorem d6_mixesNode_33 : Dic m6_mixesNode 33 .ne 86 36 := ⟨(53), by decide +kernel, by decide, rfl⟩
theorem d6_mixesNode_36 : Dil m6_mixesNode 36 2 37 := Or.inl ⟨2, by decide +kernel, rfl, rfl⟩
theorem d6_mixesNode_37 : Dal m6_mixesNode 37 0 38 := Or.inl ⟨0, by decide +kernel, rfl, rfl⟩
theorem d6_mixesNode_38 : Dil m6_mixesNode 38 1 39 := Or.inl ⟨1, by decide +kernel, rfl, rfl⟩
theorem d6_mixesNode_39 : Dc m6_mixesNode 39 (.iconst 1) 1 40 := ⟨by decide +kernel, rfl⟩
theorem d6_mixesNode_40 : Div m6_mixesNode 40 m6_of 2 43 := ⟨119, by decide +kernel, lk_X6_119, v_6_of, rfl⟩
theorem d6_mixesNode_43 : Dic m6_mixesNode 43 .ge 86 46 := ⟨(43), by decide +kernel, by decide, rfl⟩
theorem d6_mixesNode_46 : Dc m6_mixesNode 46 (.iconst 0) 1 47 := ⟨by decide +kernel, rfl⟩
theorem d6_mixesNode_47 : Dis m6_mixesNode 47 3 48 := Or.inl ⟨3, by decide +kernel, rfl, rfl⟩
theorem d6_mixesNode_48 : Dil m6_mixesNode 48 3 49 := Or.inl ⟨3, by decide +kernel, rfl, rfl⟩
theorem d6_mixesNode_49 : Dc m6_mixesNode 49 (.iconst 3) 1 50 := ⟨by decide +kernel, rfl⟩
theorem d6_mixesNode_50 : Dic m6_mixesNode 50 .ge 70 53 := ⟨(20), by decide +kernel, by decide, rfl⟩
theorem d6_mixesNode_53 : Dal m6_mixesNode 53 0 54 := Or.inl ⟨0, by decide +kernel, rfl, rfl⟩
theorem d6_mixesNode_54 : Dal m6_mixesNode 54 0 55 := Or.inl ⟨0, by decide +kernel, rfl, rfl⟩
theorem d6_mixesNode_55 : Dil m6_mixesNode 55 1 56 := Or.inl ⟨1, by decide +kernel, rfl, rfl⟩
theorem d6_mixesNode_56 : Dil m6_mixesNode 56 2 57 := Or.inl ⟨2, by decide +kernel, rfl, rfl⟩
theorem d6_mixesNode_57 : Dil m6_mixesNode 57 3 58 := Or.inl ⟨3, by decide +kernel, rfl, rfl⟩
theorem d6_mixesNode_58 : Div m6_mixesNode 58 m6_option 3 61 := ⟨221, by decide +kernel, lk_X6_221, v_6_option, rfl⟩
theorem d6_mixesNode_61 : Div m6_mixesNode 61 m6_mixes 1 64 := ⟨218, by decide +kernel, lk_X6_218, v_6_mixes, rfl⟩
theorem d6_mixesNode_64 : Dc m6_mixesNode 64 (.iinc 3 1) 3 67 := ⟨by decide +kernel, rfl⟩
theorem d6_mixesNode_67 : Dgo m6_mixesNode 67 48 := ⟨(-19), by decide +kernel, by decide⟩
theorem d6_mixesNode_70 : Dal m6_mixesNode 70 0 71 := Or.inl ⟨0, by decide +kernel, rfl, rfl⟩
theorem d6_mixesNode_71 : Dal m6_mixesNode 71 0 72 := Or.inl ⟨0, by decide +kernel, rfl, rfl⟩
theorem d6_mixesNode_72 : Dil m6_mixesNode 72 1 73 := Or.inl ⟨1, by decide +kernel, rfl, rfl⟩
theorem d6_mixesNode_73 : Dil m6_mixesNode 73 2 74 := Or.inl ⟨2, by decide +kernel, rfl, rfl⟩
theorem d6_mixesNode_74 : Div m6_mixesNode 74 m6_isUsable 2 77 := ⟨200, by decide +kernel, lk_X6_200, v_6_isUsable, rfl⟩
theorem d6_mixesNode_77 : Div m6_mixesNode 77 m6_mixes 1 80 := ⟨218, by decide +kernel, lk_X6_218, v_6_mixes, rfl⟩
theorem d6_mixesNode_80 : Dc m6_mixesNode 80 (.iinc 2 1) 3 83 := ⟨by decide +kernel, rfl⟩
theorem d6_mixesNode_83 : Dgo m6_mixesNode 83 25 := ⟨(-58), by decide +kernel, by decide⟩
theorem d6_mixesNode_86 : mR m6_mixesNode = none ∧ decode (mB m6_mixesNode) 86 = .ok (.return_, 1) := ⟨rfl, by decide +kernel⟩
theorem d6_digest_0 : Dal m6_digest 0 0 1 := Or.inl ⟨0, by decide +kernel, rfl, rfl⟩
theorem d6_digest_1 : Dl2 m6_digest 1 163 4 := ⟨225, by decide +kernel, tG_of (List.mem_of_getElem? (i := 1037) (by decide +kernel)) (by decide +kernel), rfl⟩
theorem d6_digest_4 : Dpf m6_digest 4 6 26 .long false 7 := ⟨214, by decide +kernel, f_X6_214, p_X6_X6_26, rfl⟩
theorem d6_digest_7 : Dc m6_digest 7 (.iconst 0) 1 8 := ⟨by decide +kernel, rfl⟩
theorem d6_digest_8 : Dis m6_digest 8 1 9 := Or.inl ⟨1, by decide +kernel, rfl, rfl⟩
theorem d6_digest_9 : Dil m6_digest 9 1 10 := Or.inl ⟨1, by decide +kernel, rfl, rfl⟩
theorem d6_digest_10 : Dc m6_digest 10 (.bipush 7) 2 12 := ⟨by decide +kernel, rfl⟩
theorem d6_digest_12 : Dic m6_digest 12 .ge 30 15 := ⟨(18), by decide +kernel, by decide, rfl⟩
theorem d6_digest_15 : Dal m6_digest 15 0 16 := Or.inl ⟨0, by decide +kernel, rfl, rfl⟩
theorem d6_digest_16 : Dal m6_digest 16 0 17 := Or.inl ⟨0, by decide +kernel, rfl, rfl⟩
theorem d6_digest_17 : Dil m6_digest 17 1 18 := Or.inl ⟨1, by decide +kernel, rfl, rfl⟩
theorem d6_digest_18 : Div m6_digest 18 m6_count 1 21 := ⟨227, by decide +kernel, lk_X6_227, v_6_count, rfl⟩
theorem d6_digest_21 : Div m6_digest 21 m6_mixes 1 24 := ⟨218, by decide +kernel, lk_X6_218, v_6_mixes, rfl⟩
theorem d6_digest_24 : Dc m6_digest 24 (.iinc 1 1) 3 27 := ⟨by decide +kernel, rfl⟩
theorem d6_digest_27 : Dgo m6_digest 27 9 := ⟨(-18), by decide +kernel, by decide⟩
theorem d6_digest_30 : Dc m6_digest 30 (.iconst 0) 1 31 := ⟨by decide +kernel, rfl⟩
theorem d6_digest_31 : Dis m6_digest 31 1 32 := Or.inl ⟨1, by decide +kernel, rfl, rfl⟩
theorem d6_digest_32 : Dil m6_digest 32 1 33 := Or.inl ⟨1, by decide +kernel, rfl, rfl⟩
theorem d6_digest_33 : Dc m6_digest 33 (.bipush 6) 2 35 := ⟨by decide +kernel, rfl⟩
theorem d6_digest_35 : Dic m6_digest 35 .ge 53 38 := ⟨(18), by decide +kernel, by decide, rfl⟩
theorem d6_digest_38 : Dal m6_digest 38 0 39 := Or.inl ⟨0, by decide +kernel, rfl, rfl⟩
theorem d6_digest_39 : Dal m6_digest 39 0 40 := Or.inl ⟨0, by decide +kernel, rfl, rfl⟩
theorem d6_digest_40 : Dil m6_digest 40 1 41 := Or.inl ⟨1, by decide +kernel, rfl, rfl⟩
theorem d6_digest_41 : Div m6_digest 41 m6_shown 1 44 := ⟨229, by decide +kernel, lk_X6_229, v_6_shown, rfl⟩
theorem d6_digest_44 : Div m6_digest 44 m6_mixes 1 47 := ⟨218, by decide +kernel, lk_X6_218, v_6_mixes, rfl⟩
theorem d6_digest_47 : Dc m6_digest 47 (.iinc 1 1) 3 50 := ⟨by decide +kernel, rfl⟩
theorem d6_digest_50 : Dgo m6_digest 50 32 := ⟨(-18), by decide +kernel, by decide⟩
theorem d6_digest_53 : Dc m6_digest 53 (.iconst 0) 1 54 := ⟨by decide +kernel, rfl⟩
theorem d6_digest_54 : Dis m6_digest 54 1 55 := Or.inl ⟨1, by decide +kernel, rfl, rfl⟩
theorem d6_digest_55 : Dil m6_digest 55 1 56 := Or.inl ⟨1, by decide +kernel, rfl, rfl⟩
theorem d6_digest_56 : Dc m6_digest 56 (.iconst 3) 1 57 := ⟨by decide +kernel, rfl⟩
theorem d6_digest_57 : Dic m6_digest 57 .ge 86 60 := ⟨(29), by decide +kernel, by decide, rfl⟩
theorem d6_digest_60 : Dal m6_digest 60 0 61 := Or.inl ⟨0, by decide +kernel, rfl, rfl⟩
theorem d6_digest_61 : Dal m6_digest 61 0 62 := Or.inl ⟨0, by decide +kernel, rfl, rfl⟩
theorem d6_digest_62 : Dil m6_digest 62 1 63 := Or.inl ⟨1, by decide +kernel, rfl, rfl⟩
theorem d6_digest_63 : Dc m6_digest 63 (.iconst 0) 1 64 := ⟨by decide +kernel, rfl⟩
theorem d6_digest_64 : Div m6_digest 64 m6_portrait 2 67 := ⟨232, by decide +kernel, lk_X6_232, v_6_portrait, rfl⟩
theorem d6_digest_67 : Div m6_digest 67 m6_mixes 1 70 := ⟨218, by decide +kernel, lk_X6_218, v_6_mixes, rfl⟩
theorem d6_digest_70 : Dal m6_digest 70 0 71 := Or.inl ⟨0, by decide +kernel, rfl, rfl⟩
theorem d6_digest_71 : Dal m6_digest 71 0 72 := Or.inl ⟨0, by decide +kernel, rfl, rfl⟩
theorem d6_digest_72 : Dil m6_digest 72 1 73 := Or.inl ⟨1, by decide +kernel, rfl, rfl⟩
theorem d6_digest_73 : Dc m6_digest 73 (.iconst 1) 1 74 := ⟨by decide +kernel, rfl⟩
theorem d6_digest_74 : Div m6_digest 74 m6_portrait 2 77 := ⟨232, by decide +kernel, lk_X6_232, v_6_portrait, rfl⟩
theorem d6_digest_77 : Div m6_digest 77 m6_mixes 1 80 := ⟨218, by decide +kernel, lk_X6_218, v_6_mixes, rfl⟩
theorem d6_digest_80 : Dc m6_digest 80 (.iinc 1 1) 3 83 := ⟨by decide +kernel, rfl⟩
theorem d6_digest_83 : Dgo m6_digest 83 55 := ⟨(-28), by decide +kernel, by decide⟩
theorem d6_digest_86 : Dal m6_digest 86 0 87 := Or.inl ⟨0, by decide +kernel, rfl, rfl⟩
theorem d6_digest_87 : Div m6_digest 87 m6_charts 0 90 := ⟨188, by decide +kernel, lk_X6_188, v_6_charts, rfl⟩
theorem d6_digest_90 : Dc m6_digest 90 (.iconst 0) 1 91 := ⟨by decide +kernel, rfl⟩
theorem d6_digest_91 : Dis m6_digest 91 1 92 := Or.inl ⟨1, by decide +kernel, rfl, rfl⟩
theorem d6_digest_92 : Dil m6_digest 92 1 93 := Or.inl ⟨1, by decide +kernel, rfl, rfl⟩
theorem d6_digest_93 : Dal m6_digest 93 0 94 := Or.inl ⟨0, by decide +kernel, rfl, rfl⟩
theorem d6_digest_94 : Dgf m6_digest 94 6 1 97 := ⟨116, by decide +kernel, f_X6_116, rfl⟩
theorem d6_digest_97 : Dic m6_digest 97 .ge 111 100 := ⟨(14), by decide +kernel, by decide, rfl⟩
theorem d6_digest_100 : Dal m6_digest 100 0 101 := Or.inl ⟨0, by decide +kernel, rfl, rfl⟩
theorem d6_digest_101 : Dil m6_digest 101 1 102 := Or.inl ⟨1, by decide +kernel, rfl, rfl⟩
theorem d6_digest_102 : Div m6_digest 102 m6_mixesNode 1 105 := ⟨236, by decide +kernel, lk_X6_236, v_6_mixesNode, rfl⟩
theorem d6_digest_105 : Dc m6_digest 105 (.iinc 1 1) 3 108 := ⟨by decide +kernel, rfl⟩
theorem d6_digest_108 : Dgo m6_digest 108 92 := ⟨(-16), by decide +kernel, by decide⟩
theorem d6_digest_111 : Dal m6_digest 111 0 112 := Or.inl ⟨0, by decide +kernel, rfl, rfl⟩
theorem d6_digest_112 : Dal m6_digest 112 0 113 := Or.inl ⟨0, by decide +kernel, rfl, rfl⟩
theorem d6_digest_113 : Dc m6_digest 113 (.iconst (-1)) 1 114 := ⟨by decide +kernel, rfl⟩
theorem d6_digest_114 : Div m6_digest 114 m6_situationsOf 1 117 := ⟨191, by decide +kernel, lk_X6_191, v_6_situationsOf, rfl⟩
theorem d6_digest_117 : Div m6_digest 117 m6_mixes 1 120 := ⟨218, by decide +kernel, lk_X6_218, v_6_mixes, rfl⟩
theorem d6_digest_120 : Dc m6_digest 120 (.bipush (-3)) 2 122 := ⟨by decide +kernel, rfl⟩
theorem d6_digest_122 : Dis m6_digest 122 1 123 := Or.inl ⟨1, by decide +kernel, rfl, rfl⟩
theorem d6_digest_123 : Dil m6_digest 123 1 124 := Or.inl ⟨1, by decide +kernel, rfl, rfl⟩
theorem d6_digest_124 : Dc m6_digest 124 (.bipush 10) 2 126 := ⟨by decide +kernel, rfl⟩
theorem d6_digest_126 : Dic m6_digest 126 .ge 149 129 := ⟨(23), by decide +kernel, by decide, rfl⟩
theorem d6_digest_129 : Dil m6_digest 129 1 130 := Or.inl ⟨1, by decide +kernel, rfl, rfl⟩
theorem d6_digest_130 : Dc m6_digest 130 (.iconst (-1)) 1 131 := ⟨by decide +kernel, rfl⟩
theorem d6_digest_131 : Dic m6_digest 131 .eq 143 134 := ⟨(12), by decide +kernel, by decide, rfl⟩
theorem d6_digest_134 : Dal m6_digest 134 0 135 := Or.inl ⟨0, by decide +kernel, rfl, rfl⟩
theorem d6_digest_135 : Dal m6_digest 135 0 136 := Or.inl ⟨0, by decide +kernel, rfl, rfl⟩
theorem d6_digest_136 : Dil m6_digest 136 1 137 := Or.inl ⟨1, by decide +kernel, rfl, rfl⟩
theorem d6_digest_137 : Div m6_digest 137 m6_stepsTo 1 140 := ⟨197, by decide +kernel, lk_X6_197, v_6_stepsTo, rfl⟩
theorem d6_digest_140 : Div m6_digest 140 m6_mixes 1 143 := ⟨218, by decide +kernel, lk_X6_218, v_6_mixes, rfl⟩
theorem d6_digest_143 : Dc m6_digest 143 (.iinc 1 1) 3 146 := ⟨by decide +kernel, rfl⟩
theorem d6_digest_146 : Dgo m6_digest 146 123 := ⟨(-23), by decide +kernel, by decide⟩
theorem d6_digest_149 : Dc m6_digest 149 (.iconst 0) 1 150 := ⟨by decide +kernel, rfl⟩
theorem d6_digest_150 : Dis m6_digest 150 1 151 := Or.inl ⟨1, by decide +kernel, rfl, rfl⟩
theorem d6_digest_151 : Dil m6_digest 151 1 152 := Or.inl ⟨1, by decide +kernel, rfl, rfl⟩
theorem d6_digest_152 : Dal m6_digest 152 0 153 := Or.inl ⟨0, by decide +kernel, rfl, rfl⟩
theorem d6_digest_153 : Dgf m6_digest 153 6 12 156 := ⟨63, by decide +kernel, f_X6_63, rfl⟩
theorem d6_digest_156 : Dic m6_digest 156 .ge 175 159 := ⟨(19), by decide +kernel, by decide, rfl⟩
theorem d6_digest_159 : Dal m6_digest 159 0 160 := Or.inl ⟨0, by decide +kernel, rfl, rfl⟩
theorem d6_digest_160 : Dal m6_digest 160 0 161 := Or.inl ⟨0, by decide +kernel, rfl, rfl⟩
theorem d6_digest_161 : Dgf m6_digest 161 6 11 164 := ⟨26, by decide +kernel, f_X6_26, rfl⟩
theorem d6_digest_164 : Dil m6_digest 164 1 165 := Or.inl ⟨1, by decide +kernel, rfl, rfl⟩
theorem d6_digest_165 : Dc m6_digest 165 .iaload 1 166 := ⟨by decide +kernel, rfl⟩
theorem d6_digest_166 : Div m6_digest 166 m6_mixes 1 169 := ⟨218, by decide +kernel, lk_X6_218, v_6_mixes, rfl⟩
theorem d6_digest_169 : Dc m6_digest 169 (.iinc 1 1) 3 172 := ⟨by decide +kernel, rfl⟩
theorem d6_digest_172 : Dgo m6_digest 172 151 := ⟨(-21), by decide +kernel, by decide⟩
theorem d6_digest_175 : Dal m6_digest 175 0 176 := Or.inl ⟨0, by decide +kernel, rfl, rfl⟩
theorem d6_digest_176 : Dgf m6_digest 176 6 26 179 := ⟨214, by decide +kernel, f_X6_214, rfl⟩
theorem d6_digest_179 : mR m6_digest = some .long ∧ decode (mB m6_digest) 179 = .ok (.lreturn, 1) := ⟨rfl, by decide +kernel⟩
end
section
/-! ===== decode rows of J7 ===== -/
theorem dJ7_fill_0 : Dc mJ7_fill 0 (.iconst 0) 1 1 := ⟨by decide +kernel, rfl⟩
theorem dJ7_fill_1 : Dis mJ7_fill 1 2 2 := Or.inl ⟨2, by decide +kernel, rfl, rfl⟩
theorem dJ7_fill_2 : Dal mJ7_fill 2 0 3 := Or.inl ⟨0, by decide +kernel, rfl, rfl⟩
theorem dJ7_fill_3 : Dc mJ7_fill 3 .arraylength 1 4 := ⟨by decide +kernel, rfl⟩
theorem dJ7_fill_4 : Dis mJ7_fill 4 3 5 := Or.inl ⟨3, by decide +kernel, rfl, rfl⟩
theorem dJ7_fill_5 : Dil mJ7_fill 5 2 6 := Or.inl ⟨2, by decide +kernel, rfl, rfl⟩
theorem dJ7_fill_6 : Dil mJ7_fill 6 3 7 := Or.inl ⟨3, by decide +kernel, rfl, rfl⟩
theorem dJ7_fill_7 : Dic mJ7_fill 7 .ge 20 10 := ⟨(13), by decide +kernel, by decide, rfl⟩
theorem dJ7_fill_10 : Dal mJ7_fill 10 0 11 := Or.inl ⟨0, by decide +kernel, rfl, rfl⟩
theorem dJ7_fill_11 : Dil mJ7_fill 11 2 12 := Or.inl ⟨2, by decide +kernel, rfl, rfl⟩
theorem dJ7_fill_12 : Dil mJ7_fill 12 1 13 := Or.inl ⟨1, by decide +kernel, rfl, rfl⟩
theorem dJ7_fill_13 : Dc mJ7_fill 13 .iastore 1 14 := ⟨by decide +kernel, rfl⟩
theorem dJ7_fill_14 : Dc mJ7_fill 14 (.iinc 2 1) 3 17 := ⟨by decide +kernel, rfl⟩
theorem dJ7_fill_17 : Dgo mJ7_fill 17 5 := ⟨(-12), by decide +kernel, by decide⟩
theorem dJ7_fill_20 : mR mJ7_fill = none ∧ decode (mB mJ7_fill) 20 = .ok (.return_, 1) := ⟨rfl, by decide +kernel⟩
end
section
/-! ===== decode rows of L ===== -/
theorem dL_law_0 : Dnew mL_law 0 5 4 [vN, vN, vN, vN] 3 := ⟨7, RX5, TX5, tyX5, by decide +kernel, rfl, inGX5, tyX5_ok, tG_of (List.mem_of_getElem? (i := 79) (by decide +kernel)) (by decide +kernel), tG_of (List.mem_of_getElem? (i := 80) (by decide +kernel)) (by decide +kernel), tG_of (List.mem_of_getElem? (i := 64) (by decide +kernel)) (by decide +kernel), nw_X5.1, nw_X5.2, rfl⟩
theorem dL_law_3 : Dc mL_law 3 .dup 1 4 := ⟨by decide +kernel, rfl⟩
theorem dL_law_4 : Dii mL_law 4 m5_init 7 := ⟨9, by decide +kernel, ok_5_init, (Or.inl l_L_9), by decide +kernel, by decide, rfl, i_5_init, rfl, rfl⟩
theorem dL_law_7 : Das mL_law 7 1 8 := Or.inl ⟨1, by decide +kernel, rfl, rfl⟩
theorem dL_law_8 : Dnew mL_law 8 6 27 [vN, vI 0, vN, vI 0, vN, vI 0, vI 0, vI 0, vN, vN, vI 0, vN, vI 0, vI 0, vI 0, vI 0, vN, vN, vN, vN, vN, vN, vI 0, vN, vN, vN, vL 0] 11 := ⟨10, RX6, TX6, tyX6, by decide +kernel, rfl, inGX6, tyX6_ok, tG_of (List.mem_of_getElem? (i := 712) (by decide +kernel)) (by decide +kernel), tG_of (List.mem_of_getElem? (i := 713) (by decide +kernel)) (by decide +kernel), tG_of (List.mem_of_getElem? (i := 71) (by decide +kernel)) (by decide +kernel), nw_X6.1, nw_X6.2, rfl⟩
theorem dL_law_11 : Dc mL_law 11 .dup 1 12 := ⟨by decide +kernel, rfl⟩
theorem dL_law_12 : Dii mL_law 12 m6_init 15 := ⟨12, by decide +kernel, ok_6_init, (Or.inl l_L_12), by decide +kernel, by decide, rfl, i_6_init, rfl, rfl⟩
theorem dL_law_15 : Das mL_law 15 2 16 := Or.inl ⟨2, by decide +kernel, rfl, rfl⟩
theorem dL_law_16 : Dc mL_law 16 (.iconst 0) 1 17 := ⟨by decide +kernel, rfl⟩
theorem dL_law_17 : Dis mL_law 17 3 18 := Or.inl ⟨3, by decide +kernel, rfl, rfl⟩
theorem dL_law_18 : Dil mL_law 18 3 19 := Or.inl ⟨3, by decide +kernel, rfl, rfl⟩
theorem dL_law_19 : Dal mL_law 19 0 20 := Or.inl ⟨0, by decide +kernel, rfl, rfl⟩
theorem dL_law_20 : Dc mL_law 20 .arraylength 1 21 := ⟨by decide +kernel, rfl⟩
theorem dL_law_21 : Dc mL_law 21 (.iconst 4) 1 22 := ⟨by decide +kernel, rfl⟩
theorem dL_law_22 : Dc mL_law 22 .isub 1 23 := ⟨by decide +kernel, rfl⟩
theorem dL_law_23 : Dic mL_law 23 .gt 645 26 := ⟨(622), by decide +kernel, by decide, rfl⟩
theorem dL_law_26 : Dal mL_law 26 0 27 := Or.inl ⟨0, by decide +kernel, rfl, rfl⟩
theorem dL_law_27 : Dil mL_law 27 3 28 := Or.inl ⟨3, by decide +kernel, rfl, rfl⟩
theorem dL_law_28 : Dc mL_law 28 .iaload 1 29 := ⟨by decide +kernel, rfl⟩
theorem dL_law_29 : Dc mL_law 29 (.bipush 31) 2 31 := ⟨by decide +kernel, rfl⟩
theorem dL_law_31 : Dc mL_law 31 .iand 1 32 := ⟨by decide +kernel, rfl⟩
theorem dL_law_32 : Dts mL_law 32 0 [136, 159, 172, 185, 198, 211, 224, 247, 260, 283, 296, 319, 342, 365, 414, 447, 490, 513, 536, 569, 602, 625] 639 := ⟨607, 21, #[104, 127, 140, 153, 166, 179, 192, 215, 228, 251, 264, 287, 310, 333, 382, 415, 458, 481, 504, 537, 570, 593], 104, by decide +kernel, by decide, by decide, rfl, by decide⟩
theorem dL_law_136 : Dal mL_law 136 1 137 := Or.inl ⟨1, by decide +kernel, rfl, rfl⟩
theorem dL_law_137 : Dal mL_law 137 0 138 := Or.inl ⟨0, by decide +kernel, rfl, rfl⟩
theorem dL_law_138 : Dil mL_law 138 3 139 := Or.inl ⟨3, by decide +kernel, rfl, rfl⟩
theorem dL_law_139 : Dc mL_law 139 (.iconst 1) 1 140 := ⟨by decide +kernel, rfl⟩
theorem dL_law_140 : Dc mL_law 140 .iadd 1 141 := ⟨by decide +kernel, rfl⟩
theorem dL_law_141 : Dc mL_law 141 .iaload 1 142 := ⟨by decide +kernel, rfl⟩
theorem dL_law_142 : Div mL_law 142 m5_type 1 145 := ⟨13, by decide +kernel, lk_L_13, v_5_type, rfl⟩
theorem dL_law_145 : Dal mL_law 145 2 146 := Or.inl ⟨2, by decide +kernel, rfl, rfl⟩
theorem dL_law_146 : Dal mL_law 146 0 147 := Or.inl ⟨0, by decide +kernel, rfl, rfl⟩
theorem dL_law_147 : Dil mL_law 147 3 148 := Or.inl ⟨3, by decide +kernel, rfl, rfl⟩
theorem dL_law_148 : Dc mL_law 148 (.iconst 1) 1 149 := ⟨by decide +kernel, rfl⟩
theorem dL_law_149 : Dc mL_law 149 .iadd 1 150 := ⟨by decide +kernel, rfl⟩
theorem dL_law_150 : Dc mL_law 150 .iaload 1 151 := ⟨by decide +kernel, rfl⟩
theorem dL_law_151 : Div mL_law 151 m6_type 1 154 := ⟨17, by decide +kernel, lk_L_17, v_6_type, rfl⟩
theorem dL_law_154 : Dic mL_law 154 .eq 639 157 := ⟨(485), by decide +kernel, by decide, rfl⟩
theorem dL_law_157 : Dc mL_law 157 (.iconst 0) 1 158 := ⟨by decide +kernel, rfl⟩
theorem dL_law_158 : mR mL_law = some .boolean ∧ decode (mB mL_law) 158 = .ok (.ireturn, 1) := ⟨rfl, by decide +kernel⟩
theorem dL_law_159 : Dal mL_law 159 1 160 := Or.inl ⟨1, by decide +kernel, rfl, rfl⟩
theorem dL_law_160 : Div mL_law 160 m5_clearText 0 163 := ⟨18, by decide +kernel, lk_L_18, v_5_clearText, rfl⟩
theorem dL_law_163 : Dal mL_law 163 2 164 := Or.inl ⟨2, by decide +kernel, rfl, rfl⟩
theorem dL_law_164 : Div mL_law 164 m6_clearText 0 167 := ⟨22, by decide +kernel, lk_L_22, v_6_clearText, rfl⟩
theorem dL_law_167 : Dic mL_law 167 .eq 639 170 := ⟨(472), by decide +kernel, by decide, rfl⟩
theorem dL_law_170 : Dc mL_law 170 (.iconst 0) 1 171 := ⟨by decide +kernel, rfl⟩
theorem dL_law_171 : mR mL_law = some .boolean ∧ decode (mB mL_law) 171 = .ok (.ireturn, 1) := ⟨rfl, by decide +kernel⟩
theorem dL_law_172 : Dal mL_law 172 1 173 := Or.inl ⟨1, by decide +kernel, rfl, rfl⟩
theorem dL_law_173 : Div mL_law 173 m5_fault 0 176 := ⟨23, by decide +kernel, lk_L_23, v_5_fault, rfl⟩
theorem dL_law_176 : Dal mL_law 176 2 177 := Or.inl ⟨2, by decide +kernel, rfl, rfl⟩
theorem dL_law_177 : Div mL_law 177 m6_fault 0 180 := ⟨26, by decide +kernel, lk_L_26, v_6_fault, rfl⟩
theorem dL_law_180 : Dic mL_law 180 .eq 639 183 := ⟨(459), by decide +kernel, by decide, rfl⟩
theorem dL_law_183 : Dc mL_law 183 (.iconst 0) 1 184 := ⟨by decide +kernel, rfl⟩
theorem dL_law_184 : mR mL_law = some .boolean ∧ decode (mB mL_law) 184 = .ok (.ireturn, 1) := ⟨rfl, by decide +kernel⟩
theorem dL_law_185 : Dal mL_law 185 1 186 := Or.inl ⟨1, by decide +kernel, rfl, rfl⟩
theorem dL_law_186 : Div mL_law 186 m5_read 0 189 := ⟨27, by decide +kernel, lk_L_27, v_5_read, rfl⟩
theorem dL_law_189 : Dal mL_law 189 2 190 := Or.inl ⟨2, by decide +kernel, rfl, rfl⟩
theorem dL_law_190 : Div mL_law 190 m6_read 0 193 := ⟨30, by decide +kernel, lk_L_30, v_6_read, rfl⟩
theorem dL_law_193 : Dic mL_law 193 .eq 639 196 := ⟨(446), by decide +kernel, by decide, rfl⟩
theorem dL_law_196 : Dc mL_law 196 (.iconst 0) 1 197 := ⟨by decide +kernel, rfl⟩
theorem dL_law_197 : mR mL_law = some .boolean ∧ decode (mB mL_law) 197 = .ok (.ireturn, 1) := ⟨rfl, by decide +kernel⟩
theorem dL_law_198 : Dal mL_law 198 1 199 := Or.inl ⟨1, by decide +kernel, rfl, rfl⟩
theorem dL_law_199 : Div mL_law 199 m5_begin 0 202 := ⟨31, by decide +kernel, lk_L_31, v_5_begin, rfl⟩
theorem dL_law_202 : Dal mL_law 202 2 203 := Or.inl ⟨2, by decide +kernel, rfl, rfl⟩
theorem dL_law_203 : Div mL_law 203 m6_begin 0 206 := ⟨34, by decide +kernel, lk_L_34, v_6_begin, rfl⟩
theorem dL_law_206 : Dic mL_law 206 .eq 639 209 := ⟨(433), by decide +kernel, by decide, rfl⟩
theorem dL_law_209 : Dc mL_law 209 (.iconst 0) 1 210 := ⟨by decide +kernel, rfl⟩
theorem dL_law_210 : mR mL_law = some .boolean ∧ decode (mB mL_law) 210 = .ok (.ireturn, 1) := ⟨rfl, by decide +kernel⟩
theorem dL_law_211 : Dal mL_law 211 1 212 := Or.inl ⟨1, by decide +kernel, rfl, rfl⟩
theorem dL_law_212 : Div mL_law 212 m5_go 0 215 := ⟨35, by decide +kernel, lk_L_35, v_5_go, rfl⟩
theorem dL_law_215 : Dal mL_law 215 2 216 := Or.inl ⟨2, by decide +kernel, rfl, rfl⟩
theorem dL_law_216 : Div mL_law 216 m6_go 0 219 := ⟨38, by decide +kernel, lk_L_38, v_6_go, rfl⟩
theorem dL_law_219 : Dic mL_law 219 .eq 639 222 := ⟨(420), by decide +kernel, by decide, rfl⟩
theorem dL_law_222 : Dc mL_law 222 (.iconst 0) 1 223 := ⟨by decide +kernel, rfl⟩
theorem dL_law_223 : mR mL_law = some .boolean ∧ decode (mB mL_law) 223 = .ok (.ireturn, 1) := ⟨rfl, by decide +kernel⟩
theorem dL_law_224 : Dal mL_law 224 1 225 := Or.inl ⟨1, by decide +kernel, rfl, rfl⟩
theorem dL_law_225 : Dal mL_law 225 0 226 := Or.inl ⟨0, by decide +kernel, rfl, rfl⟩
theorem dL_law_226 : Dil mL_law 226 3 227 := Or.inl ⟨3, by decide +kernel, rfl, rfl⟩
theorem dL_law_227 : Dc mL_law 227 (.iconst 1) 1 228 := ⟨by decide +kernel, rfl⟩
theorem dL_law_228 : Dc mL_law 228 .iadd 1 229 := ⟨by decide +kernel, rfl⟩
theorem dL_law_229 : Dc mL_law 229 .iaload 1 230 := ⟨by decide +kernel, rfl⟩
theorem dL_law_230 : Div mL_law 230 m5_choose 1 233 := ⟨39, by decide +kernel, lk_L_39, v_5_choose, rfl⟩
theorem dL_law_233 : Dal mL_law 233 2 234 := Or.inl ⟨2, by decide +kernel, rfl, rfl⟩
theorem dL_law_234 : Dal mL_law 234 0 235 := Or.inl ⟨0, by decide +kernel, rfl, rfl⟩
theorem dL_law_235 : Dil mL_law 235 3 236 := Or.inl ⟨3, by decide +kernel, rfl, rfl⟩
theorem dL_law_236 : Dc mL_law 236 (.iconst 1) 1 237 := ⟨by decide +kernel, rfl⟩
theorem dL_law_237 : Dc mL_law 237 .iadd 1 238 := ⟨by decide +kernel, rfl⟩
theorem dL_law_238 : Dc mL_law 238 .iaload 1 239 := ⟨by decide +kernel, rfl⟩
theorem dL_law_239 : Div mL_law 239 m6_choose 1 242 := ⟨42, by decide +kernel, lk_L_42, v_6_choose, rfl⟩
theorem dL_law_242 : Dic mL_law 242 .eq 639 245 := ⟨(397), by decide +kernel, by decide, rfl⟩
theorem dL_law_245 : Dc mL_law 245 (.iconst 0) 1 246 := ⟨by decide +kernel, rfl⟩
theorem dL_law_246 : mR mL_law = some .boolean ∧ decode (mB mL_law) 246 = .ok (.ireturn, 1) := ⟨rfl, by decide +kernel⟩
theorem dL_law_247 : Dal mL_law 247 1 248 := Or.inl ⟨1, by decide +kernel, rfl, rfl⟩
theorem dL_law_248 : Div mL_law 248 m5_skip 0 251 := ⟨43, by decide +kernel, lk_L_43, v_5_skip, rfl⟩
theorem dL_law_251 : Dal mL_law 251 2 252 := Or.inl ⟨2, by decide +kernel, rfl, rfl⟩
theorem dL_law_252 : Div mL_law 252 m6_skip 0 255 := ⟨46, by decide +kernel, lk_L_46, v_6_skip, rfl⟩
theorem dL_law_255 : Dic mL_law 255 .eq 639 258 := ⟨(384), by decide +kernel, by decide, rfl⟩
theorem dL_law_258 : Dc mL_law 258 (.iconst 0) 1 259 := ⟨by decide +kernel, rfl⟩
theorem dL_law_259 : mR mL_law = some .boolean ∧ decode (mB mL_law) 259 = .ok (.ireturn, 1) := ⟨rfl, by decide +kernel⟩
theorem dL_law_260 : Dal mL_law 260 1 261 := Or.inl ⟨1, by decide +kernel, rfl, rfl⟩
theorem dL_law_261 : Dal mL_law 261 0 262 := Or.inl ⟨0, by decide +kernel, rfl, rfl⟩
theorem dL_law_262 : Dil mL_law 262 3 263 := Or.inl ⟨3, by decide +kernel, rfl, rfl⟩
theorem dL_law_263 : Dc mL_law 263 (.iconst 1) 1 264 := ⟨by decide +kernel, rfl⟩
theorem dL_law_264 : Dc mL_law 264 .iadd 1 265 := ⟨by decide +kernel, rfl⟩
theorem dL_law_265 : Dc mL_law 265 .iaload 1 266 := ⟨by decide +kernel, rfl⟩
theorem dL_law_266 : Div mL_law 266 m5_back 1 269 := ⟨47, by decide +kernel, lk_L_47, v_5_back, rfl⟩
theorem dL_law_269 : Dal mL_law 269 2 270 := Or.inl ⟨2, by decide +kernel, rfl, rfl⟩
theorem dL_law_270 : Dal mL_law 270 0 271 := Or.inl ⟨0, by decide +kernel, rfl, rfl⟩
theorem dL_law_271 : Dil mL_law 271 3 272 := Or.inl ⟨3, by decide +kernel, rfl, rfl⟩
theorem dL_law_272 : Dc mL_law 272 (.iconst 1) 1 273 := ⟨by decide +kernel, rfl⟩
theorem dL_law_273 : Dc mL_law 273 .iadd 1 274 := ⟨by decide +kernel, rfl⟩
theorem dL_law_274 : Dc mL_law 274 .iaload 1 275 := ⟨by decide +kernel, rfl⟩
theorem dL_law_275 : Div mL_law 275 m6_back 1 278 := ⟨50, by decide +kernel, lk_L_50, v_6_back, rfl⟩
theorem dL_law_278 : Dic mL_law 278 .eq 639 281 := ⟨(361), by decide +kernel, by decide, rfl⟩
theorem dL_law_281 : Dc mL_law 281 (.iconst 0) 1 282 := ⟨by decide +kernel, rfl⟩
theorem dL_law_282 : mR mL_law = some .boolean ∧ decode (mB mL_law) 282 = .ok (.ireturn, 1) := ⟨rfl, by decide +kernel⟩
theorem dL_law_283 : Dal mL_law 283 1 284 := Or.inl ⟨1, by decide +kernel, rfl, rfl⟩
theorem dL_law_284 : Div mL_law 284 m5_again 0 287 := ⟨51, by decide +kernel, lk_L_51, v_5_again, rfl⟩
theorem dL_law_287 : Dal mL_law 287 2 288 := Or.inl ⟨2, by decide +kernel, rfl, rfl⟩
theorem dL_law_288 : Div mL_law 288 m6_again 0 291 := ⟨54, by decide +kernel, lk_L_54, v_6_again, rfl⟩
theorem dL_law_291 : Dic mL_law 291 .eq 639 294 := ⟨(348), by decide +kernel, by decide, rfl⟩
theorem dL_law_294 : Dc mL_law 294 (.iconst 0) 1 295 := ⟨by decide +kernel, rfl⟩
theorem dL_law_295 : mR mL_law = some .boolean ∧ decode (mB mL_law) 295 = .ok (.ireturn, 1) := ⟨rfl, by decide +kernel⟩
theorem dL_law_296 : Dal mL_law 296 1 297 := Or.inl ⟨1, by decide +kernel, rfl, rfl⟩
theorem dL_law_297 : Dal mL_law 297 0 298 := Or.inl ⟨0, by decide +kernel, rfl, rfl⟩
theorem dL_law_298 : Dil mL_law 298 3 299 := Or.inl ⟨3, by decide +kernel, rfl, rfl⟩
theorem dL_law_299 : Dc mL_law 299 (.iconst 1) 1 300 := ⟨by decide +kernel, rfl⟩
theorem dL_law_300 : Dc mL_law 300 .iadd 1 301 := ⟨by decide +kernel, rfl⟩
theorem dL_law_301 : Dc mL_law 301 .iaload 1 302 := ⟨by decide +kernel, rfl⟩
theorem dL_law_302 : Div mL_law 302 m5_save 1 305 := ⟨55, by decide +kernel, lk_L_55, v_5_save, rfl⟩
theorem dL_law_305 : Dal mL_law 305 2 306 := Or.inl ⟨2, by decide +kernel, rfl, rfl⟩
theorem dL_law_306 : Dal mL_law 306 0 307 := Or.inl ⟨0, by decide +kernel, rfl, rfl⟩
theorem dL_law_307 : Dil mL_law 307 3 308 := Or.inl ⟨3, by decide +kernel, rfl, rfl⟩
theorem dL_law_308 : Dc mL_law 308 (.iconst 1) 1 309 := ⟨by decide +kernel, rfl⟩
theorem dL_law_309 : Dc mL_law 309 .iadd 1 310 := ⟨by decide +kernel, rfl⟩
theorem dL_law_310 : Dc mL_law 310 .iaload 1 311 := ⟨by decide +kernel, rfl⟩
theorem dL_law_311 : Div mL_law 311 m6_save 1 314 := ⟨58, by decide +kernel, lk_L_58, v_6_save, rfl⟩
theorem dL_law_314 : Dic mL_law 314 .eq 639 317 := ⟨(325), by decide +kernel, by decide, rfl⟩
theorem dL_law_317 : Dc mL_law 317 (.iconst 0) 1 318 := ⟨by decide +kernel, rfl⟩
theorem dL_law_318 : mR mL_law = some .boolean ∧ decode (mB mL_law) 318 = .ok (.ireturn, 1) := ⟨rfl, by decide +kernel⟩
theorem dL_law_319 : Dal mL_law 319 1 320 := Or.inl ⟨1, by decide +kernel, rfl, rfl⟩
theorem dL_law_320 : Dal mL_law 320 0 321 := Or.inl ⟨0, by decide +kernel, rfl, rfl⟩
theorem dL_law_321 : Dil mL_law 321 3 322 := Or.inl ⟨3, by decide +kernel, rfl, rfl⟩
theorem dL_law_322 : Dc mL_law 322 (.iconst 1) 1 323 := ⟨by decide +kernel, rfl⟩
theorem dL_law_323 : Dc mL_law 323 .iadd 1 324 := ⟨by decide +kernel, rfl⟩
theorem dL_law_324 : Dc mL_law 324 .iaload 1 325 := ⟨by decide +kernel, rfl⟩
theorem dL_law_325 : Div mL_law 325 m5_restore 1 328 := ⟨59, by decide +kernel, lk_L_59, v_5_restore, rfl⟩
theorem dL_law_328 : Dal mL_law 328 2 329 := Or.inl ⟨2, by decide +kernel, rfl, rfl⟩
theorem dL_law_329 : Dal mL_law 329 0 330 := Or.inl ⟨0, by decide +kernel, rfl, rfl⟩
theorem dL_law_330 : Dil mL_law 330 3 331 := Or.inl ⟨3, by decide +kernel, rfl, rfl⟩
theorem dL_law_331 : Dc mL_law 331 (.iconst 1) 1 332 := ⟨by decide +kernel, rfl⟩
theorem dL_law_332 : Dc mL_law 332 .iadd 1 333 := ⟨by decide +kernel, rfl⟩
theorem dL_law_333 : Dc mL_law 333 .iaload 1 334 := ⟨by decide +kernel, rfl⟩
theorem dL_law_334 : Div mL_law 334 m6_restore 1 337 := ⟨62, by decide +kernel, lk_L_62, v_6_restore, rfl⟩
theorem dL_law_337 : Dic mL_law 337 .eq 639 340 := ⟨(302), by decide +kernel, by decide, rfl⟩
theorem dL_law_340 : Dc mL_law 340 (.iconst 0) 1 341 := ⟨by decide +kernel, rfl⟩
theorem dL_law_341 : mR mL_law = some .boolean ∧ decode (mB mL_law) 341 = .ok (.ireturn, 1) := ⟨rfl, by decide +kernel⟩
theorem dL_law_342 : Dal mL_law 342 1 343 := Or.inl ⟨1, by decide +kernel, rfl, rfl⟩
theorem dL_law_343 : Dal mL_law 343 0 344 := Or.inl ⟨0, by decide +kernel, rfl, rfl⟩
theorem dL_law_344 : Dil mL_law 344 3 345 := Or.inl ⟨3, by decide +kernel, rfl, rfl⟩
theorem dL_law_345 : Dc mL_law 345 (.iconst 1) 1 346 := ⟨by decide +kernel, rfl⟩
theorem dL_law_346 : Dc mL_law 346 .iadd 1 347 := ⟨by decide +kernel, rfl⟩
theorem dL_law_347 : Dc mL_law 347 .iaload 1 348 := ⟨by decide +kernel, rfl⟩
theorem dL_law_348 : Div mL_law 348 m5_shown 1 351 := ⟨63, by decide +kernel, lk_L_63, v_5_shown, rfl⟩
theorem dL_law_351 : Dal mL_law 351 2 352 := Or.inl ⟨2, by decide +kernel, rfl, rfl⟩
theorem dL_law_352 : Dal mL_law 352 0 353 := Or.inl ⟨0, by decide +kernel, rfl, rfl⟩
theorem dL_law_353 : Dil mL_law 353 3 354 := Or.inl ⟨3, by decide +kernel, rfl, rfl⟩
theorem dL_law_354 : Dc mL_law 354 (.iconst 1) 1 355 := ⟨by decide +kernel, rfl⟩
theorem dL_law_355 : Dc mL_law 355 .iadd 1 356 := ⟨by decide +kernel, rfl⟩
theorem dL_law_356 : Dc mL_law 356 .iaload 1 357 := ⟨by decide +kernel, rfl⟩
theorem dL_law_357 : Div mL_law 357 m6_shown 1 360 := ⟨66, by decide +kernel, lk_L_66, v_6_shown, rfl⟩
theorem dL_law_360 : Dic mL_law 360 .eq 639 363 := ⟨(279), by decide +kernel, by decide, rfl⟩
theorem dL_law_363 : Dc mL_law 363 (.iconst 0) 1 364 := ⟨by decide +kernel, rfl⟩
theorem dL_law_364 : mR mL_law = some .boolean ∧ decode (mB mL_law) 364 = .ok (.ireturn, 1) := ⟨rfl, by decide +kernel⟩
theorem dL_law_365 : Dal mL_law 365 1 366 := Or.inl ⟨1, by decide +kernel, rfl, rfl⟩
theorem dL_law_366 : Dal mL_law 366 0 367 := Or.inl ⟨0, by decide +kernel, rfl, rfl⟩
theorem dL_law_367 : Dil mL_law 367 3 368 := Or.inl ⟨3, by decide +kernel, rfl, rfl⟩
theorem dL_law_368 : Dc mL_law 368 (.iconst 1) 1 369 := ⟨by decide +kernel, rfl⟩
theorem dL_law_369 : Dc mL_law 369 .iadd 1 370 := ⟨by decide +kernel, rfl⟩
theorem dL_law_370 : Dc mL_law 370 .iaload 1 371 := ⟨by decide +kernel, rfl⟩
theorem dL_law_371 : Dal mL_law 371 0 372 := Or.inl ⟨0, by decide +kernel, rfl, rfl⟩
theorem dL_law_372 : Dil mL_law 372 3 373 := Or.inl ⟨3, by decide +kernel, rfl, rfl⟩
theorem dL_law_373 : Dc mL_law 373 (.iconst 2) 1 374 := ⟨by decide +kernel, rfl⟩
theorem dL_law_374 : Dc mL_law 374 .iadd 1 375 := ⟨by decide +kernel, rfl⟩
theorem dL_law_375 : Dc mL_law 375 .iaload 1 376 := ⟨by decide +kernel, rfl⟩
theorem dL_law_376 : Dif mL_law 376 .eq 383 379 := ⟨(7), by decide +kernel, by decide, rfl⟩
theorem dL_law_379 : Dc mL_law 379 (.iconst 1) 1 380 := ⟨by decide +kernel, rfl⟩
theorem dL_law_380 : Dgo mL_law 380 384 := ⟨4, by decide +kernel, by decide⟩
theorem dL_law_383 : Dc mL_law 383 (.iconst 0) 1 384 := ⟨by decide +kernel, rfl⟩
theorem dL_law_384 : Div mL_law 384 m5_portrait 2 387 := ⟨67, by decide +kernel, lk_L_67, v_5_portrait, rfl⟩
theorem dL_law_387 : Dal mL_law 387 2 388 := Or.inl ⟨2, by decide +kernel, rfl, rfl⟩
theorem dL_law_388 : Dal mL_law 388 0 389 := Or.inl ⟨0, by decide +kernel, rfl, rfl⟩
theorem dL_law_389 : Dil mL_law 389 3 390 := Or.inl ⟨3, by decide +kernel, rfl, rfl⟩
theorem dL_law_390 : Dc mL_law 390 (.iconst 1) 1 391 := ⟨by decide +kernel, rfl⟩
theorem dL_law_391 : Dc mL_law 391 .iadd 1 392 := ⟨by decide +kernel, rfl⟩
theorem dL_law_392 : Dc mL_law 392 .iaload 1 393 := ⟨by decide +kernel, rfl⟩
theorem dL_law_393 : Dal mL_law 393 0 394 := Or.inl ⟨0, by decide +kernel, rfl, rfl⟩
theorem dL_law_394 : Dil mL_law 394 3 395 := Or.inl ⟨3, by decide +kernel, rfl, rfl⟩
theorem dL_law_395 : Dc mL_law 395 (.iconst 2) 1 396 := ⟨by decide +kernel, rfl⟩
theorem dL_law_396 : Dc mL_law 396 .iadd 1 397 := ⟨by decide +kernel, rfl⟩
theorem dL_law_397 : Dc mL_law 397 .iaload 1 398 := ⟨by decide +kernel, rfl⟩
theorem dL_law_398 : Dif mL_law 398 .eq 405 401 := ⟨(7), by decide +kernel, by decide, rfl⟩
theorem dL_law_401 : Dc mL_law 401 (.iconst 1) 1 402 := ⟨by decide +kernel, rfl⟩
theorem dL_law_402 : Dgo mL_law 402 406 := ⟨4, by decide +kernel, by decide⟩
theorem dL_law_405 : Dc mL_law 405 (.iconst 0) 1 406 := ⟨by decide +kernel, rfl⟩
theorem dL_law_406 : Div mL_law 406 m6_portrait 2 409 := ⟨71, by decide +kernel, lk_L_71, v_6_portrait, rfl⟩
theorem dL_law_409 : Dic mL_law 409 .eq 639 412 := ⟨(230), by decide +kernel, by decide, rfl⟩
theorem dL_law_412 : Dc mL_law 412 (.iconst 0) 1 413 := ⟨by decide +kernel, rfl⟩
theorem dL_law_413 : mR mL_law = some .boolean ∧ decode (mB mL_law) 413 = .ok (.ireturn, 1) := ⟨rfl, by decide +kernel⟩
theorem dL_law_414 : Dal mL_law 414 1 415 := Or.inl ⟨1, by decide +kernel, rfl, rfl⟩
theorem dL_law_415 : Dal mL_law 415 0 416 := Or.inl ⟨0, by decide +kernel, rfl, rfl⟩
theorem dL_law_416 : Dil mL_law 416 3 417 := Or.inl ⟨3, by decide +kernel, rfl, rfl⟩
theorem dL_law_417 : Dc mL_law 417 (.iconst 1) 1 418 := ⟨by decide +kernel, rfl⟩
theorem dL_law_418 : Dc mL_law 418 .iadd 1 419 := ⟨by decide +kernel, rfl⟩
theorem dL_law_419 : Dc mL_law 419 .iaload 1 420 := ⟨by decide +kernel, rfl⟩
theorem dL_law_420 : Dal mL_law 420 0 421 := Or.inl ⟨0, by decide +kernel, rfl, rfl⟩
theorem dL_law_421 : Dil mL_law 421 3 422 := Or.inl ⟨3, by decide +kernel, rfl, rfl⟩
theorem dL_law_422 : Dc mL_law 422 (.iconst 2) 1 423 := ⟨by decide +kernel, rfl⟩
theorem dL_law_423 : Dc mL_law 423 .iadd 1 424 := ⟨by decide +kernel, rfl⟩
theorem dL_law_424 : Dc mL_law 424 .iaload 1 425 := ⟨by decide +kernel, rfl⟩
theorem dL_law_425 : Div mL_law 425 m5_node 2 428 := ⟨72, by decide +kernel, lk_L_72, v_5_node, rfl⟩
theorem dL_law_428 : Dal mL_law 428 2 429 := Or.inl ⟨2, by decide +kernel, rfl, rfl⟩
theorem dL_law_429 : Dal mL_law 429 0 430 := Or.inl ⟨0, by decide +kernel, rfl, rfl⟩
theorem dL_law_430 : Dil mL_law 430 3 431 := Or.inl ⟨3, by decide +kernel, rfl, rfl⟩
theorem dL_law_431 : Dc mL_law 431 (.iconst 1) 1 432 := ⟨by decide +kernel, rfl⟩
theorem dL_law_432 : Dc mL_law 432 .iadd 1 433 := ⟨by decide +kernel, rfl⟩
theorem dL_law_433 : Dc mL_law 433 .iaload 1 434 := ⟨by decide +kernel, rfl⟩
theorem dL_law_434 : Dal mL_law 434 0 435 := Or.inl ⟨0, by decide +kernel, rfl, rfl⟩
theorem dL_law_435 : Dil mL_law 435 3 436 := Or.inl ⟨3, by decide +kernel, rfl, rfl⟩
theorem dL_law_436 : Dc mL_law 436 (.iconst 2) 1 437 := ⟨by decide +kernel, rfl⟩
theorem dL_law_437 : Dc mL_law 437 .iadd 1 438 := ⟨by decide +kernel, rfl⟩
theorem dL_law_438 : Dc mL_law 438 .iaload 1 439 := ⟨by decide +kernel, rfl⟩
theorem dL_law_439 : Div mL_law 439 m6_node 2 442 := ⟨76, by decide +kernel, lk_L_76, v_6_node, rfl⟩
theorem dL_law_442 : Dic mL_law 442 .eq 639 445 := ⟨(197), by decide +kernel, by decide, rfl⟩
theorem dL_law_445 : Dc mL_law 445 (.iconst 0) 1 446 := ⟨by decide +kernel, rfl⟩
theorem dL_law_446 : mR mL_law = some .boolean ∧ decode (mB mL_law) 446 = .ok (.ireturn, 1) := ⟨rfl, by decide +kernel⟩
theorem dL_law_447 : Dal mL_law 447 1 448 := Or.inl ⟨1, by decide +kernel, rfl, rfl⟩
theorem dL_law_448 : Dal mL_law 448 0 449 := Or.inl ⟨0, by decide +kernel, rfl, rfl⟩
theorem dL_law_449 : Dil mL_law 449 3 450 := Or.inl ⟨3, by decide +kernel, rfl, rfl⟩
theorem dL_law_450 : Dc mL_law 450 (.iconst 1) 1 451 := ⟨by decide +kernel, rfl⟩
theorem dL_law_451 : Dc mL_law 451 .iadd 1 452 := ⟨by decide +kernel, rfl⟩
theorem dL_law_452 : Dc mL_law 452 .iaload 1 453 := ⟨by decide +kernel, rfl⟩
theorem dL_law_453 : Dal mL_law 453 0 454 := Or.inl ⟨0, by decide +kernel, rfl, rfl⟩
theorem dL_law_454 : Dil mL_law 454 3 455 := Or.inl ⟨3, by decide +kernel, rfl, rfl⟩
theorem dL_law_455 : Dc mL_law 455 (.iconst 2) 1 456 := ⟨by decide +kernel, rfl⟩
theorem dL_law_456 : Dc mL_law 456 .iadd 1 457 := ⟨by decide +kernel, rfl⟩
theorem dL_law_457 : Dc mL_law 457 .iaload 1 458 := ⟨by decide +kernel, rfl⟩
theorem dL_law_458 : Dal mL_law 458 0 459 := Or.inl ⟨0, by decide +kernel, rfl, rfl⟩
theorem dL_law_459 : Dil mL_law 459 3 460 := Or.inl ⟨3, by decide +kernel, rfl, rfl⟩
theorem dL_law_460 : Dc mL_law 460 (.iconst 3) 1 461 := ⟨by decide +kernel, rfl⟩
theorem dL_law_461 : Dc mL_law 461 .iadd 1 462 := ⟨by decide +kernel, rfl⟩
theorem dL_law_462 : Dc mL_law 462 .iaload 1 463 := ⟨by decide +kernel, rfl⟩
theorem dL_law_463 : Div mL_law 463 m5_option 3 466 := ⟨77, by decide +kernel, lk_L_77, v_5_option, rfl⟩
theorem dL_law_466 : Dal mL_law 466 2 467 := Or.inl ⟨2, by decide +kernel, rfl, rfl⟩
theorem dL_law_467 : Dal mL_law 467 0 468 := Or.inl ⟨0, by decide +kernel, rfl, rfl⟩
theorem dL_law_468 : Dil mL_law 468 3 469 := Or.inl ⟨3, by decide +kernel, rfl, rfl⟩
theorem dL_law_469 : Dc mL_law 469 (.iconst 1) 1 470 := ⟨by decide +kernel, rfl⟩
theorem dL_law_470 : Dc mL_law 470 .iadd 1 471 := ⟨by decide +kernel, rfl⟩
theorem dL_law_471 : Dc mL_law 471 .iaload 1 472 := ⟨by decide +kernel, rfl⟩
theorem dL_law_472 : Dal mL_law 472 0 473 := Or.inl ⟨0, by decide +kernel, rfl, rfl⟩
theorem dL_law_473 : Dil mL_law 473 3 474 := Or.inl ⟨3, by decide +kernel, rfl, rfl⟩
theorem dL_law_474 : Dc mL_law 474 (.iconst 2) 1 475 := ⟨by decide +kernel, rfl⟩
theorem dL_law_475 : Dc mL_law 475 .iadd 1 476 := ⟨by decide +kernel, rfl⟩
theorem dL_law_476 : Dc mL_law 476 .iaload 1 477 := ⟨by decide +kernel, rfl⟩
theorem dL_law_477 : Dal mL_law 477 0 478 := Or.inl ⟨0, by decide +kernel, rfl, rfl⟩
theorem dL_law_478 : Dil mL_law 478 3 479 := Or.inl ⟨3, by decide +kernel, rfl, rfl⟩
theorem dL_law_479 : Dc mL_law 479 (.iconst 3) 1 480 := ⟨by decide +kernel, rfl⟩
theorem dL_law_480 : Dc mL_law 480 .iadd 1 481 := ⟨by decide +kernel, rfl⟩
theorem dL_law_481 : Dc mL_law 481 .iaload 1 482 := ⟨by decide +kernel, rfl⟩
theorem dL_law_482 : Div mL_law 482 m6_option 3 485 := ⟨81, by decide +kernel, lk_L_81, v_6_option, rfl⟩
theorem dL_law_485 : Dic mL_law 485 .eq 639 488 := ⟨(154), by decide +kernel, by decide, rfl⟩
theorem dL_law_488 : Dc mL_law 488 (.iconst 0) 1 489 := ⟨by decide +kernel, rfl⟩
theorem dL_law_489 : mR mL_law = some .boolean ∧ decode (mB mL_law) 489 = .ok (.ireturn, 1) := ⟨rfl, by decide +kernel⟩
theorem dL_law_490 : Dal mL_law 490 1 491 := Or.inl ⟨1, by decide +kernel, rfl, rfl⟩
theorem dL_law_491 : Dal mL_law 491 0 492 := Or.inl ⟨0, by decide +kernel, rfl, rfl⟩
theorem dL_law_492 : Dil mL_law 492 3 493 := Or.inl ⟨3, by decide +kernel, rfl, rfl⟩
theorem dL_law_493 : Dc mL_law 493 (.iconst 1) 1 494 := ⟨by decide +kernel, rfl⟩
theorem dL_law_494 : Dc mL_law 494 .iadd 1 495 := ⟨by decide +kernel, rfl⟩
theorem dL_law_495 : Dc mL_law 495 .iaload 1 496 := ⟨by decide +kernel, rfl⟩
theorem dL_law_496 : Div mL_law 496 m5_situations 1 499 := ⟨82, by decide +kernel, lk_L_82, v_5_situations, rfl⟩
theorem dL_law_499 : Dal mL_law 499 2 500 := Or.inl ⟨2, by decide +kernel, rfl, rfl⟩
theorem dL_law_500 : Dal mL_law 500 0 501 := Or.inl ⟨0, by decide +kernel, rfl, rfl⟩
theorem dL_law_501 : Dil mL_law 501 3 502 := Or.inl ⟨3, by decide +kernel, rfl, rfl⟩
theorem dL_law_502 : Dc mL_law 502 (.iconst 1) 1 503 := ⟨by decide +kernel, rfl⟩
theorem dL_law_503 : Dc mL_law 503 .iadd 1 504 := ⟨by decide +kernel, rfl⟩
theorem dL_law_504 : Dc mL_law 504 .iaload 1 505 := ⟨by decide +kernel, rfl⟩
theorem dL_law_505 : Div mL_law 505 m6_situations 1 508 := ⟨85, by decide +kernel, lk_L_85, v_6_situations, rfl⟩
theorem dL_law_508 : Dic mL_law 508 .eq 639 511 := ⟨(131), by decide +kernel, by decide, rfl⟩
theorem dL_law_511 : Dc mL_law 511 (.iconst 0) 1 512 := ⟨by decide +kernel, rfl⟩
theorem dL_law_512 : mR mL_law = some .boolean ∧ decode (mB mL_law) 512 = .ok (.ireturn, 1) := ⟨rfl, by decide +kernel⟩
theorem dL_law_513 : Dal mL_law 513 1 514 := Or.inl ⟨1, by decide +kernel, rfl, rfl⟩
theorem dL_law_514 : Dal mL_law 514 0 515 := Or.inl ⟨0, by decide +kernel, rfl, rfl⟩
theorem dL_law_515 : Dil mL_law 515 3 516 := Or.inl ⟨3, by decide +kernel, rfl, rfl⟩
theorem dL_law_516 : Dc mL_law 516 (.iconst 1) 1 517 := ⟨by decide +kernel, rfl⟩
theorem dL_law_517 : Dc mL_law 517 .iadd 1 518 := ⟨by decide +kernel, rfl⟩
theorem dL_law_518 : Dc mL_law 518 .iaload 1 519 := ⟨by decide +kernel, rfl⟩
theorem dL_law_519 : Div mL_law 519 m5_choicesTo 1 522 := ⟨86, by decide +kernel, lk_L_86, v_5_choicesTo, rfl⟩
theorem dL_law_522 : Dal mL_law 522 2 523 := Or.inl ⟨2, by decide +kernel, rfl, rfl⟩
theorem dL_law_523 : Dal mL_law 523 0 524 := Or.inl ⟨0, by decide +kernel, rfl, rfl⟩
theorem dL_law_524 : Dil mL_law 524 3 525 := Or.inl ⟨3, by decide +kernel, rfl, rfl⟩
theorem dL_law_525 : Dc mL_law 525 (.iconst 1) 1 526 := ⟨by decide +kernel, rfl⟩
theorem dL_law_526 : Dc mL_law 526 .iadd 1 527 := ⟨by decide +kernel, rfl⟩
theorem dL_law_527 : Dc mL_law 527 .iaload 1 528 := ⟨by decide +kernel, rfl⟩
theorem dL_law_528 : Div mL_law 528 m6_choicesTo 1 531 := ⟨89, by decide +kernel, lk_L_89, v_6_choicesTo, rfl⟩
theorem dL_law_531 : Dic mL_law 531 .eq 639 534 := ⟨(108), by decide +kernel, by decide, rfl⟩
theorem dL_law_534 : Dc mL_law 534 (.iconst 0) 1 535 := ⟨by decide +kernel, rfl⟩
theorem dL_law_535 : mR mL_law = some .boolean ∧ decode (mB mL_law) 535 = .ok (.ireturn, 1) := ⟨rfl, by decide +kernel⟩
theorem dL_law_536 : Dal mL_law 536 1 537 := Or.inl ⟨1, by decide +kernel, rfl, rfl⟩
theorem dL_law_537 : Dal mL_law 537 0 538 := Or.inl ⟨0, by decide +kernel, rfl, rfl⟩
theorem dL_law_538 : Dil mL_law 538 3 539 := Or.inl ⟨3, by decide +kernel, rfl, rfl⟩
theorem dL_law_539 : Dc mL_law 539 (.iconst 1) 1 540 := ⟨by decide +kernel, rfl⟩
theorem dL_law_540 : Dc mL_law 540 .iadd 1 541 := ⟨by decide +kernel, rfl⟩
theorem dL_law_541 : Dc mL_law 541 .iaload 1 542 := ⟨by decide +kernel, rfl⟩
theorem dL_law_542 : Dal mL_law 542 0 543 := Or.inl ⟨0, by decide +kernel, rfl, rfl⟩
theorem dL_law_543 : Dil mL_law 543 3 544 := Or.inl ⟨3, by decide +kernel, rfl, rfl⟩
theorem dL_law_544 : Dc mL_law 544 (.iconst 2) 1 545 := ⟨by decide +kernel, rfl⟩
theorem dL_law_545 : Dc mL_law 545 .iadd 1 546 := ⟨by decide +kernel, rfl⟩
theorem dL_law_546 : Dc mL_law 546 .iaload 1 547 := ⟨by decide +kernel, rfl⟩
theorem dL_law_547 : Div mL_law 547 m5_wayTo 2 550 := ⟨90, by decide +kernel, lk_L_90, v_5_wayTo, rfl⟩
theorem dL_law_550 : Dal mL_law 550 2 551 := Or.inl ⟨2, by decide +kernel, rfl, rfl⟩
theorem dL_law_551 : Dal mL_law 551 0 552 := Or.inl ⟨0, by decide +kernel, rfl, rfl⟩
theorem dL_law_552 : Dil mL_law 552 3 553 := Or.inl ⟨3, by decide +kernel, rfl, rfl⟩
theorem dL_law_553 : Dc mL_law 553 (.iconst 1) 1 554 := ⟨by decide +kernel, rfl⟩
theorem dL_law_554 : Dc mL_law 554 .iadd 1 555 := ⟨by decide +kernel, rfl⟩
theorem dL_law_555 : Dc mL_law 555 .iaload 1 556 := ⟨by decide +kernel, rfl⟩
theorem dL_law_556 : Dal mL_law 556 0 557 := Or.inl ⟨0, by decide +kernel, rfl, rfl⟩
theorem dL_law_557 : Dil mL_law 557 3 558 := Or.inl ⟨3, by decide +kernel, rfl, rfl⟩
theorem dL_law_558 : Dc mL_law 558 (.iconst 2) 1 559 := ⟨by decide +kernel, rfl⟩
theorem dL_law_559 : Dc mL_law 559 .iadd 1 560 := ⟨by decide +kernel, rfl⟩
theorem dL_law_560 : Dc mL_law 560 .iaload 1 561 := ⟨by decide +kernel, rfl⟩
theorem dL_law_561 : Div mL_law 561 m6_wayTo 2 564 := ⟨93, by decide +kernel, lk_L_93, v_6_wayTo, rfl⟩
theorem dL_law_564 : Dic mL_law 564 .eq 639 567 := ⟨(75), by decide +kernel, by decide, rfl⟩
theorem dL_law_567 : Dc mL_law 567 (.iconst 0) 1 568 := ⟨by decide +kernel, rfl⟩
theorem dL_law_568 : mR mL_law = some .boolean ∧ decode (mB mL_law) 568 = .ok (.ireturn, 1) := ⟨rfl, by decide +kernel⟩
theorem dL_law_569 : Dal mL_law 569 1 570 := Or.inl ⟨1, by decide +kernel, rfl, rfl⟩
theorem dL_law_570 : Dal mL_law 570 0 571 := Or.inl ⟨0, by decide +kernel, rfl, rfl⟩
theorem dL_law_571 : Dil mL_law 571 3 572 := Or.inl ⟨3, by decide +kernel, rfl, rfl⟩
theorem dL_law_572 : Dc mL_law 572 (.iconst 1) 1 573 := ⟨by decide +kernel, rfl⟩
theorem dL_law_573 : Dc mL_law 573 .iadd 1 574 := ⟨by decide +kernel, rfl⟩
theorem dL_law_574 : Dc mL_law 574 .iaload 1 575 := ⟨by decide +kernel, rfl⟩
theorem dL_law_575 : Dal mL_law 575 0 576 := Or.inl ⟨0, by decide +kernel, rfl, rfl⟩
theorem dL_law_576 : Dil mL_law 576 3 577 := Or.inl ⟨3, by decide +kernel, rfl, rfl⟩
theorem dL_law_577 : Dc mL_law 577 (.iconst 2) 1 578 := ⟨by decide +kernel, rfl⟩
theorem dL_law_578 : Dc mL_law 578 .iadd 1 579 := ⟨by decide +kernel, rfl⟩
theorem dL_law_579 : Dc mL_law 579 .iaload 1 580 := ⟨by decide +kernel, rfl⟩
theorem dL_law_580 : Div mL_law 580 m5_usable 2 583 := ⟨94, by decide +kernel, lk_L_94, v_5_usable, rfl⟩
theorem dL_law_583 : Dal mL_law 583 2 584 := Or.inl ⟨2, by decide +kernel, rfl, rfl⟩
theorem dL_law_584 : Dal mL_law 584 0 585 := Or.inl ⟨0, by decide +kernel, rfl, rfl⟩
theorem dL_law_585 : Dil mL_law 585 3 586 := Or.inl ⟨3, by decide +kernel, rfl, rfl⟩
theorem dL_law_586 : Dc mL_law 586 (.iconst 1) 1 587 := ⟨by decide +kernel, rfl⟩
theorem dL_law_587 : Dc mL_law 587 .iadd 1 588 := ⟨by decide +kernel, rfl⟩
theorem dL_law_588 : Dc mL_law 588 .iaload 1 589 := ⟨by decide +kernel, rfl⟩
theorem dL_law_589 : Dal mL_law 589 0 590 := Or.inl ⟨0, by decide +kernel, rfl, rfl⟩
theorem dL_law_590 : Dil mL_law 590 3 591 := Or.inl ⟨3, by decide +kernel, rfl, rfl⟩
theorem dL_law_591 : Dc mL_law 591 (.iconst 2) 1 592 := ⟨by decide +kernel, rfl⟩
theorem dL_law_592 : Dc mL_law 592 .iadd 1 593 := ⟨by decide +kernel, rfl⟩
theorem dL_law_593 : Dc mL_law 593 .iaload 1 594 := ⟨by decide +kernel, rfl⟩
theorem dL_law_594 : Div mL_law 594 m6_usable 2 597 := ⟨97, by decide +kernel, lk_L_97, v_6_usable, rfl⟩
theorem dL_law_597 : Dic mL_law 597 .eq 639 600 := ⟨(42), by decide +kernel, by decide, rfl⟩
theorem dL_law_600 : Dc mL_law 600 (.iconst 0) 1 601 := ⟨by decide +kernel, rfl⟩
theorem dL_law_601 : mR mL_law = some .boolean ∧ decode (mB mL_law) 601 = .ok (.ireturn, 1) := ⟨rfl, by decide +kernel⟩
theorem dL_law_602 : Dal mL_law 602 1 603 := Or.inl ⟨1, by decide +kernel, rfl, rfl⟩
theorem dL_law_603 : Dal mL_law 603 0 604 := Or.inl ⟨0, by decide +kernel, rfl, rfl⟩
theorem dL_law_604 : Dil mL_law 604 3 605 := Or.inl ⟨3, by decide +kernel, rfl, rfl⟩
theorem dL_law_605 : Dc mL_law 605 (.iconst 1) 1 606 := ⟨by decide +kernel, rfl⟩
theorem dL_law_606 : Dc mL_law 606 .iadd 1 607 := ⟨by decide +kernel, rfl⟩
theorem dL_law_607 : Dc mL_law 607 .iaload 1 608 := ⟨by decide +kernel, rfl⟩
theorem dL_law_608 : Div mL_law 608 m5_count 1 611 := ⟨98, by decide +kernel, lk_L_98, v_5_count, rfl⟩
theorem dL_law_611 : Dal mL_law 611 2 612 := Or.inl ⟨2, by decide +kernel, rfl, rfl⟩
theorem dL_law_612 : Dal mL_law 612 0 613 := Or.inl ⟨0, by decide +kernel, rfl, rfl⟩
theorem dL_law_613 : Dil mL_law 613 3 614 := Or.inl ⟨3, by decide +kernel, rfl, rfl⟩
theorem dL_law_614 : Dc mL_law 614 (.iconst 1) 1 615 := ⟨by decide +kernel, rfl⟩
theorem dL_law_615 : Dc mL_law 615 .iadd 1 616 := ⟨by decide +kernel, rfl⟩
theorem dL_law_616 : Dc mL_law 616 .iaload 1 617 := ⟨by decide +kernel, rfl⟩
theorem dL_law_617 : Div mL_law 617 m6_count 1 620 := ⟨101, by decide +kernel, lk_L_101, v_6_count, rfl⟩
theorem dL_law_620 : Dic mL_law 620 .eq 639 623 := ⟨(19), by decide +kernel, by decide, rfl⟩
theorem dL_law_623 : Dc mL_law 623 (.iconst 0) 1 624 := ⟨by decide +kernel, rfl⟩
theorem dL_law_624 : mR mL_law = some .boolean ∧ decode (mB mL_law) 624 = .ok (.ireturn, 1) := ⟨rfl, by decide +kernel⟩
theorem dL_law_625 : Dal mL_law 625 1 626 := Or.inl ⟨1, by decide +kernel, rfl, rfl⟩
theorem dL_law_626 : Div mL_law 626 m5_digest 0 629 := ⟨102, by decide +kernel, lk_L_102, v_5_digest, rfl⟩
theorem dL_law_629 : Dal mL_law 629 2 630 := Or.inl ⟨2, by decide +kernel, rfl, rfl⟩
theorem dL_law_630 : Div mL_law 630 m6_digest 0 633 := ⟨106, by decide +kernel, lk_L_106, v_6_digest, rfl⟩
theorem dL_law_633 : Dc mL_law 633 .lcmp 1 634 := ⟨by decide +kernel, rfl⟩
theorem dL_law_634 : Dif mL_law 634 .eq 639 637 := ⟨(5), by decide +kernel, by decide, rfl⟩
theorem dL_law_637 : Dc mL_law 637 (.iconst 0) 1 638 := ⟨by decide +kernel, rfl⟩
theorem dL_law_638 : mR mL_law = some .boolean ∧ decode (mB mL_law) 638 = .ok (.ireturn, 1) := ⟨rfl, by decide +kernel⟩
theorem dL_law_639 : Dc mL_law 639 (.iinc 3 4) 3 642 := ⟨by decide +kernel, rfl⟩
theorem dL_law_642 : Dgo mL_law 642 18 := ⟨(-624), by decide +kernel, by decide⟩
theorem dL_law_645 : Dc mL_law 645 (.iconst 1) 1 646 := ⟨by decide +kernel, rfl⟩
theorem dL_law_646 : mR mL_law = some .boolean ∧ decode (mB mL_law) 646 = .ok (.ireturn, 1) := ⟨rfl, by decide +kernel⟩
end
section
/-! ===== pictures and frames ===== -/
theorem Fr.rfl {h : AH} {a n : Nat} : Fr h h a n := ⟨Eq.refl _, fun _ _ => Eq.refl _⟩
theorem Fr.wide {h h' : AH} {a b n k : Nat} (f : Fr h h' b k) (h1 : a ≤ b) (h2 : b + k ≤ a + n) : Fr h h' a n := ⟨f.1, fun q hq => f.2 q (by omega)⟩
theorem Fr.then {h h1 h2 : AH} {a b n k : Nat} (F : Fr h h1 a n) (f : Fr h1 h2 b k) (q1 : a ≤ b) (q2 : b + k ≤ a + n) : Fr h h2 a n := ⟨f.1.trans F.1, fun q hq => (f.2 q (by omega)).trans (F.2 q hq)⟩
theorem Fr.get {h h' : AH} {b n q : Nat} {c : AC} (f : Fr h h' b n) (hq : h.2 q = some c) (hd : ¬ (b ≤ q ∧ q < b + n)) : h'.2 q = some c := (f.2 q hd).trans hq
def Fr2 (h h' : AH) (a n b k : Nat) : Prop := h'.1 = h.1 ∧ ∀ q, ¬ (a ≤ q ∧ q < a + n) → ¬ (b ≤ q ∧ q < b + k) → h'.2 q = h.2 q
theorem Fr2.rfl {h : AH} {a n b k : Nat} : Fr2 h h a n b k := ⟨Eq.refl _, fun _ _ _ => Eq.refl _⟩
theorem Fr2.trans {h h1 h2 : AH} {a n b k : Nat} (f : Fr2 h h1 a n b k) (g : Fr2 h1 h2 a n b k) : Fr2 h h2 a n b k := ⟨g.1.trans f.1, fun q q1 q2 => (g.2 q q1 q2).trans (f.2 q q1 q2)⟩
theorem Fr.two1 {h h' : AH} {a n b k c m : Nat} (f : Fr h h' c m) (q1 : a ≤ c) (q2 : c + m ≤ a + n) : Fr2 h h' a n b k := ⟨f.1, fun q h1 _ => f.2 q (by omega)⟩
theorem Fr.two2 {h h' : AH} {a n b k c m : Nat} (f : Fr h h' c m) (q1 : b ≤ c) (q2 : c + m ≤ b + k) : Fr2 h h' a n b k := ⟨f.1, fun q _ h2 => f.2 q (by omega)⟩
theorem Fr2.one {h h' : AH} {a n b k c m : Nat} (f : Fr2 h h' a n b k) (q1 : c ≤ a) (q2 : a + n ≤ c + m) (q3 : c ≤ b) (q4 : b + k ≤ c + m) : Fr h h' c m := ⟨f.1, fun q hq => f.2 q (by omega) (by omega)⟩
theorem Fr2.get {h h' : AH} {a n b k q : Nat} {c : AC} (f : Fr2 h h' a n b k) (hq : h.2 q = some c) (h1 : ¬ (a ≤ q ∧ q < a + n)) (h2 : ¬ (b ≤ q ∧ q < b + k)) : h'.2 q = some c := (f.2 q h1 h2).trans hq
/-- a Script: nodes, kinds, numberCounts, numbers, optionCounts, optionParts -/
abbrev SC : Type := Int × (Int → Int) × (Int → Int) × (Int → Int) × (Int → Int) × (Int → Int)
def scAt (h : AH) (a : Nat) (S : SC) : Prop := h.2 a = some (kO 3 [vI S.1, vR (a + 1), vR (a + 2), vR (a + 3), vR (a + 4), vR (a + 5)]) ∧ h.2 (a + 1) = some (kA 0 29 S.2.1) ∧ h.2 (a + 2) = some (kA 0 29 S.2.2.1) ∧ h.2 (a + 3) = some (kA 0 87 S.2.2.2.1) ∧ h.2 (a + 4) = some (kA 0 29 S.2.2.2.2.1) ∧ h.2 (a + 5) = some (kA 0 348 S.2.2.2.2.2)
theorem scAt.fr {h h' : AH} {a b n : Nat} {S : SC} (s : scAt h a S) (f : Fr h h' b n) (hd : a + 6 ≤ b ∨ b + n ≤ a) : scAt h' a S := by
  obtain ⟨s0, s1, s2, s3, s4, s5⟩ := s
  exact ⟨f.get s0 (by omega), f.get s1 (by omega), f.get s2 (by omega), f.get s3 (by omega), f.get s4 (by omega), f.get s5 (by omega)⟩
theorem scAt.fr2 {h h' : AH} {a b n c k : Nat} {S : SC} (s : scAt h a S) (f : Fr2 h h' b n c k) (hd : a + 6 ≤ b ∨ b + n ≤ a) (hd2 : a + 6 ≤ c ∨ c + k ≤ a) : scAt h' a S := by
  obtain ⟨s0, s1, s2, s3, s4, s5⟩ := s
  exact ⟨f.get s0 (by omega) (by omega), f.get s1 (by omega) (by omega), f.get s2 (by omega) (by omega), f.get s3 (by omega) (by omega), f.get s4 (by omega) (by omega), f.get s5 (by omega) (by omega)⟩
/-- a Script's counts are in their bounds -/
def scI (S : SC) : Prop := 0 ≤ S.1 ∧ S.1 ≤ 29 ∧ ∀ v, 0 ≤ v → v < S.1 → (0 ≤ S.2.2.1 v ∧ S.2.2.1 v ≤ 3) ∧ (0 ≤ S.2.2.2.2.1 v ∧ S.2.2.2.2.1 v ≤ 4)
def cHas (S : SC) (v : Int) : Prop := 0 ≤ v ∧ v < S.1 ∧ v < 29
def cKind (S : SC) (v : Int) : Int := if 0 ≤ v ∧ v < S.1 ∧ v < 29 then S.2.1 v else -1
def cOpts (S : SC) (v : Int) : Int := if 0 ≤ v ∧ v < S.1 ∧ v < 29 then S.2.2.2.2.1 v else 0
def cNum (S : SC) (v i : Int) : Int := if 0 ≤ v ∧ v < S.1 ∧ v < 29 ∧ 0 ≤ i ∧ i < 3 then (if S.2.1 v = 6 then (if i = 0 then S.2.2.2.2.1 v else -11) else if i < S.2.2.1 v then S.2.2.2.1 (v * 3 + i) else -11) else -11
def cPart (S : SC) (v o w : Int) : Int := if (0 ≤ v ∧ v < S.1 ∧ v < 29) ∧ 0 ≤ o ∧ o < S.2.2.2.2.1 v ∧ o < 4 ∧ 0 ≤ w ∧ w < 3 then S.2.2.2.2.2 ((v * 4 + o) * 3 + w) else -11
/-- is a flag set -/
def fon (flags f : Int) : Prop := bAnd (bShr flags f) 1 = 1
def cOpen (S : SC) (v o flags : Int) : Prop := 0 ≤ o ∧ o < cOpts S v ∧ (cPart S v o 1 = 0 ∨ (fon flags (cPart S v o 2) ↔ cPart S v o 1 = 1))
def cShown (S : SC) (v : Int) : Prop := cKind S v = -1 ∨ cKind S v = 0 ∨ cKind S v = 6 ∨ cKind S v = 7
def cSK (S : SC) (v : Int) : Int := if cKind S v = 0 then 0 else if cKind S v = 6 then 1 else 2
def cSN (S : SC) (v : Int) : Int := if v = 30 then -3 else if 0 ≤ v ∧ v < S.1 ∧ v < 29 then cNum S v (if cKind S v = 0 then 1 else 0) else -2
theorem rT {P : Prop} {R : RP} {h : AH} (k : R (some (vI (bi P))) h) (hp : P) : R (some (vI 1)) h := by rw [bi_t hp] at k; exact k
theorem rF {P : Prop} {R : RP} {h : AH} (k : R (some (vI (bi P))) h) (hp : ¬ P) : R (some (vI 0)) h := by rw [bi_f hp] at k; exact k
theorem rI {z z' : Int} {R : RP} {h : AH} (k : R (some (vI z)) h) (e : z' = z) : R (some (vI z')) h := by rw [e]; exact k
end
section
/-! ===== Script: reads ===== -/
set_option maxRecDepth 100000 in
set_option maxHeartbeats 4000000 in
theorem s3_has {d : Nat} {h : AH} {R : RP} {v : Int} {a : Nat} {S : SC} (hS : scAt h a S) (k : R (some (vI (bi (cHas S v)))) h) : AM m3_has (d) h [vR a, vI v] R := by
  refine AM.of (L := [some (vR a), some (vI v)]) ok_3_has (by decide) (fun G => Nat.le_of_ble_eq_true rfl) rfl ?_
  refine A.il2_1 d3_has_0 ?_
  refine A.if_lt d3_has_1 (fun c1 => ?_) (fun c1 => ?_)
  · refine A.iconst d3_has_22 ?_
    refine A.zret d3_has_23 ?_
    first | exact rT k (by unfold cHas; omega) | exact rF k (by unfold cHas; omega)
  · refine A.il2_1 d3_has_4 ?_
    refine A.al2_0 d3_has_5 ?_
    refine A.getf d3_has_6 ?_ (hc := hS.1)
    refine A.ic_ge d3_has_9 (fun c9 => ?_) (fun c9 => ?_)
    · refine A.iconst d3_has_22 ?_
      refine A.zret d3_has_23 ?_
      first | exact rT k (by unfold cHas; omega) | exact rF k (by unfold cHas; omega)
    · refine A.il2_1 d3_has_12 ?_
      refine A.bipush d3_has_13 ?_
      refine A.ic_ge d3_has_15 (fun c15 => ?_) (fun c15 => ?_)
      · refine A.iconst d3_has_22 ?_
        refine A.zret d3_has_23 ?_
        first | exact rT k (by unfold cHas; omega) | exact rF k (by unfold cHas; omega)
      · refine A.iconst d3_has_18 ?_
        refine A.goto d3_has_19 ?_
        refine A.zret d3_has_23 ?_
        first | exact rT k (by unfold cHas; omega) | exact rF k (by unfold cHas; omega)
set_option maxRecDepth 100000 in
set_option maxHeartbeats 4000000 in
theorem s3_kindOf {d : Nat} {h : AH} {R : RP} {v : Int} {a : Nat} {S : SC} (hS : scAt h a S) (k : R (some (vI (cKind S v))) h) : AM m3_kindOf (d + 1) h [vR a, vI v] R := by
  refine AM.of (L := [some (vR a), some (vI v)]) ok_3_kindOf (by decide) (fun G => Nat.le_of_ble_eq_true rfl) rfl ?_
  refine A.al2_0 d3_kindOf_0 ?_
  refine A.il2_1 d3_kindOf_1 ?_
  refine A.v1 d3_kindOf_2 (s3_has hS (kS ?_)) (hc := hS.1)
  refine A.bz_eq d3_kindOf_5 (fun c5 => ?_) (fun c5 => ?_)
  · refine A.iconst d3_kindOf_17 ?_
    refine A.iret d3_kindOf_18 ?_
    exact rI k (by unfold cKind; (try unfold cHas at *); (repeat' split) <;> first | rfl | omega)
  · unfold cHas at c5
    refine A.al2_0 d3_kindOf_8 ?_
    refine A.getf d3_kindOf_9 ?_ (hc := hS.1)
    refine A.il2_1 d3_kindOf_12 ?_
    refine A.iald d3_kindOf_13 ?_ (hc := hS.2.1)
    refine A.goto d3_kindOf_14 ?_
    refine A.iret d3_kindOf_18 ?_
    exact rI k (by unfold cKind; (try unfold cHas at *); (repeat' split) <;> first | rfl | omega)
set_option maxRecDepth 100000 in
set_option maxHeartbeats 4000000 in
theorem s3_optionsOf {d : Nat} {h : AH} {R : RP} {v : Int} {a : Nat} {S : SC} (hS : scAt h a S) (k : R (some (vI (cOpts S v))) h) : AM m3_optionsOf (d + 1) h [vR a, vI v] R := by
  refine AM.of (L := [some (vR a), some (vI v)]) ok_3_optionsOf (by decide) (fun G => Nat.le_of_ble_eq_true rfl) rfl ?_
  refine A.al2_0 d3_optionsOf_0 ?_
  refine A.il2_1 d3_optionsOf_1 ?_
  refine A.v1 d3_optionsOf_2 (s3_has hS (kS ?_)) (hc := hS.1)
  refine A.bz_eq d3_optionsOf_5 (fun c5 => ?_) (fun c5 => ?_)
  · refine A.iconst d3_optionsOf_17 ?_
    refine A.iret d3_optionsOf_18 ?_
    exact rI k (by unfold cOpts; (try unfold cHas at *); (repeat' split) <;> first | rfl | omega)
  · unfold cHas at c5
    refine A.al2_0 d3_optionsOf_8 ?_
    refine A.getf d3_optionsOf_9 ?_ (hc := hS.1)
    refine A.il2_1 d3_optionsOf_12 ?_
    refine A.iald d3_optionsOf_13 ?_ (hc := hS.2.2.2.2.1)
    refine A.goto d3_optionsOf_14 ?_
    refine A.iret d3_optionsOf_18 ?_
    exact rI k (by unfold cOpts; (try unfold cHas at *); (repeat' split) <;> first | rfl | omega)
set_option maxRecDepth 100000 in
set_option maxHeartbeats 4000000 in
theorem s3_numberOf {d : Nat} {h : AH} {R : RP} {v i : Int} {a : Nat} {S : SC} (hS : scAt h a S) (k : R (some (vI (cNum S v i))) h) : AM m3_numberOf (d + 1) h [vR a, vI v, vI i] R := by
  refine AM.of (L := [some (vR a), some (vI v), some (vI i)]) ok_3_numberOf (by decide) (fun G => Nat.le_of_ble_eq_true rfl) rfl ?_
  refine A.al3_0 d3_numberOf_0 ?_
  refine A.il3_1 d3_numberOf_1 ?_
  refine A.v1 d3_numberOf_2 (s3_has hS (kS ?_)) (hc := hS.1)
  refine A.bz_eq d3_numberOf_5 (fun c5 => ?_) (fun c5 => ?_)
  · refine A.bipush d3_numberOf_17 ?_
    refine A.iret d3_numberOf_19 ?_
    exact rI k (by unfold cNum; (try unfold cHas at *); (repeat' split) <;> first | rfl | omega)
  · unfold cHas at c5
    refine A.il3_2 d3_numberOf_8 ?_
    refine A.if_lt d3_numberOf_9 (fun c9 => ?_) (fun c9 => ?_)
    · refine A.bipush d3_numberOf_17 ?_
      refine A.iret d3_numberOf_19 ?_
      exact rI k (by unfold cNum; (try unfold cHas at *); (repeat' split) <;> first | rfl | omega)
    · refine A.il3_2 d3_numberOf_12 ?_
      refine A.iconst d3_numberOf_13 ?_
      refine A.ic_lt d3_numberOf_14 (fun c14 => ?_) (fun c14 => ?_)
      · refine A.al3_0 d3_numberOf_20 ?_
        refine A.getf d3_numberOf_21 ?_ (hc := hS.1)
        refine A.il3_1 d3_numberOf_24 ?_
        refine A.iald d3_numberOf_25 ?_ (hc := hS.2.1)
        refine A.bipush d3_numberOf_26 ?_
        refine A.ic_ne d3_numberOf_28 (fun c28 => ?_) (fun c28 => ?_)
        · refine A.il3_2 d3_numberOf_47 ?_
          refine A.al3_0 d3_numberOf_48 ?_
          refine A.getf d3_numberOf_49 ?_ (hc := hS.1)
          refine A.il3_1 d3_numberOf_52 ?_
          refine A.iald d3_numberOf_53 ?_ (hc := hS.2.2.1)
          refine A.ic_ge d3_numberOf_54 (fun c54 => ?_) (fun c54 => ?_)
          · refine A.bipush d3_numberOf_70 ?_
            refine A.iret d3_numberOf_72 ?_
            exact rI k (by unfold cNum; (try unfold cHas at *); (repeat' split) <;> first | rfl | omega)
          · refine A.al3_0 d3_numberOf_57 ?_
            refine A.getf d3_numberOf_58 ?_ (hc := hS.1)
            refine A.il3_1 d3_numberOf_61 ?_
            refine A.iconst d3_numberOf_62 ?_
            refine A.imul d3_numberOf_63 ?_
            refine A.il3_2 d3_numberOf_64 ?_
            refine A.iadd d3_numberOf_65 ?_
            refine A.iald d3_numberOf_66 ?_ (hc := hS.2.2.2.1)
            refine A.goto d3_numberOf_67 ?_
            refine A.iret d3_numberOf_72 ?_
            exact rI k (by unfold cNum; (try unfold cHas at *); (repeat' split) <;> first | rfl | omega)
        · refine A.il3_2 d3_numberOf_31 ?_
          refine A.if_ne d3_numberOf_32 (fun c32 => ?_) (fun c32 => ?_)
          · refine A.bipush d3_numberOf_44 ?_
            refine A.iret d3_numberOf_46 ?_
            exact rI k (by unfold cNum; (try unfold cHas at *); (repeat' split) <;> first | rfl | omega)
          · refine A.al3_0 d3_numberOf_35 ?_
            refine A.getf d3_numberOf_36 ?_ (hc := hS.1)
            refine A.il3_1 d3_numberOf_39 ?_
            refine A.iald d3_numberOf_40 ?_ (hc := hS.2.2.2.2.1)
            refine A.goto d3_numberOf_41 ?_
            refine A.iret d3_numberOf_46 ?_
            exact rI k (by unfold cNum; (try unfold cHas at *); (repeat' split) <;> first | rfl | omega)
      · refine A.bipush d3_numberOf_17 ?_
        refine A.iret d3_numberOf_19 ?_
        exact rI k (by unfold cNum; (try unfold cHas at *); (repeat' split) <;> first | rfl | omega)
set_option maxRecDepth 100000 in
set_option maxHeartbeats 4000000 in
theorem s3_optionPart {d : Nat} {h : AH} {R : RP} {v o w : Int} {a : Nat} {S : SC} (hS : scAt h a S) (k : R (some (vI (cPart S v o w))) h) : AM m3_optionPart (d + 1) h [vR a, vI v, vI o, vI w] R := by
  refine AM.of (L := [some (vR a), some (vI v), some (vI o), some (vI w)]) ok_3_optionPart (by decide) (fun G => Nat.le_of_ble_eq_true rfl) rfl ?_
  refine A.al4_0 d3_optionPart_0 ?_
  refine A.il4_1 d3_optionPart_1 ?_
  refine A.v1 d3_optionPart_2 (s3_has hS (kS ?_)) (hc := hS.1)
  refine A.bz_eq d3_optionPart_5 (fun c5 => ?_) (fun c5 => ?_)
  · refine A.bipush d3_optionPart_27 ?_
    refine A.iret d3_optionPart_29 ?_
    exact rI k (by unfold cPart; (try unfold cHas at *); (repeat' split) <;> first | rfl | omega)
  · unfold cHas at c5
    refine A.il4_2 d3_optionPart_8 ?_
    refine A.if_lt d3_optionPart_9 (fun c9 => ?_) (fun c9 => ?_)
    · refine A.bipush d3_optionPart_27 ?_
      refine A.iret d3_optionPart_29 ?_
      exact rI k (by unfold cPart; (try unfold cHas at *); (repeat' split) <;> first | rfl | omega)
    · refine A.il4_2 d3_optionPart_12 ?_
      refine A.al4_0 d3_optionPart_13 ?_
      refine A.getf d3_optionPart_14 ?_ (hc := hS.1)
      refine A.il4_1 d3_optionPart_17 ?_
      refine A.iald d3_optionPart_18 ?_ (hc := hS.2.2.2.2.1)
      refine A.ic_ge d3_optionPart_19 (fun c19 => ?_) (fun c19 => ?_)
      · refine A.bipush d3_optionPart_27 ?_
        refine A.iret d3_optionPart_29 ?_
        exact rI k (by unfold cPart; (try unfold cHas at *); (repeat' split) <;> first | rfl | omega)
      · refine A.il4_2 d3_optionPart_22 ?_
        refine A.iconst d3_optionPart_23 ?_
        refine A.ic_lt d3_optionPart_24 (fun c24 => ?_) (fun c24 => ?_)
        · refine A.il4_3 d3_optionPart_30 ?_
          refine A.if_lt d3_optionPart_31 (fun c31 => ?_) (fun c31 => ?_)
          · refine A.bipush d3_optionPart_39 ?_
            refine A.iret d3_optionPart_41 ?_
            exact rI k (by unfold cPart; (try unfold cHas at *); (repeat' split) <;> first | rfl | omega)
          · refine A.il4_3 d3_optionPart_34 ?_
            refine A.iconst d3_optionPart_35 ?_
            refine A.ic_lt d3_optionPart_36 (fun c36 => ?_) (fun c36 => ?_)
            · refine A.al4_0 d3_optionPart_42 ?_
              refine A.getf d3_optionPart_43 ?_ (hc := hS.1)
              refine A.il4_1 d3_optionPart_46 ?_
              refine A.iconst d3_optionPart_47 ?_
              refine A.imul d3_optionPart_48 ?_
              refine A.il4_2 d3_optionPart_49 ?_
              refine A.iadd d3_optionPart_50 ?_
              refine A.iconst d3_optionPart_51 ?_
              refine A.imul d3_optionPart_52 ?_
              refine A.il4_3 d3_optionPart_53 ?_
              refine A.iadd d3_optionPart_54 ?_
              refine A.iald d3_optionPart_55 ?_ (hc := hS.2.2.2.2.2)
              refine A.iret d3_optionPart_56 ?_
              exact rI k (by unfold cPart; (try unfold cHas at *); (repeat' split) <;> first | rfl | omega)
            · refine A.bipush d3_optionPart_39 ?_
              refine A.iret d3_optionPart_41 ?_
              exact rI k (by unfold cPart; (try unfold cHas at *); (repeat' split) <;> first | rfl | omega)
        · refine A.bipush d3_optionPart_27 ?_
          refine A.iret d3_optionPart_29 ?_
          exact rI k (by unfold cPart; (try unfold cHas at *); (repeat' split) <;> first | rfl | omega)
set_option maxRecDepth 100000 in
set_option maxHeartbeats 4000000 in
theorem s3_shownKind {d : Nat} {h : AH} {R : RP} {v : Int} {a : Nat} {S : SC} (hS : scAt h a S) (k : R (some (vI (cSK S v))) h) : AM m3_shownKind (d + 2) h [vR a, vI v] R := by
  refine AM.of (L := [some (vR a), some (vI v), none]) ok_3_shownKind (by decide) (fun G => Nat.le_of_ble_eq_true rfl) rfl ?_
  refine A.al3_0 d3_shownKind_0 ?_
  refine A.il3_1 d3_shownKind_1 ?_
  refine A.v1 d3_shownKind_2 (s3_kindOf hS (kS ?_)) (hc := hS.1)
  refine A.is3_2 d3_shownKind_5 ?_
  refine A.il3_2 d3_shownKind_6 ?_
  refine A.if_ne d3_shownKind_7 (fun c7 => ?_) (fun c7 => ?_)
  · refine A.il3_2 d3_shownKind_12 ?_
    refine A.bipush d3_shownKind_13 ?_
    refine A.ic_ne d3_shownKind_15 (fun c15 => ?_) (fun c15 => ?_)
    · refine A.iconst d3_shownKind_22 ?_
      refine A.iret d3_shownKind_23 ?_
      exact rI k (by unfold cSK; (try unfold cHas at *); (repeat' split) <;> first | rfl | omega)
    · refine A.iconst d3_shownKind_18 ?_
      refine A.goto d3_shownKind_19 ?_
      refine A.iret d3_shownKind_23 ?_
      exact rI k (by unfold cSK; (try unfold cHas at *); (repeat' split) <;> first | rfl | omega)
  · refine A.iconst d3_shownKind_10 ?_
    refine A.iret d3_shownKind_11 ?_
    exact rI k (by unfold cSK; (try unfold cHas at *); (repeat' split) <;> first | rfl | omega)
set_option maxRecDepth 100000 in
set_option maxHeartbeats 4000000 in
theorem s3_isShown {d : Nat} {h : AH} {R : RP} {v : Int} {a : Nat} {S : SC} (hS : scAt h a S) (k : R (some (vI (bi (cShown S v)))) h) : AM m3_isShown (d + 2) h [vR a, vI v] R := by
  refine AM.of (L := [some (vR a), some (vI v), none]) ok_3_isShown (by decide) (fun G => Nat.le_of_ble_eq_true rfl) rfl ?_
  refine A.al3_0 d3_isShown_0 ?_
  refine A.il3_1 d3_isShown_1 ?_
  refine A.v1 d3_isShown_2 (s3_kindOf hS (kS ?_)) (hc := hS.1)
  refine A.is3_2 d3_isShown_5 ?_
  refine A.il3_2 d3_isShown_6 ?_
  refine A.iconst d3_isShown_7 ?_
  refine A.ic_eq d3_isShown_8 (fun c8 => ?_) (fun c8 => ?_)
  · refine A.iconst d3_isShown_27 ?_
    refine A.goto d3_isShown_28 ?_
    refine A.zret d3_isShown_32 ?_
    first | exact rT k (by unfold cShown; omega) | exact rF k (by unfold cShown; omega)
  · refine A.il3_2 d3_isShown_11 ?_
    refine A.if_eq d3_isShown_12 (fun c12 => ?_) (fun c12 => ?_)
    · refine A.iconst d3_isShown_27 ?_
      refine A.goto d3_isShown_28 ?_
      refine A.zret d3_isShown_32 ?_
      first | exact rT k (by unfold cShown; omega) | exact rF k (by unfold cShown; omega)
    · refine A.il3_2 d3_isShown_15 ?_
      refine A.bipush d3_isShown_16 ?_
      refine A.ic_eq d3_isShown_18 (fun c18 => ?_) (fun c18 => ?_)
      · refine A.iconst d3_isShown_27 ?_
        refine A.goto d3_isShown_28 ?_
        refine A.zret d3_isShown_32 ?_
        first | exact rT k (by unfold cShown; omega) | exact rF k (by unfold cShown; omega)
      · refine A.il3_2 d3_isShown_21 ?_
        refine A.bipush d3_isShown_22 ?_
        refine A.ic_ne d3_isShown_24 (fun c24 => ?_) (fun c24 => ?_)
        · refine A.iconst d3_isShown_31 ?_
          refine A.zret d3_isShown_32 ?_
          first | exact rT k (by unfold cShown; omega) | exact rF k (by unfold cShown; omega)
        · refine A.iconst d3_isShown_27 ?_
          refine A.goto d3_isShown_28 ?_
          refine A.zret d3_isShown_32 ?_
          first | exact rT k (by unfold cShown; omega) | exact rF k (by unfold cShown; omega)
set_option maxRecDepth 100000 in
set_option maxHeartbeats 4000000 in
theorem s3_shownNumber {d : Nat} {h : AH} {R : RP} {v : Int} {a : Nat} {S : SC} (hS : scAt h a S) (k : R (some (vI (cSN S v))) h) : AM m3_shownNumber (d + 2) h [vR a, vI v] R := by
  refine AM.of (L := [some (vR a), some (vI v)]) ok_3_shownNumber (by decide) (fun G => Nat.le_of_ble_eq_true rfl) rfl ?_
  refine A.il2_1 d3_shownNumber_0 ?_
  refine A.bipush d3_shownNumber_1 ?_
  refine A.ic_ne d3_shownNumber_3 (fun c3 => ?_) (fun c3 => ?_)
  · refine A.al2_0 d3_shownNumber_9 ?_
    refine A.il2_1 d3_shownNumber_10 ?_
    refine A.v1 d3_shownNumber_11 (s3_has hS (kS ?_)) (hc := hS.1)
    refine A.bz_ne d3_shownNumber_14 (fun c14 => ?_) (fun c14 => ?_)
    · refine A.al2_0 d3_shownNumber_20 ?_
      refine A.il2_1 d3_shownNumber_21 ?_
      refine A.al2_0 d3_shownNumber_22 ?_
      refine A.il2_1 d3_shownNumber_23 ?_
      refine A.v1 d3_shownNumber_24 (s3_kindOf hS (kS ?_)) (hc := hS.1)
      refine A.if_ne d3_shownNumber_27 (fun c27 => ?_) (fun c27 => ?_)
      · refine A.iconst d3_shownNumber_34 ?_
        refine A.v2 d3_shownNumber_35 (s3_numberOf hS (kS ?_)) (hc := hS.1)
        refine A.iret d3_shownNumber_38 ?_
        exact rI k (by unfold cSN; (try unfold cHas at *); (repeat' split) <;> first | rfl | omega)
      · refine A.iconst d3_shownNumber_30 ?_
        refine A.goto d3_shownNumber_31 ?_
        refine A.v2 d3_shownNumber_35 (s3_numberOf hS (kS ?_)) (hc := hS.1)
        refine A.iret d3_shownNumber_38 ?_
        exact rI k (by unfold cSN; (try unfold cHas at *); (repeat' split) <;> first | rfl | omega)
    · refine A.bipush d3_shownNumber_17 ?_
      refine A.iret d3_shownNumber_19 ?_
      exact rI k (by unfold cSN; (try unfold cHas at *); (repeat' split) <;> first | rfl | omega)
  · refine A.bipush d3_shownNumber_6 ?_
    refine A.iret d3_shownNumber_8 ?_
    exact rI k (by unfold cSN; (try unfold cHas at *); (repeat' split) <;> first | rfl | omega)
set_option maxRecDepth 100000 in
set_option maxHeartbeats 4000000 in
theorem s3_isOpen {d : Nat} {h : AH} {R : RP} {v o fl : Int} {a : Nat} {S : SC} (hS : scAt h a S) (k : R (some (vI (bi (cOpen S v o fl)))) h) : AM m3_isOpen (d + 2) h [vR a, vI v, vI o, vI fl] R := by
  refine AM.of (L := [some (vR a), some (vI v), some (vI o), some (vI fl), none, none]) ok_3_isOpen (by decide) (fun G => Nat.le_of_ble_eq_true rfl) rfl ?_
  refine A.il6_2 d3_isOpen_0 ?_
  refine A.if_lt d3_isOpen_1 (fun c1 => ?_) (fun c1 => ?_)
  · refine A.iconst d3_isOpen_13 ?_
    refine A.zret d3_isOpen_14 ?_
    first | exact rT k (by unfold cOpen fon; omega) | exact rF k (by unfold cOpen fon; omega)
  · refine A.il6_2 d3_isOpen_4 ?_
    refine A.al6_0 d3_isOpen_5 ?_
    refine A.il6_1 d3_isOpen_6 ?_
    refine A.v1 d3_isOpen_7 (s3_optionsOf hS (kS ?_)) (hc := hS.1)
    refine A.ic_lt d3_isOpen_10 (fun c10 => ?_) (fun c10 => ?_)
    · refine A.al6_0 d3_isOpen_15 ?_
      refine A.il6_1 d3_isOpen_16 ?_
      refine A.il6_2 d3_isOpen_17 ?_
      refine A.iconst d3_isOpen_18 ?_
      refine A.v3 d3_isOpen_19 (s3_optionPart hS (kS ?_)) (hc := hS.1)
      refine A.is6_4 d3_isOpen_22 ?_
      refine A.il6_4 d3_isOpen_24 ?_
      refine A.if_ne d3_isOpen_26 (fun c26 => ?_) (fun c26 => ?_)
      · refine A.il6_3 d3_isOpen_31 ?_
        refine A.al6_0 d3_isOpen_32 ?_
        refine A.il6_1 d3_isOpen_33 ?_
        refine A.il6_2 d3_isOpen_34 ?_
        refine A.iconst d3_isOpen_35 ?_
        refine A.v3 d3_isOpen_36 (s3_optionPart hS (kS ?_)) (hc := hS.1)
        refine A.ishr d3_isOpen_39 ?_
        refine A.iconst d3_isOpen_40 ?_
        refine A.iand d3_isOpen_41 ?_
        refine A.iconst d3_isOpen_42 ?_
        refine A.ic_ne d3_isOpen_43 (fun c43 => ?_) (fun c43 => ?_)
        · refine A.iconst d3_isOpen_50 ?_
          refine A.is6_5 d3_isOpen_51 ?_
          refine A.il6_5 d3_isOpen_53 ?_
          refine A.il6_4 d3_isOpen_55 ?_
          refine A.iconst d3_isOpen_57 ?_
          refine A.ic_ne d3_isOpen_58 (fun c58 => ?_) (fun c58 => ?_)
          · refine A.iconst d3_isOpen_65 ?_
            refine A.ic_ne d3_isOpen_66 (fun c66 => ?_) (fun c66 => ?_)
            · refine A.iconst d3_isOpen_73 ?_
              refine A.zret d3_isOpen_74 ?_
              first | exact rT k (by unfold cOpen fon; omega) | exact rF k (by unfold cOpen fon; omega)
            · refine A.iconst d3_isOpen_69 ?_
              refine A.goto d3_isOpen_70 ?_
              refine A.zret d3_isOpen_74 ?_
              first | exact rT k (by unfold cOpen fon; omega) | exact rF k (by unfold cOpen fon; omega)
          · refine A.iconst d3_isOpen_61 ?_
            refine A.goto d3_isOpen_62 ?_
            refine A.ic_ne d3_isOpen_66 (fun c66 => ?_) (fun c66 => ?_)
            · refine A.iconst d3_isOpen_73 ?_
              refine A.zret d3_isOpen_74 ?_
              first | exact rT k (by unfold cOpen fon; omega) | exact rF k (by unfold cOpen fon; omega)
            · refine A.iconst d3_isOpen_69 ?_
              refine A.goto d3_isOpen_70 ?_
              refine A.zret d3_isOpen_74 ?_
              first | exact rT k (by unfold cOpen fon; omega) | exact rF k (by unfold cOpen fon; omega)
        · refine A.iconst d3_isOpen_46 ?_
          refine A.goto d3_isOpen_47 ?_
          refine A.is6_5 d3_isOpen_51 ?_
          refine A.il6_5 d3_isOpen_53 ?_
          refine A.il6_4 d3_isOpen_55 ?_
          refine A.iconst d3_isOpen_57 ?_
          refine A.ic_ne d3_isOpen_58 (fun c58 => ?_) (fun c58 => ?_)
          · refine A.iconst d3_isOpen_65 ?_
            refine A.ic_ne d3_isOpen_66 (fun c66 => ?_) (fun c66 => ?_)
            · refine A.iconst d3_isOpen_73 ?_
              refine A.zret d3_isOpen_74 ?_
              first | exact rT k (by unfold cOpen fon; omega) | exact rF k (by unfold cOpen fon; omega)
            · refine A.iconst d3_isOpen_69 ?_
              refine A.goto d3_isOpen_70 ?_
              refine A.zret d3_isOpen_74 ?_
              first | exact rT k (by unfold cOpen fon; omega) | exact rF k (by unfold cOpen fon; omega)
          · refine A.iconst d3_isOpen_61 ?_
            refine A.goto d3_isOpen_62 ?_
            refine A.ic_ne d3_isOpen_66 (fun c66 => ?_) (fun c66 => ?_)
            · refine A.iconst d3_isOpen_73 ?_
              refine A.zret d3_isOpen_74 ?_
              first | exact rT k (by unfold cOpen fon; omega) | exact rF k (by unfold cOpen fon; omega)
            · refine A.iconst d3_isOpen_69 ?_
              refine A.goto d3_isOpen_70 ?_
              refine A.zret d3_isOpen_74 ?_
              first | exact rT k (by unfold cOpen fon; omega) | exact rF k (by unfold cOpen fon; omega)
      · refine A.iconst d3_isOpen_29 ?_
        refine A.zret d3_isOpen_30 ?_
        first | exact rT k (by unfold cOpen fon; omega) | exact rF k (by unfold cOpen fon; omega)
    · refine A.iconst d3_isOpen_13 ?_
      refine A.zret d3_isOpen_14 ?_
      first | exact rT k (by unfold cOpen fon; omega) | exact rF k (by unfold cOpen fon; omega)
end
section
/-! ===== Script: writes; what is unlocked ===== -/
noncomputable def pif {α : Type} (P : Prop) (a b : α) : α := @ite α P (Classical.propDecidable P) a b
theorem pif_t {α : Type} {P : Prop} {a b : α} (h : P) : pif P a b = a := @if_pos P (Classical.propDecidable P) h α a b
theorem pif_f {α : Type} {P : Prop} {a b : α} (h : ¬ P) : pif P a b = b := @if_neg P (Classical.propDecidable P) h α a b
noncomputable def oSum (S : SC) (v fl : Int) : Nat → Int
  | 0 => 0
  | k + 1 => pif (cOpen S v k fl) (bOr (oSum S v fl k) (bShl 1 k)) (oSum S v fl k)
noncomputable def cOS (S : SC) (v fl : Int) : Int := if cKind S v = 6 then oSum S v fl 4 else -11
set_option maxRecDepth 100000 in
set_option maxHeartbeats 4000000 in
theorem s3_openOptions {d : Nat} {h : AH} {R : RP} {v fl : Int} {a : Nat} {S : SC} (hS : scAt h a S) (k : R (some (vI (cOS S v fl))) h) : AM m3_openOptions (d + 3) h [vR a, vI v, vI fl] R := by
  refine AM.of (L := [some (vR a), some (vI v), some (vI fl), none, none]) ok_3_openOptions (by decide) (fun G => Nat.le_of_ble_eq_true rfl) rfl ?_
  have loop : ∀ (n : Nat) (i : Nat) (c7 : cKind S v = 6) (hi : i ≤ 4) (hn : 4 - i < n), AW m3_openOptions (d + 3) (mC m3_openOptions, mS m3_openOptions) 18 [some (vR a), some (vI v), some (vI fl), some (vI (oSum S v fl i)), some (vI i)] [] h R := by
    intro n
    induction n with
    | zero => intro i  c7 hi hn; omega
    | succ n ih =>
      intro i  c7 hi hn
      refine A.il5_4 d3_openOptions_18 ?_
      refine A.iconst d3_openOptions_20 ?_
      refine A.ic_ge d3_openOptions_21 (fun c21 => ?_) (fun c21 => ?_)
      · refine A.il5_3 d3_openOptions_48 ?_
        refine A.iret d3_openOptions_49 ?_
        have e : i = 4 := by omega
        subst e
        exact rI k (by unfold cOS; rw [if_pos (by omega)])
      · refine A.al5_0 d3_openOptions_24 ?_
        refine A.il5_1 d3_openOptions_25 ?_
        refine A.il5_4 d3_openOptions_26 ?_
        refine A.il5_2 d3_openOptions_28 ?_
        refine A.v3 d3_openOptions_29 (s3_isOpen hS (kS ?_)) (hc := hS.1)
        refine A.bz_eq d3_openOptions_32 (fun c32 => ?_) (fun c32 => ?_)
        · refine A.ii5_4 d3_openOptions_42 ?_
          refine A.goto d3_openOptions_45 ?_
          have g := ih (i + 1) c7 (by omega) (by omega)
          first | rw [show oSum S v fl (i + 1) = bOr (oSum S v fl i) (bShl 1 i) from pif_t c32] at g | rw [show oSum S v fl (i + 1) = oSum S v fl i from pif_f c32] at g
          exact g
        · refine A.il5_3 d3_openOptions_35 ?_
          refine A.iconst d3_openOptions_36 ?_
          refine A.il5_4 d3_openOptions_37 ?_
          refine A.ishl d3_openOptions_39 ?_
          refine A.ior d3_openOptions_40 ?_
          refine A.is5_3 d3_openOptions_41 ?_
          refine A.ii5_4 d3_openOptions_42 ?_
          refine A.goto d3_openOptions_45 ?_
          have g := ih (i + 1) c7 (by omega) (by omega)
          first | rw [show oSum S v fl (i + 1) = bOr (oSum S v fl i) (bShl 1 i) from pif_t c32] at g | rw [show oSum S v fl (i + 1) = oSum S v fl i from pif_f c32] at g
          exact g
  refine A.al5_0 d3_openOptions_0 ?_
  refine A.il5_1 d3_openOptions_1 ?_
  refine A.v1 d3_openOptions_2 (s3_kindOf hS (kS ?_)) (hc := hS.1)
  refine A.bipush d3_openOptions_5 ?_
  refine A.ic_eq d3_openOptions_7 (fun c7 => ?_) (fun c7 => ?_)
  · refine A.iconst d3_openOptions_13 ?_
    refine A.is5_3 d3_openOptions_14 ?_
    refine A.iconst d3_openOptions_15 ?_
    refine A.is5_4 d3_openOptions_16 ?_
    exact loop 5 0 (by omega) (by omega) (by omega)
  · refine A.bipush d3_openOptions_10 ?_
    refine A.iret d3_openOptions_12 ?_
    exact rI k (by unfold cOS; rw [if_neg (by omega)])
end
section
/-! ===== Script: writes ===== -/
def cAddNode (S : SC) (kd : Int) : SC := if S.1 < 29 then (S.1 + 1, fset S.2.1 S.1 kd, fset S.2.2.1 S.1 0, S.2.2.2.1, fset S.2.2.2.2.1 S.1 0, S.2.2.2.2.2) else S
def cAddNum (S : SC) (v : Int) : SC := if (0 ≤ S.1 - 1 ∧ S.1 - 1 < S.1 ∧ S.1 - 1 < 29) ∧ S.2.2.1 (S.1 - 1) < 3 then (S.1, S.2.1, fset S.2.2.1 (S.1 - 1) (S.2.2.1 (S.1 - 1) + 1), fset S.2.2.2.1 ((S.1 - 1) * 3 + S.2.2.1 (S.1 - 1)) v, S.2.2.2.2.1, S.2.2.2.2.2) else S
def cAddOpt (S : SC) (t l f : Int) : SC := if (0 ≤ S.1 - 1 ∧ S.1 - 1 < S.1 ∧ S.1 - 1 < 29) ∧ S.2.2.2.2.1 (S.1 - 1) < 4 then (S.1, S.2.1, S.2.2.1, S.2.2.2.1, fset S.2.2.2.2.1 (S.1 - 1) (S.2.2.2.2.1 (S.1 - 1) + 1),
  fset (fset (fset S.2.2.2.2.2 (((S.1 - 1) * 4 + S.2.2.2.2.1 (S.1 - 1)) * 3 + 0) t) (((S.1 - 1) * 4 + S.2.2.2.2.1 (S.1 - 1)) * 3 + 1) l) (((S.1 - 1) * 4 + S.2.2.2.2.1 (S.1 - 1)) * 3 + 2) f) else S
set_option maxRecDepth 100000 in
set_option maxHeartbeats 4000000 in
theorem s3_clear {d : Nat} {h : AH} {R : RP} {a : Nat} {S : SC} (hS : scAt h a S) (hI : scI S) (k : ∀ h', scAt h' a (0, S.2) → Fr h h' a 6 → R none h') : AM m3_clear (d) h [vR a] R := by
  refine AM.of (L := [some (vR a)]) ok_3_clear (by decide) (fun G => Nat.le_of_ble_eq_true rfl) rfl ?_
  obtain ⟨s0, s1, s2, s3, s4, s5⟩ := hS
  refine A.al1_0 d3_clear_0 ?_
  refine A.iconst d3_clear_1 ?_
  refine A.putf d3_clear_2 (fun h2 e2 f2 => ?_) (hc := s0) (hk := blt_ok rfl)
  first | (have s0 := (f2.2 _ (by omega)).trans s0) | (have s0 := e2)
  first | (have s1 := (f2.2 _ (by omega)).trans s1) | (have s1 := e2)
  first | (have s2 := (f2.2 _ (by omega)).trans s2) | (have s2 := e2)
  first | (have s3 := (f2.2 _ (by omega)).trans s3) | (have s3 := e2)
  first | (have s4 := (f2.2 _ (by omega)).trans s4) | (have s4 := e2)
  first | (have s5 := (f2.2 _ (by omega)).trans s5) | (have s5 := e2)
  have F2 := f2.wide (a := a) (n := 6) (by omega) (by omega)
  refine A.vret d3_clear_5 ?_
  exact k _ ⟨s0, s1, s2, s3, s4, s5⟩ F2
set_option maxRecDepth 100000 in
set_option maxHeartbeats 4000000 in
theorem s3_addNode {d : Nat} {h : AH} {R : RP} {kd : Int} {a : Nat} {S : SC} (hS : scAt h a S) (hI : scI S) (k : ∀ h', scAt h' a (cAddNode S kd) → Fr h h' a 6 → R none h') : AM m3_addNode (d) h [vR a, vI kd] R := by
  refine AM.of (L := [some (vR a), some (vI kd)]) ok_3_addNode (by decide) (fun G => Nat.le_of_ble_eq_true rfl) rfl ?_
  obtain ⟨s0, s1, s2, s3, s4, s5⟩ := hS
  have hI1 := hI.1
  have hI2 := hI.2.1
  refine A.al2_0 d3_addNode_0 ?_
  refine A.getf d3_addNode_1 ?_ (hc := s0)
  refine A.bipush d3_addNode_4 ?_
  refine A.ic_ge d3_addNode_6 (fun c6 => ?_) (fun c6 => ?_)
  · refine A.vret d3_addNode_49 ?_
    first | exact k _ (by unfold cAddNode; rw [if_pos (by omega)]; exact ⟨s0, s1, s2, s3, s4, s5⟩) None | exact k _ (by unfold cAddNode; rw [if_neg (by omega)]; exact ⟨s0, s1, s2, s3, s4, s5⟩) Fr.rfl
  · refine A.al2_0 d3_addNode_9 ?_
    refine A.getf d3_addNode_10 ?_ (hc := s0)
    refine A.al2_0 d3_addNode_13 ?_
    refine A.getf d3_addNode_14 ?_ (hc := s0)
    refine A.il2_1 d3_addNode_17 ?_
    refine A.iast d3_addNode_18 (fun h18 e18 f18 => ?_) (hc := s1)
    first | (have s0 := (f18.2 _ (by omega)).trans s0) | (have s0 := e18)
    first | (have s1 := (f18.2 _ (by omega)).trans s1) | (have s1 := e18)
    first | (have s2 := (f18.2 _ (by omega)).trans s2) | (have s2 := e18)
    first | (have s3 := (f18.2 _ (by omega)).trans s3) | (have s3 := e18)
    first | (have s4 := (f18.2 _ (by omega)).trans s4) | (have s4 := e18)
    first | (have s5 := (f18.2 _ (by omega)).trans s5) | (have s5 := e18)
    have F18 := f18.wide (a := a) (n := 6) (by omega) (by omega)
    refine A.al2_0 d3_addNode_19 ?_
    refine A.getf d3_addNode_20 ?_ (hc := s0)
    refine A.al2_0 d3_addNode_23 ?_
    refine A.getf d3_addNode_24 ?_ (hc := s0)
    refine A.iconst d3_addNode_27 ?_
    refine A.iast d3_addNode_28 (fun h28 e28 f28 => ?_) (hc := s2)
    first | (have s0 := (f28.2 _ (by omega)).trans s0) | (have s0 := e28)
    first | (have s1 := (f28.2 _ (by omega)).trans s1) | (have s1 := e28)
    first | (have s2 := (f28.2 _ (by omega)).trans s2) | (have s2 := e28)
    first | (have s3 := (f28.2 _ (by omega)).trans s3) | (have s3 := e28)
    first | (have s4 := (f28.2 _ (by omega)).trans s4) | (have s4 := e28)
    first | (have s5 := (f28.2 _ (by omega)).trans s5) | (have s5 := e28)
    have F28 := F18.then f28 (by omega) (by omega)
    refine A.al2_0 d3_addNode_29 ?_
    refine A.getf d3_addNode_30 ?_ (hc := s0)
    refine A.al2_0 d3_addNode_33 ?_
    refine A.getf d3_addNode_34 ?_ (hc := s0)
    refine A.iconst d3_addNode_37 ?_
    refine A.iast d3_addNode_38 (fun h38 e38 f38 => ?_) (hc := s4)
    first | (have s0 := (f38.2 _ (by omega)).trans s0) | (have s0 := e38)
    first | (have s1 := (f38.2 _ (by omega)).trans s1) | (have s1 := e38)
    first | (have s2 := (f38.2 _ (by omega)).trans s2) | (have s2 := e38)
    first | (have s3 := (f38.2 _ (by omega)).trans s3) | (have s3 := e38)
    first | (have s4 := (f38.2 _ (by omega)).trans s4) | (have s4 := e38)
    first | (have s5 := (f38.2 _ (by omega)).trans s5) | (have s5 := e38)
    have F38 := F28.then f38 (by omega) (by omega)
    refine A.al2_0 d3_addNode_39 ?_
    refine A.dup d3_addNode_40 ?_
    refine A.getf d3_addNode_41 ?_ (hc := s0)
    refine A.iconst d3_addNode_44 ?_
    refine A.iadd d3_addNode_45 ?_
    refine A.putf d3_addNode_46 (fun h46 e46 f46 => ?_) (hc := s0) (hk := blt_ok rfl)
    first | (have s0 := (f46.2 _ (by omega)).trans s0) | (have s0 := e46)
    first | (have s1 := (f46.2 _ (by omega)).trans s1) | (have s1 := e46)
    first | (have s2 := (f46.2 _ (by omega)).trans s2) | (have s2 := e46)
    first | (have s3 := (f46.2 _ (by omega)).trans s3) | (have s3 := e46)
    first | (have s4 := (f46.2 _ (by omega)).trans s4) | (have s4 := e46)
    first | (have s5 := (f46.2 _ (by omega)).trans s5) | (have s5 := e46)
    have F46 := F38.then f46 (by omega) (by omega)
    refine A.vret d3_addNode_49 ?_
    first | exact k _ (by unfold cAddNode; rw [if_pos (by omega)]; exact ⟨s0, s1, s2, s3, s4, s5⟩) F46 | exact k _ (by unfold cAddNode; rw [if_neg (by omega)]; exact ⟨s0, s1, s2, s3, s4, s5⟩) Fr.rfl
set_option maxRecDepth 100000 in
set_option maxHeartbeats 4000000 in
theorem s3_addNumber {d : Nat} {h : AH} {R : RP} {v : Int} {a : Nat} {S : SC} (hS : scAt h a S) (hI : scI S) (k : ∀ h', scAt h' a (cAddNum S v) → Fr h h' a 6 → R none h') : AM m3_addNumber (d + 1) h [vR a, vI v] R := by
  refine AM.of (L := [some (vR a), some (vI v), none]) ok_3_addNumber (by decide) (fun G => Nat.le_of_ble_eq_true rfl) rfl ?_
  obtain ⟨s0, s1, s2, s3, s4, s5⟩ := hS
  have hI1 := hI.1
  have hI2 := hI.2.1
  have hI3 := hI.2.2 (S.1 - 1)
  refine A.al3_0 d3_addNumber_0 ?_
  refine A.getf d3_addNumber_1 ?_ (hc := s0)
  refine A.iconst d3_addNumber_4 ?_
  refine A.isub d3_addNumber_5 ?_
  refine A.is3_2 d3_addNumber_6 ?_
  refine A.al3_0 d3_addNumber_7 ?_
  refine A.il3_2 d3_addNumber_8 ?_
  refine A.v1 d3_addNumber_9 (s3_has ⟨s0, s1, s2, s3, s4, s5⟩ (kS ?_)) (hc := s0)
  try unfold cHas at *
  refine A.bz_eq d3_addNumber_12 (fun c12 => ?_) (fun c12 => ?_)
  · refine A.vret d3_addNumber_51 ?_
    first | exact k _ (by unfold cAddNum; rw [if_pos (by omega)]; exact ⟨s0, s1, s2, s3, s4, s5⟩) None | exact k _ (by unfold cAddNum; rw [if_neg (by omega)]; exact ⟨s0, s1, s2, s3, s4, s5⟩) Fr.rfl
  · refine A.al3_0 d3_addNumber_15 ?_
    refine A.getf d3_addNumber_16 ?_ (hc := s0)
    refine A.il3_2 d3_addNumber_19 ?_
    refine A.iald d3_addNumber_20 ?_ (hc := s2)
    refine A.iconst d3_addNumber_21 ?_
    refine A.ic_ge d3_addNumber_22 (fun c22 => ?_) (fun c22 => ?_)
    · refine A.vret d3_addNumber_51 ?_
      first | exact k _ (by unfold cAddNum; rw [if_pos (by omega)]; exact ⟨s0, s1, s2, s3, s4, s5⟩) None | exact k _ (by unfold cAddNum; rw [if_neg (by omega)]; exact ⟨s0, s1, s2, s3, s4, s5⟩) Fr.rfl
    · refine A.al3_0 d3_addNumber_25 ?_
      refine A.getf d3_addNumber_26 ?_ (hc := s0)
      refine A.il3_2 d3_addNumber_29 ?_
      refine A.iconst d3_addNumber_30 ?_
      refine A.imul d3_addNumber_31 ?_
      refine A.al3_0 d3_addNumber_32 ?_
      refine A.getf d3_addNumber_33 ?_ (hc := s0)
      refine A.il3_2 d3_addNumber_36 ?_
      refine A.iald d3_addNumber_37 ?_ (hc := s2)
      refine A.iadd d3_addNumber_38 ?_
      refine A.il3_1 d3_addNumber_39 ?_
      refine A.iast d3_addNumber_40 (fun h40 e40 f40 => ?_) (hc := s3)
      first | (have s0 := (f40.2 _ (by omega)).trans s0) | (have s0 := e40)
      first | (have s1 := (f40.2 _ (by omega)).trans s1) | (have s1 := e40)
      first | (have s2 := (f40.2 _ (by omega)).trans s2) | (have s2 := e40)
      first | (have s3 := (f40.2 _ (by omega)).trans s3) | (have s3 := e40)
      first | (have s4 := (f40.2 _ (by omega)).trans s4) | (have s4 := e40)
      first | (have s5 := (f40.2 _ (by omega)).trans s5) | (have s5 := e40)
      have F40 := f40.wide (a := a) (n := 6) (by omega) (by omega)
      refine A.al3_0 d3_addNumber_41 ?_
      refine A.getf d3_addNumber_42 ?_ (hc := s0)
      refine A.il3_2 d3_addNumber_45 ?_
      refine A.dup2 d3_addNumber_46 ?_
      refine A.iald d3_addNumber_47 ?_ (hc := s2)
      refine A.iconst d3_addNumber_48 ?_
      refine A.iadd d3_addNumber_49 ?_
      refine A.iast d3_addNumber_50 (fun h50 e50 f50 => ?_) (hc := s2)
      first | (have s0 := (f50.2 _ (by omega)).trans s0) | (have s0 := e50)
      first | (have s1 := (f50.2 _ (by omega)).trans s1) | (have s1 := e50)
      first | (have s2 := (f50.2 _ (by omega)).trans s2) | (have s2 := e50)
      first | (have s3 := (f50.2 _ (by omega)).trans s3) | (have s3 := e50)
      first | (have s4 := (f50.2 _ (by omega)).trans s4) | (have s4 := e50)
      first | (have s5 := (f50.2 _ (by omega)).trans s5) | (have s5 := e50)
      have F50 := F40.then f50 (by omega) (by omega)
      refine A.vret d3_addNumber_51 ?_
      first | exact k _ (by unfold cAddNum; rw [if_pos (by omega)]; exact ⟨s0, s1, s2, s3, s4, s5⟩) F50 | exact k _ (by unfold cAddNum; rw [if_neg (by omega)]; exact ⟨s0, s1, s2, s3, s4, s5⟩) Fr.rfl
set_option maxRecDepth 100000 in
set_option maxHeartbeats 4000000 in
theorem s3_addOption {d : Nat} {h : AH} {R : RP} {t l f : Int} {a : Nat} {S : SC} (hS : scAt h a S) (hI : scI S) (k : ∀ h', scAt h' a (cAddOpt S t l f) → Fr h h' a 6 → R none h') : AM m3_addOption (d + 1) h [vR a, vI t, vI l, vI f] R := by
  refine AM.of (L := [some (vR a), some (vI t), some (vI l), some (vI f), none, none]) ok_3_addOption (by decide) (fun G => Nat.le_of_ble_eq_true rfl) rfl ?_
  obtain ⟨s0, s1, s2, s3, s4, s5⟩ := hS
  have hI1 := hI.1
  have hI2 := hI.2.1
  have hI3 := hI.2.2 (S.1 - 1)
  refine A.al6_0 d3_addOption_0 ?_
  refine A.getf d3_addOption_1 ?_ (hc := s0)
  refine A.iconst d3_addOption_4 ?_
  refine A.isub d3_addOption_5 ?_
  refine A.is6_4 d3_addOption_6 ?_
  refine A.al6_0 d3_addOption_8 ?_
  refine A.il6_4 d3_addOption_9 ?_
  refine A.v1 d3_addOption_11 (s3_has ⟨s0, s1, s2, s3, s4, s5⟩ (kS ?_)) (hc := s0)
  unfold cHas at *
  refine A.bz_eq d3_addOption_14 (fun c14 => ?_) (fun c14 => ?_)
  · refine A.vret d3_addOption_85 ?_
    first | exact k _ (by unfold cAddOpt; rw [if_pos (by omega)]; exact ⟨s0, s1, s2, s3, s4, s5⟩) None | exact k _ (by unfold cAddOpt; rw [if_neg (by omega)]; exact ⟨s0, s1, s2, s3, s4, s5⟩) Fr.rfl
  · refine A.al6_0 d3_addOption_17 ?_
    refine A.getf d3_addOption_18 ?_ (hc := s0)
    refine A.il6_4 d3_addOption_21 ?_
    refine A.iald d3_addOption_23 ?_ (hc := s4)
    refine A.iconst d3_addOption_24 ?_
    refine A.ic_ge d3_addOption_25 (fun c25 => ?_) (fun c25 => ?_)
    · refine A.vret d3_addOption_85 ?_
      first | exact k _ (by unfold cAddOpt; rw [if_pos (by omega)]; exact ⟨s0, s1, s2, s3, s4, s5⟩) None | exact k _ (by unfold cAddOpt; rw [if_neg (by omega)]; exact ⟨s0, s1, s2, s3, s4, s5⟩) Fr.rfl
    · refine A.il6_4 d3_addOption_28 ?_
      refine A.iconst d3_addOption_30 ?_
      refine A.imul d3_addOption_31 ?_
      refine A.al6_0 d3_addOption_32 ?_
      refine A.getf d3_addOption_33 ?_ (hc := s0)
      refine A.il6_4 d3_addOption_36 ?_
      refine A.iald d3_addOption_38 ?_ (hc := s4)
      refine A.iadd d3_addOption_39 ?_
      refine A.iconst d3_addOption_40 ?_
      refine A.imul d3_addOption_41 ?_
      refine A.is6_5 d3_addOption_42 ?_
      refine A.al6_0 d3_addOption_44 ?_
      refine A.getf d3_addOption_45 ?_ (hc := s0)
      refine A.il6_5 d3_addOption_48 ?_
      refine A.iconst d3_addOption_50 ?_
      refine A.iadd d3_addOption_51 ?_
      refine A.il6_1 d3_addOption_52 ?_
      refine A.iast d3_addOption_53 (fun h53 e53 f53 => ?_) (hc := s5)
      first | (have s0 := (f53.2 _ (by omega)).trans s0) | (have s0 := e53)
      first | (have s1 := (f53.2 _ (by omega)).trans s1) | (have s1 := e53)
      first | (have s2 := (f53.2 _ (by omega)).trans s2) | (have s2 := e53)
      first | (have s3 := (f53.2 _ (by omega)).trans s3) | (have s3 := e53)
      first | (have s4 := (f53.2 _ (by omega)).trans s4) | (have s4 := e53)
      first | (have s5 := (f53.2 _ (by omega)).trans s5) | (have s5 := e53)
      have F53 := f53.wide (a := a) (n := 6) (by omega) (by omega)
      refine A.al6_0 d3_addOption_54 ?_
      refine A.getf d3_addOption_55 ?_ (hc := s0)
      refine A.il6_5 d3_addOption_58 ?_
      refine A.iconst d3_addOption_60 ?_
      refine A.iadd d3_addOption_61 ?_
      refine A.il6_2 d3_addOption_62 ?_
      refine A.iast d3_addOption_63 (fun h63 e63 f63 => ?_) (hc := s5)
      first | (have s0 := (f63.2 _ (by omega)).trans s0) | (have s0 := e63)
      first | (have s1 := (f63.2 _ (by omega)).trans s1) | (have s1 := e63)
      first | (have s2 := (f63.2 _ (by omega)).trans s2) | (have s2 := e63)
      first | (have s3 := (f63.2 _ (by omega)).trans s3) | (have s3 := e63)
      first | (have s4 := (f63.2 _ (by omega)).trans s4) | (have s4 := e63)
      first | (have s5 := (f63.2 _ (by omega)).trans s5) | (have s5 := e63)
      have F63 := F53.then f63 (by omega) (by omega)
      refine A.al6_0 d3_addOption_64 ?_
      refine A.getf d3_addOption_65 ?_ (hc := s0)
      refine A.il6_5 d3_addOption_68 ?_
      refine A.iconst d3_addOption_70 ?_
      refine A.iadd d3_addOption_71 ?_
      refine A.il6_3 d3_addOption_72 ?_
      refine A.iast d3_addOption_73 (fun h73 e73 f73 => ?_) (hc := s5)
      first | (have s0 := (f73.2 _ (by omega)).trans s0) | (have s0 := e73)
      first | (have s1 := (f73.2 _ (by omega)).trans s1) | (have s1 := e73)
      first | (have s2 := (f73.2 _ (by omega)).trans s2) | (have s2 := e73)
      first | (have s3 := (f73.2 _ (by omega)).trans s3) | (have s3 := e73)
      first | (have s4 := (f73.2 _ (by omega)).trans s4) | (have s4 := e73)
      first | (have s5 := (f73.2 _ (by omega)).trans s5) | (have s5 := e73)
      have F73 := F63.then f73 (by omega) (by omega)
      refine A.al6_0 d3_addOption_74 ?_
      refine A.getf d3_addOption_75 ?_ (hc := s0)
      refine A.il6_4 d3_addOption_78 ?_
      refine A.dup2 d3_addOption_80 ?_
      refine A.iald d3_addOption_81 ?_ (hc := s4)
      refine A.iconst d3_addOption_82 ?_
      refine A.iadd d3_addOption_83 ?_
      refine A.iast d3_addOption_84 (fun h84 e84 f84 => ?_) (hc := s4)
      first | (have s0 := (f84.2 _ (by omega)).trans s0) | (have s0 := e84)
      first | (have s1 := (f84.2 _ (by omega)).trans s1) | (have s1 := e84)
      first | (have s2 := (f84.2 _ (by omega)).trans s2) | (have s2 := e84)
      first | (have s3 := (f84.2 _ (by omega)).trans s3) | (have s3 := e84)
      first | (have s4 := (f84.2 _ (by omega)).trans s4) | (have s4 := e84)
      first | (have s5 := (f84.2 _ (by omega)).trans s5) | (have s5 := e84)
      have F84 := F73.then f84 (by omega) (by omega)
      refine A.vret d3_addOption_85 ?_
      first | exact k _ (by unfold cAddOpt; rw [if_pos (by omega)]; exact ⟨s0, s1, s2, s3, s4, s5⟩) F84 | exact k _ (by unfold cAddOpt; rw [if_neg (by omega)]; exact ⟨s0, s1, s2, s3, s4, s5⟩) Fr.rfl
end
section
/-! ===== Arrays.fill; Moment ===== -/
def fillN (v : Int) : Nat → (Int → Int) → (Int → Int)
  | 0, f => f
  | k + 1, f => fset (fillN v k f) k v
theorem fillN_in (v : Int) (f : Int → Int) : ∀ (n : Nat) (j : Int), 0 ≤ j → j < n → fillN v n f j = v := by
  intro n
  induction n with
  | zero => intro j h0 h1; omega
  | succ n ih =>
    intro j h0 h1
    show fset (fillN v n f) n v j = v
    unfold fset
    by_cases e : j = n
    · rw [if_pos e]
    · rw [if_neg e]; exact ih j h0 (by omega)
set_option maxRecDepth 100000 in
set_option maxHeartbeats 4000000 in
theorem s7_fill {d : Nat} {h : AH} {R : RP} {a N : Nat} {f : Int → Int} {v : Int} (c0 : h.2 a = some (kA 0 N f)) (hN : N ≤ 100000) (k : ∀ h', h'.2 a = some (kA 0 N (fillN v N f)) → Fr h h' a 1 → R none h') : AM mJ7_fill (d) h [vR a, vI v] R := by
  refine AM.of (L := [some (vR a), some (vI v), none, none]) ok_J7_fill (by decide) (fun G => Nat.le_of_ble_eq_true rfl) rfl ?_
  have loop : ∀ (n : Nat) (i : Nat) (h1 : AH) (hi : i ≤ N) (c0 : h1.2 a = some (kA 0 N (fillN v i f))) (hF : Fr h h1 a 1) (hn : N - i < n), AW mJ7_fill (d) (mC mJ7_fill, mS mJ7_fill) 5 [some (vR a), some (vI v), some (vI i), some (vI N)] [] h1 R := by
    intro n
    induction n with
    | zero => intro i  h1  hi c0 hF hn; omega
    | succ n ih =>
      intro i  h1  hi c0 hF hn
      refine A.il4_2 dJ7_fill_5 ?_
      refine A.il4_3 dJ7_fill_6 ?_
      refine A.ic_ge dJ7_fill_7 (fun c7 => ?_) (fun c7 => ?_)
      · refine A.vret dJ7_fill_20 ?_
        have e : i = N := by omega
        subst e
        exact k _ c0 hF
      · refine A.al4_0 dJ7_fill_10 ?_
        refine A.il4_2 dJ7_fill_11 ?_
        refine A.il4_1 dJ7_fill_12 ?_
        refine A.iast dJ7_fill_13 (fun h13 e13 f13 => ?_) (hc := c0)
        first | (have c0 := (f13.2 _ (by omega)).trans c0) | (have c0 := e13)
        have F13 := f13.wide (a := a) (n := 1) (by omega) (by omega)
        refine A.ii4_2 dJ7_fill_14 ?_
        refine A.goto dJ7_fill_17 ?_
        exact ih (i + 1) _ (by omega) c0 (hF.then F13 (by omega) (by omega)) (by omega)
  refine A.iconst dJ7_fill_0 ?_
  refine A.is4_2 dJ7_fill_1 ?_
  refine A.al4_0 dJ7_fill_2 ?_
  refine A.alen dJ7_fill_3 ?_ (hc := c0)
  refine A.is4_3 dJ7_fill_4 ?_
  exact loop (N + 1) 0 h (by omega) c0 Fr.rfl (by omega)
/-- a Moment: node, flags, voices, faces -/
abbrev MO : Type := Int × Int × (Int → Int) × (Int → Int)
def moAt (h : AH) (a : Nat) (m : MO) : Prop := h.2 a = some (kO 1 [vI m.1, vI m.2.1, vR (a + 1), vR (a + 2)]) ∧ h.2 (a + 1) = some (kA 0 3 m.2.2.1) ∧ h.2 (a + 2) = some (kA 0 3 m.2.2.2)
theorem moAt.fr {h h' : AH} {a b n : Nat} {m : MO} (s : moAt h a m) (f : Fr h h' b n) (hd : a + 3 ≤ b ∨ b + n ≤ a) : moAt h' a m := by
  obtain ⟨s0, s1, s2⟩ := s
  exact ⟨f.get s0 (by omega), f.get s1 (by omega), f.get s2 (by omega)⟩
def hideF (v : Int) : Nat → (Int → Int) × (Int → Int) → (Int → Int) × (Int → Int)
  | 0, m => m
  | k + 1, m => if (hideF v k m).1 k = v then (fset (hideF v k m).1 k (-11), fset (hideF v k m).2 k (-11)) else hideF v k m
def hideM (m : MO) (v : Int) : MO := (m.1, m.2.1, hideF v 3 m.2.2)
def putM (m : MO) (p v f : Int) : MO := if 0 ≤ p ∧ p < 3 then (m.1, m.2.1, fset (hideM m v).2.2.1 p v, fset (hideM m v).2.2.2 p f) else hideM m v
def emptyM (m : MO) : MO := (0, 0, fillN (-11) 3 m.2.2.1, fillN (-11) 3 m.2.2.2)
noncomputable def cDo (S : SC) (m : MO) (v : Int) : MO × Int :=
  if cKind S v = 1 then (putM m (cNum S v 1) (cNum S v 0) (cNum S v 2), v + 1)
  else if cKind S v = 2 then (hideM m (cNum S v 0), v + 1)
  else if cKind S v = 3 then ((m.1, (if cNum S v 1 = 1 then bOr m.2.1 (bShl 1 (cNum S v 0)) else bAnd m.2.1 (bXor (bShl 1 (cNum S v 0)) (-1))), m.2.2), v + 1)
  else if cKind S v = 4 then (m, cNum S v 0)
  else if cKind S v = 5 then (m, pif (fon m.2.1 (cNum S v 0)) (cNum S v 1) (v + 1))
  else (m, v + 1)
noncomputable def cIt (S : SC) : Nat → MO × Int → MO × Int
  | 0, x => x
  | k + 1, x => pif (cShown S x.2) x (cIt S k (cDo S x.1 x.2))
noncomputable def cCome (S : SC) (m : MO) (v : Int) : MO := (pif (cShown S (cIt S 60 (m, v)).2) (cIt S 60 (m, v)).2 30, (cIt S 60 (m, v)).1.2)
set_option maxRecDepth 100000 in
set_option maxHeartbeats 4000000 in
theorem s1_hide {d : Nat} {h : AH} {R : RP} {v : Int} {a : Nat} {m : MO} (hM : moAt h a m) (k : ∀ h', moAt h' a (hideM m v) → Fr h h' a 3 → R none h') : AM m1_hide (d) h [vR a, vI v] R := by
  refine AM.of (L := [some (vR a), some (vI v), none]) ok_1_hide (by decide) (fun G => Nat.le_of_ble_eq_true rfl) rfl ?_
  have loop : ∀ (n : Nat) (i : Nat) (h1 : AH) (hi : i ≤ 3) (hM : moAt h1 a (m.1, m.2.1, hideF v i m.2.2)) (hF : Fr h h1 a 3) (hn : 3 - i < n), AW m1_hide (d) (mC m1_hide, mS m1_hide) 2 [some (vR a), some (vI v), some (vI i)] [] h1 R := by
    intro n
    induction n with
    | zero => intro i  h1  hi hM hF hn; omega
    | succ n ih =>
      intro i  h1  hi hM hF hn
      obtain ⟨m0, m1, m2⟩ := hM
      refine A.il3_2 d1_hide_2 ?_
      refine A.iconst d1_hide_3 ?_
      refine A.ic_ge d1_hide_4 (fun c4 => ?_) (fun c4 => ?_)
      · refine A.vret d1_hide_39 ?_
        have e : i = 3 := by omega
        subst e
        exact k _ ⟨m0, m1, m2⟩ hF
      · refine A.al3_0 d1_hide_7 ?_
        refine A.getf d1_hide_8 ?_ (hc := m0)
        refine A.il3_2 d1_hide_11 ?_
        refine A.iald d1_hide_12 ?_ (hc := m1)
        refine A.il3_1 d1_hide_13 ?_
        refine A.ic_ne d1_hide_14 (fun c14 => ?_) (fun c14 => ?_)
        · refine A.ii3_2 d1_hide_33 ?_
          refine A.goto d1_hide_36 ?_
          exact ih (i + 1) _ (by omega) (by first | (rw [show hideF v (i + 1) m.2.2 = _ from if_pos c14]; exact ⟨m0, m1, m2⟩) | (rw [show hideF v (i + 1) m.2.2 = _ from if_neg c14]; exact ⟨m0, m1, m2⟩)) (by first | exact hF.then None (by omega) (by omega) | exact hF) (by omega)
        · refine A.al3_0 d1_hide_17 ?_
          refine A.getf d1_hide_18 ?_ (hc := m0)
          refine A.il3_2 d1_hide_21 ?_
          refine A.bipush d1_hide_22 ?_
          refine A.iast d1_hide_24 (fun h24 e24 f24 => ?_) (hc := m1)
          first | (have m0 := (f24.2 _ (by omega)).trans m0) | (have m0 := e24)
          first | (have m1 := (f24.2 _ (by omega)).trans m1) | (have m1 := e24)
          first | (have m2 := (f24.2 _ (by omega)).trans m2) | (have m2 := e24)
          have F24 := f24.wide (a := a) (n := 3) (by omega) (by omega)
          refine A.al3_0 d1_hide_25 ?_
          refine A.getf d1_hide_26 ?_ (hc := m0)
          refine A.il3_2 d1_hide_29 ?_
          refine A.bipush d1_hide_30 ?_
          refine A.iast d1_hide_32 (fun h32 e32 f32 => ?_) (hc := m2)
          first | (have m0 := (f32.2 _ (by omega)).trans m0) | (have m0 := e32)
          first | (have m1 := (f32.2 _ (by omega)).trans m1) | (have m1 := e32)
          first | (have m2 := (f32.2 _ (by omega)).trans m2) | (have m2 := e32)
          have F32 := F24.then f32 (by omega) (by omega)
          refine A.ii3_2 d1_hide_33 ?_
          refine A.goto d1_hide_36 ?_
          exact ih (i + 1) _ (by omega) (by first | (rw [show hideF v (i + 1) m.2.2 = _ from if_pos c14]; exact ⟨m0, m1, m2⟩) | (rw [show hideF v (i + 1) m.2.2 = _ from if_neg c14]; exact ⟨m0, m1, m2⟩)) (by first | exact hF.then F32 (by omega) (by omega) | exact hF) (by omega)
  refine A.iconst d1_hide_0 ?_
  refine A.is3_2 d1_hide_1 ?_
  exact loop 4 0 h (by omega) hM Fr.rfl (by omega)
set_option maxRecDepth 100000 in
set_option maxHeartbeats 4000000 in
theorem s1_putAt {d : Nat} {h : AH} {R : RP} {p v f : Int} {a : Nat} {m : MO} (hM : moAt h a m) (k : ∀ h', moAt h' a (putM m p v f) → Fr h h' a 3 → R none h') : AM m1_putAt (d + 1) h [vR a, vI p, vI v, vI f] R := by
  refine AM.of (L := [some (vR a), some (vI p), some (vI v), some (vI f)]) ok_1_putAt (by decide) (fun G => Nat.le_of_ble_eq_true rfl) rfl ?_
  refine A.al4_0 d1_putAt_0 ?_
  refine A.il4_2 d1_putAt_1 ?_
  refine A.v1 d1_putAt_2 (s1_hide hM (fun h2 hM2 F2 => kN ?_)) (hc := hM.1)
  obtain ⟨m0, m1, m2⟩ := hM2
  refine A.il4_1 d1_putAt_5 ?_
  refine A.if_lt d1_putAt_6 (fun c6 => ?_) (fun c6 => ?_)
  · refine A.vret d1_putAt_28 ?_
    first | exact k _ (by unfold putM; rw [if_pos (by omega)]; exact ⟨m0, m1, m2⟩) (F2.then None (by omega) (by omega)) | exact k _ (by unfold putM; rw [if_neg (by omega)]; exact ⟨m0, m1, m2⟩) F2
  · refine A.il4_1 d1_putAt_9 ?_
    refine A.iconst d1_putAt_10 ?_
    refine A.ic_ge d1_putAt_11 (fun c11 => ?_) (fun c11 => ?_)
    · refine A.vret d1_putAt_28 ?_
      first | exact k _ (by unfold putM; rw [if_pos (by omega)]; exact ⟨m0, m1, m2⟩) (F2.then None (by omega) (by omega)) | exact k _ (by unfold putM; rw [if_neg (by omega)]; exact ⟨m0, m1, m2⟩) F2
    · refine A.al4_0 d1_putAt_14 ?_
      refine A.getf d1_putAt_15 ?_ (hc := m0)
      refine A.il4_1 d1_putAt_18 ?_
      refine A.il4_2 d1_putAt_19 ?_
      refine A.iast d1_putAt_20 (fun h20 e20 f20 => ?_) (hc := m1)
      first | (have m0 := (f20.2 _ (by omega)).trans m0) | (have m0 := e20)
      first | (have m1 := (f20.2 _ (by omega)).trans m1) | (have m1 := e20)
      first | (have m2 := (f20.2 _ (by omega)).trans m2) | (have m2 := e20)
      have F20 := f20.wide (a := a) (n := 3) (by omega) (by omega)
      refine A.al4_0 d1_putAt_21 ?_
      refine A.getf d1_putAt_22 ?_ (hc := m0)
      refine A.il4_1 d1_putAt_25 ?_
      refine A.il4_3 d1_putAt_26 ?_
      refine A.iast d1_putAt_27 (fun h27 e27 f27 => ?_) (hc := m2)
      first | (have m0 := (f27.2 _ (by omega)).trans m0) | (have m0 := e27)
      first | (have m1 := (f27.2 _ (by omega)).trans m1) | (have m1 := e27)
      first | (have m2 := (f27.2 _ (by omega)).trans m2) | (have m2 := e27)
      have F27 := F20.then f27 (by omega) (by omega)
      refine A.vret d1_putAt_28 ?_
      first | exact k _ (by unfold putM; rw [if_pos (by omega)]; exact ⟨m0, m1, m2⟩) (F2.then F27 (by omega) (by omega)) | exact k _ (by unfold putM; rw [if_neg (by omega)]; exact ⟨m0, m1, m2⟩) F2
set_option maxRecDepth 100000 in
set_option maxHeartbeats 4000000 in
theorem s1_makeEmpty {d : Nat} {h : AH} {R : RP} {a : Nat} {m : MO} (hM : moAt h a m) (k : ∀ h', moAt h' a (emptyM m) → Fr h h' a 3 → R none h') : AM m1_makeEmpty (d + 1) h [vR a] R := by
  refine AM.of (L := [some (vR a)]) ok_1_makeEmpty (by decide) (fun G => Nat.le_of_ble_eq_true rfl) rfl ?_
  obtain ⟨m0, m1, m2⟩ := hM
  refine A.al1_0 d1_makeEmpty_0 ?_
  refine A.iconst d1_makeEmpty_1 ?_
  refine A.putf d1_makeEmpty_2 (fun h2 e2 f2 => ?_) (hc := m0) (hk := blt_ok rfl)
  first | (have m0 := (f2.2 _ (by omega)).trans m0) | (have m0 := e2)
  first | (have m1 := (f2.2 _ (by omega)).trans m1) | (have m1 := e2)
  first | (have m2 := (f2.2 _ (by omega)).trans m2) | (have m2 := e2)
  have F2 := f2.wide (a := a) (n := 3) (by omega) (by omega)
  refine A.al1_0 d1_makeEmpty_5 ?_
  refine A.iconst d1_makeEmpty_6 ?_
  refine A.putf d1_makeEmpty_7 (fun h7 e7 f7 => ?_) (hc := m0) (hk := blt_ok rfl)
  first | (have m0 := (f7.2 _ (by omega)).trans m0) | (have m0 := e7)
  first | (have m1 := (f7.2 _ (by omega)).trans m1) | (have m1 := e7)
  first | (have m2 := (f7.2 _ (by omega)).trans m2) | (have m2 := e7)
  have F7 := F2.then f7 (by omega) (by omega)
  refine A.al1_0 d1_makeEmpty_10 ?_
  refine A.getf d1_makeEmpty_11 ?_ (hc := m0)
  refine A.bipush d1_makeEmpty_14 ?_
  refine A.s2 d1_makeEmpty_16 (s7_fill m1 (by omega) (fun h16 e16 f16 => kN ?_))
  first | (have m0 := (f16.2 _ (by omega)).trans m0) | (have m0 := e16) | skip
  first | (have m1 := (f16.2 _ (by omega)).trans m1) | (have m1 := e16) | skip
  first | (have m2 := (f16.2 _ (by omega)).trans m2) | (have m2 := e16) | skip
  have F16 := F7.then f16 (by omega) (by omega)
  refine A.al1_0 d1_makeEmpty_19 ?_
  refine A.getf d1_makeEmpty_20 ?_ (hc := m0)
  refine A.bipush d1_makeEmpty_23 ?_
  refine A.s2 d1_makeEmpty_25 (s7_fill m2 (by omega) (fun h25 e25 f25 => kN ?_))
  first | (have m0 := (f25.2 _ (by omega)).trans m0) | (have m0 := e25) | skip
  first | (have m1 := (f25.2 _ (by omega)).trans m1) | (have m1 := e25) | skip
  first | (have m2 := (f25.2 _ (by omega)).trans m2) | (have m2 := e25) | skip
  have F25 := F16.then f25 (by omega) (by omega)
  refine A.vret d1_makeEmpty_28 ?_
  exact k _ ⟨m0, m1, m2⟩ F25
set_option maxRecDepth 100000 in
set_option maxHeartbeats 4000000 in
theorem s1_makeLike {d : Nat} {h : AH} {R : RP} {a b : Nat} {m m' : MO} (hM : moAt h a m) (hO : moAt h b m') (hd : a + 3 ≤ b ∨ b + 3 ≤ a) (k : ∀ h', moAt h' a m' → Fr h h' a 3 → R none h') : AM m1_makeLike (d + 1) h [vR a, vR b] R := by
  refine AM.of (L := [some (vR a), some (vR b)]) ok_1_makeLike (by decide) (fun G => Nat.le_of_ble_eq_true rfl) rfl ?_
  obtain ⟨m0, m1, m2⟩ := hM
  obtain ⟨o0, o1, o2⟩ := hO
  refine A.al2_0 d1_makeLike_0 ?_
  refine A.al2_1 d1_makeLike_1 ?_
  refine A.getf d1_makeLike_2 ?_ (hc := o0)
  refine A.putf d1_makeLike_5 (fun h5 e5 f5 => ?_) (hc := m0) (hk := blt_ok rfl)
  first | (have m0 := (f5.2 _ (by omega)).trans m0) | (have m0 := e5)
  first | (have m1 := (f5.2 _ (by omega)).trans m1) | (have m1 := e5)
  first | (have m2 := (f5.2 _ (by omega)).trans m2) | (have m2 := e5)
  first | (have o0 := (f5.2 _ (by omega)).trans o0) | (have o0 := e5)
  first | (have o1 := (f5.2 _ (by omega)).trans o1) | (have o1 := e5)
  first | (have o2 := (f5.2 _ (by omega)).trans o2) | (have o2 := e5)
  have F5 := f5.wide (a := a) (n := 3) (by omega) (by omega)
  refine A.al2_0 d1_makeLike_8 ?_
  refine A.al2_1 d1_makeLike_9 ?_
  refine A.getf d1_makeLike_10 ?_ (hc := o0)
  refine A.putf d1_makeLike_13 (fun h13 e13 f13 => ?_) (hc := m0) (hk := blt_ok rfl)
  first | (have m0 := (f13.2 _ (by omega)).trans m0) | (have m0 := e13)
  first | (have m1 := (f13.2 _ (by omega)).trans m1) | (have m1 := e13)
  first | (have m2 := (f13.2 _ (by omega)).trans m2) | (have m2 := e13)
  first | (have o0 := (f13.2 _ (by omega)).trans o0) | (have o0 := e13)
  first | (have o1 := (f13.2 _ (by omega)).trans o1) | (have o1 := e13)
  first | (have o2 := (f13.2 _ (by omega)).trans o2) | (have o2 := e13)
  have F13 := F5.then f13 (by omega) (by omega)
  refine A.al2_1 d1_makeLike_16 ?_
  refine A.getf d1_makeLike_17 ?_ (hc := o0)
  refine A.iconst d1_makeLike_20 ?_
  refine A.al2_0 d1_makeLike_21 ?_
  refine A.getf d1_makeLike_22 ?_ (hc := m0)
  refine A.iconst d1_makeLike_25 ?_
  refine A.iconst d1_makeLike_26 ?_
  refine A.acopy d1_makeLike_27 o1 m1 (fun h27 e27 f27 => ?_) rfl (by omega) (Nat.le_of_ble_eq_true rfl)
  first | (have m0 := (f27.2 _ (by omega)).trans m0) | (have m0 := e27) | skip
  first | (have m1 := (f27.2 _ (by omega)).trans m1) | (have m1 := e27) | skip
  first | (have m2 := (f27.2 _ (by omega)).trans m2) | (have m2 := e27) | skip
  first | (have o0 := (f27.2 _ (by omega)).trans o0) | (have o0 := e27) | skip
  first | (have o1 := (f27.2 _ (by omega)).trans o1) | (have o1 := e27) | skip
  first | (have o2 := (f27.2 _ (by omega)).trans o2) | (have o2 := e27) | skip
  have F27 := F13.then f27 (by omega) (by omega)
  refine A.al2_1 d1_makeLike_30 ?_
  refine A.getf d1_makeLike_31 ?_ (hc := o0)
  refine A.iconst d1_makeLike_34 ?_
  refine A.al2_0 d1_makeLike_35 ?_
  refine A.getf d1_makeLike_36 ?_ (hc := m0)
  refine A.iconst d1_makeLike_39 ?_
  refine A.iconst d1_makeLike_40 ?_
  refine A.acopy d1_makeLike_41 o2 m2 (fun h41 e41 f41 => ?_) rfl (by omega) (Nat.le_of_ble_eq_true rfl)
  first | (have m0 := (f41.2 _ (by omega)).trans m0) | (have m0 := e41) | skip
  first | (have m1 := (f41.2 _ (by omega)).trans m1) | (have m1 := e41) | skip
  first | (have m2 := (f41.2 _ (by omega)).trans m2) | (have m2 := e41) | skip
  first | (have o0 := (f41.2 _ (by omega)).trans o0) | (have o0 := e41) | skip
  first | (have o1 := (f41.2 _ (by omega)).trans o1) | (have o1 := e41) | skip
  first | (have o2 := (f41.2 _ (by omega)).trans o2) | (have o2 := e41) | skip
  have F41 := F27.then f41 (by omega) (by omega)
  refine A.vret d1_makeLike_44 ?_
  exact k _ ⟨m0, m1, m2⟩ F41
end
section
/-! ===== Moment: what nodes do ===== -/
set_option maxRecDepth 100000 in
set_option maxHeartbeats 4000000 in
theorem s1_carryOut {d : Nat} {h : AH} {R : RP} {v : Int} {a b : Nat} {m : MO} {S : SC} (hM : moAt h a m) (hS : scAt h b S) (hd : a + 3 ≤ b ∨ b + 6 ≤ a) (h0 : 0 ≤ v) (h1 : v ≤ 100) (k : ∀ h', moAt h' a (cDo S m v).1 → Fr h h' a 3 → R (some (vI (cDo S m v).2)) h') : AM m1_carryOut (d + 2) h [vR a, vR b, vI v] R := by
  refine AM.of (L := [some (vR a), some (vR b), some (vI v), none, none]) ok_1_carryOut (by decide) (fun G => Nat.le_of_ble_eq_true rfl) rfl ?_
  refine A.al5_1 d1_carryOut_0 ?_
  refine A.il5_2 d1_carryOut_1 ?_
  refine A.iconst d1_carryOut_2 ?_
  refine A.v2 d1_carryOut_3 (s3_numberOf hS (kS ?_)) (hc := hS.1)
  refine A.is5_3 d1_carryOut_6 ?_
  refine A.al5_1 d1_carryOut_7 ?_
  refine A.il5_2 d1_carryOut_8 ?_
  refine A.iconst d1_carryOut_9 ?_
  refine A.v2 d1_carryOut_10 (s3_numberOf hS (kS ?_)) (hc := hS.1)
  refine A.is5_4 d1_carryOut_13 ?_
  refine A.al5_1 d1_carryOut_15 ?_
  refine A.il5_2 d1_carryOut_16 ?_
  refine A.v1 d1_carryOut_17 (s3_kindOf hS (kS ?_)) (hc := hS.1)
  refine A.tsw5 d1_carryOut_20 (fun c20 => ?_) (fun c20 => ?_) (fun c20 => ?_) (fun c20 => ?_) (fun c20 => ?_) (fun c20 => ?_)
  · refine A.al5_0 d1_carryOut_56 ?_
    refine A.il5_4 d1_carryOut_57 ?_
    refine A.il5_3 d1_carryOut_59 ?_
    refine A.al5_1 d1_carryOut_60 ?_
    refine A.il5_2 d1_carryOut_61 ?_
    refine A.iconst d1_carryOut_62 ?_
    refine A.v2 d1_carryOut_63 (s3_numberOf hS (kS ?_)) (hc := hS.1)
    refine A.v3 d1_carryOut_66 (s1_putAt hM (fun h66 hM2 f66 => kN ?_)) (hc := hM.1)
    refine A.il5_2 d1_carryOut_69 ?_
    refine A.iconst d1_carryOut_70 ?_
    refine A.iadd d1_carryOut_71 ?_
    refine A.iret d1_carryOut_72 ?_
    have e : cDo S m v = (putM m (cNum S v 1) (cNum S v 0) (cNum S v 2), v + 1) := by unfold cDo; rw [if_pos (by omega)]
    rw [e] at k
    exact k _ hM2 f66
  · refine A.al5_0 d1_carryOut_73 ?_
    refine A.il5_3 d1_carryOut_74 ?_
    refine A.v1 d1_carryOut_75 (s1_hide hM (fun h75 hM2 f75 => kN ?_)) (hc := hM.1)
    refine A.il5_2 d1_carryOut_78 ?_
    refine A.iconst d1_carryOut_79 ?_
    refine A.iadd d1_carryOut_80 ?_
    refine A.iret d1_carryOut_81 ?_
    have e : cDo S m v = (hideM m (cNum S v 0), v + 1) := by unfold cDo; rw [if_neg (by omega), if_pos (by omega)]
    rw [e] at k
    exact k _ hM2 f75
  · refine A.al5_0 d1_carryOut_82 ?_
    refine A.il5_4 d1_carryOut_83 ?_
    refine A.iconst d1_carryOut_85 ?_
    refine A.ic_ne d1_carryOut_86 (fun c86 => ?_) (fun c86 => ?_)
    · refine A.al5_0 d1_carryOut_100 ?_
      refine A.getf d1_carryOut_101 ?_ (hc := hM.1)
      refine A.iconst d1_carryOut_104 ?_
      refine A.il5_3 d1_carryOut_105 ?_
      refine A.ishl d1_carryOut_106 ?_
      refine A.iconst d1_carryOut_107 ?_
      refine A.ixor d1_carryOut_108 ?_
      refine A.iand d1_carryOut_109 ?_
      refine A.putf d1_carryOut_110 (fun h110 e110 f110 => ?_) (hc := hM.1) (hk := blt_ok rfl)
      refine A.il5_2 d1_carryOut_113 ?_
      refine A.iconst d1_carryOut_114 ?_
      refine A.iadd d1_carryOut_115 ?_
      refine A.iret d1_carryOut_116 ?_
      have e : cDo S m v = ((m.1, (if cNum S v 1 = 1 then bOr m.2.1 (bShl 1 (cNum S v 0)) else bAnd m.2.1 (bXor (bShl 1 (cNum S v 0)) (-1))), m.2.2), v + 1) := by unfold cDo; rw [if_neg (by omega), if_neg (by omega), if_pos (by omega)]
      rw [e] at k
      first | (rw [if_pos c86] at k; exact k _ ⟨e110, f110.get hM.2.1 (by omega), f110.get hM.2.2 (by omega)⟩ (f110.wide (by omega) (by omega))) | (rw [if_neg c86] at k; exact k _ ⟨e110, f110.get hM.2.1 (by omega), f110.get hM.2.2 (by omega)⟩ (f110.wide (by omega) (by omega)))
    · refine A.al5_0 d1_carryOut_89 ?_
      refine A.getf d1_carryOut_90 ?_ (hc := hM.1)
      refine A.iconst d1_carryOut_93 ?_
      refine A.il5_3 d1_carryOut_94 ?_
      refine A.ishl d1_carryOut_95 ?_
      refine A.ior d1_carryOut_96 ?_
      refine A.goto d1_carryOut_97 ?_
      refine A.putf d1_carryOut_110 (fun h110 e110 f110 => ?_) (hc := hM.1) (hk := blt_ok rfl)
      refine A.il5_2 d1_carryOut_113 ?_
      refine A.iconst d1_carryOut_114 ?_
      refine A.iadd d1_carryOut_115 ?_
      refine A.iret d1_carryOut_116 ?_
      have e : cDo S m v = ((m.1, (if cNum S v 1 = 1 then bOr m.2.1 (bShl 1 (cNum S v 0)) else bAnd m.2.1 (bXor (bShl 1 (cNum S v 0)) (-1))), m.2.2), v + 1) := by unfold cDo; rw [if_neg (by omega), if_neg (by omega), if_pos (by omega)]
      rw [e] at k
      first | (rw [if_pos c86] at k; exact k _ ⟨e110, f110.get hM.2.1 (by omega), f110.get hM.2.2 (by omega)⟩ (f110.wide (by omega) (by omega))) | (rw [if_neg c86] at k; exact k _ ⟨e110, f110.get hM.2.1 (by omega), f110.get hM.2.2 (by omega)⟩ (f110.wide (by omega) (by omega)))
  · refine A.il5_3 d1_carryOut_117 ?_
    refine A.iret d1_carryOut_118 ?_
    have e : cDo S m v = (m, cNum S v 0) := by unfold cDo; rw [if_neg (by omega), if_neg (by omega), if_neg (by omega), if_pos (by omega)]
    rw [e] at k
    exact k _ hM Fr.rfl
  · refine A.al5_0 d1_carryOut_119 ?_
    refine A.getf d1_carryOut_120 ?_ (hc := hM.1)
    refine A.il5_3 d1_carryOut_123 ?_
    refine A.ishr d1_carryOut_124 ?_
    refine A.iconst d1_carryOut_125 ?_
    refine A.iand d1_carryOut_126 ?_
    refine A.iconst d1_carryOut_127 ?_
    refine A.ic_ne d1_carryOut_128 (fun c128 => ?_) (fun c128 => ?_)
    · refine A.il5_2 d1_carryOut_136 ?_
      refine A.iconst d1_carryOut_137 ?_
      refine A.iadd d1_carryOut_138 ?_
      refine A.iret d1_carryOut_139 ?_
      have e : cDo S m v = (m, pif (fon m.2.1 (cNum S v 0)) (cNum S v 1) (v + 1)) := by unfold cDo; rw [if_neg (by omega), if_neg (by omega), if_neg (by omega), if_neg (by omega), if_pos (by omega)]
      rw [e] at k
      first | (rw [show pif (fon m.2.1 (cNum S v 0)) (cNum S v 1) (v + 1) = cNum S v 1 from pif_t c128] at k; exact k _ hM Fr.rfl) | (rw [show pif (fon m.2.1 (cNum S v 0)) (cNum S v 1) (v + 1) = v + 1 from pif_f c128] at k; exact k _ hM Fr.rfl)
    · refine A.il5_4 d1_carryOut_131 ?_
      refine A.goto d1_carryOut_133 ?_
      refine A.iret d1_carryOut_139 ?_
      have e : cDo S m v = (m, pif (fon m.2.1 (cNum S v 0)) (cNum S v 1) (v + 1)) := by unfold cDo; rw [if_neg (by omega), if_neg (by omega), if_neg (by omega), if_neg (by omega), if_pos (by omega)]
      rw [e] at k
      first | (rw [show pif (fon m.2.1 (cNum S v 0)) (cNum S v 1) (v + 1) = cNum S v 1 from pif_t c128] at k; exact k _ hM Fr.rfl) | (rw [show pif (fon m.2.1 (cNum S v 0)) (cNum S v 1) (v + 1) = v + 1 from pif_f c128] at k; exact k _ hM Fr.rfl)
  · refine A.il5_2 d1_carryOut_140 ?_
    refine A.iconst d1_carryOut_141 ?_
    refine A.iadd d1_carryOut_142 ?_
    refine A.iret d1_carryOut_143 ?_
    have e : cDo S m v = (m, v + 1) := by unfold cDo; rw [if_neg (by omega), if_neg (by omega), if_neg (by omega), if_neg (by omega), if_neg (by omega)]
    rw [e] at k
    exact k _ hM Fr.rfl
set_option maxRecDepth 100000 in
set_option maxHeartbeats 4000000 in
theorem s1_comeFrom {d : Nat} {h : AH} {R : RP} {v : Int} {a b : Nat} {m : MO} {S : SC} (hM : moAt h a m) (hS : scAt h b S) (hd : a + 3 ≤ b ∨ b + 6 ≤ a) (k : ∀ h', moAt h' a (cCome S m v) → Fr h h' a 3 → R none h') : AM m1_comeFrom (d + 3) h [vR a, vR b, vI v] R := by
  refine AM.of (L := [some (vR a), some (vR b), some (vI v), none, none]) ok_1_comeFrom (by decide) (fun G => Nat.le_of_ble_eq_true rfl) rfl ?_
  have loop : ∀ (n : Nat) (i : Nat) (x : MO × Int) (h1 : AH) (hi : i ≤ 60) (hM : moAt h1 a x.1) (hS : scAt h1 b S) (hF : Fr h h1 a 3) (hx : cIt S 60 (m, v) = cIt S (60 - i) x) (hn : 60 - i < n), AW m1_comeFrom (d + 3) (mC m1_comeFrom, mS m1_comeFrom) 5 [some (vR a), some (vR b), some (vI v), some (vI x.2), some (vI i)] [] h1 R := by
    intro n
    induction n with
    | zero => intro i  x  h1  hi hM hS hF hx hn; omega
    | succ n ih =>
      intro i  x  h1  hi hM hS hF hx hn
      have hfin : cIt S (60 - i) x = x → ∀ (h2 : AH), h2.2 a = some (kO 1 [vI (pif (cShown S x.2) x.2 30), vI x.1.2.1, vR (a + 1), vR (a + 2)]) → Fr h1 h2 a 3 → h2.2 (a + 1) = some (kA 0 3 x.1.2.2.1) → h2.2 (a + 2) = some (kA 0 3 x.1.2.2.2) → R none h2 := by
        intro e h2 q0 q1 q2 q3
        refine k h2 ?_ (hF.then q1 (by omega) (by omega))
        unfold cCome
        rw [hx, e]
        exact ⟨q0, q2, q3⟩
      refine A.il5_4 d1_comeFrom_5 ?_
      refine A.bipush d1_comeFrom_7 ?_
      refine A.ic_ge d1_comeFrom_9 (fun c9 => ?_) (fun c9 => ?_)
      · refine A.al5_0 d1_comeFrom_33 ?_
        refine A.al5_1 d1_comeFrom_34 ?_
        refine A.il5_3 d1_comeFrom_35 ?_
        refine A.v1 d1_comeFrom_36 (s3_isShown hS (kS ?_)) (hc := hS.1)
        refine A.bz_eq d1_comeFrom_39 (fun c39 => ?_) (fun c39 => ?_)
        · refine A.bipush d1_comeFrom_46 ?_
          refine A.putf d1_comeFrom_48 (fun h48 e48 f48 => ?_) (hc := hM.1) (hk := blt_ok rfl)
          refine A.vret d1_comeFrom_51 ?_
          first | exact hfin (by first | (rw [show 60 - i = 0 by omega]; rfl) | (obtain ⟨j, hj⟩ : ∃ j, 60 - i = j + 1 := ⟨60 - i - 1, by omega⟩; rw [hj]; exact pif_t c17)) _ (by first | (rw [pif_t c39]; exact e48) | (rw [pif_f c39]; exact e48)) (f48.wide (by omega) (by omega)) (f48.get hM.2.1 (by omega)) (f48.get hM.2.2 (by omega)) | exact absurd c17 c39
        · refine A.il5_3 d1_comeFrom_42 ?_
          refine A.goto d1_comeFrom_43 ?_
          refine A.putf d1_comeFrom_48 (fun h48 e48 f48 => ?_) (hc := hM.1) (hk := blt_ok rfl)
          refine A.vret d1_comeFrom_51 ?_
          first | exact hfin (by first | (rw [show 60 - i = 0 by omega]; rfl) | (obtain ⟨j, hj⟩ : ∃ j, 60 - i = j + 1 := ⟨60 - i - 1, by omega⟩; rw [hj]; exact pif_t c17)) _ (by first | (rw [pif_t c39]; exact e48) | (rw [pif_f c39]; exact e48)) (f48.wide (by omega) (by omega)) (f48.get hM.2.1 (by omega)) (f48.get hM.2.2 (by omega)) | exact absurd c17 c39
      · refine A.al5_1 d1_comeFrom_12 ?_
        refine A.il5_3 d1_comeFrom_13 ?_
        refine A.v1 d1_comeFrom_14 (s3_isShown hS (kS ?_)) (hc := hS.1)
        refine A.bz_ne d1_comeFrom_17 (fun c17 => ?_) (fun c17 => ?_)
        · refine A.al5_0 d1_comeFrom_33 ?_
          refine A.al5_1 d1_comeFrom_34 ?_
          refine A.il5_3 d1_comeFrom_35 ?_
          refine A.v1 d1_comeFrom_36 (s3_isShown hS (kS ?_)) (hc := hS.1)
          refine A.bz_eq d1_comeFrom_39 (fun c39 => ?_) (fun c39 => ?_)
          · refine A.bipush d1_comeFrom_46 ?_
            refine A.putf d1_comeFrom_48 (fun h48 e48 f48 => ?_) (hc := hM.1) (hk := blt_ok rfl)
            refine A.vret d1_comeFrom_51 ?_
            first | exact hfin (by first | (rw [show 60 - i = 0 by omega]; rfl) | (obtain ⟨j, hj⟩ : ∃ j, 60 - i = j + 1 := ⟨60 - i - 1, by omega⟩; rw [hj]; exact pif_t c17)) _ (by first | (rw [pif_t c39]; exact e48) | (rw [pif_f c39]; exact e48)) (f48.wide (by omega) (by omega)) (f48.get hM.2.1 (by omega)) (f48.get hM.2.2 (by omega)) | exact absurd c17 c39
          · refine A.il5_3 d1_comeFrom_42 ?_
            refine A.goto d1_comeFrom_43 ?_
            refine A.putf d1_comeFrom_48 (fun h48 e48 f48 => ?_) (hc := hM.1) (hk := blt_ok rfl)
            refine A.vret d1_comeFrom_51 ?_
            first | exact hfin (by first | (rw [show 60 - i = 0 by omega]; rfl) | (obtain ⟨j, hj⟩ : ∃ j, 60 - i = j + 1 := ⟨60 - i - 1, by omega⟩; rw [hj]; exact pif_t c17)) _ (by first | (rw [pif_t c39]; exact e48) | (rw [pif_f c39]; exact e48)) (f48.wide (by omega) (by omega)) (f48.get hM.2.1 (by omega)) (f48.get hM.2.2 (by omega)) | exact absurd c17 c39
        · have hb : 0 ≤ x.2 ∧ x.2 < 29 := by
            have q := c17
            unfold cShown cKind at q
            refine Classical.byContradiction fun z => q ?_
            rw [if_neg (by omega)]
            exact Or.inl rfl
          refine A.al5_0 d1_comeFrom_20 ?_
          refine A.al5_1 d1_comeFrom_21 ?_
          refine A.il5_3 d1_comeFrom_22 ?_
          refine A.v2 d1_comeFrom_23 (s1_carryOut hM hS hd hb.1 (by omega) (fun h23 hM2 f23 => kS ?_)) (hc := hM.1)
          refine A.is5_3 d1_comeFrom_26 ?_
          refine A.ii5_4 d1_comeFrom_27 ?_
          refine A.goto d1_comeFrom_30 ?_
          refine ih (i + 1) (cDo S x.1 x.2) h23 (by omega) hM2 (hS.fr f23 (by omega)) (hF.then f23 (by omega) (by omega)) ?_ (by omega)
          rw [hx]
          obtain ⟨j, hj⟩ : ∃ j, 60 - i = j + 1 := ⟨60 - i - 1, by omega⟩
          rw [hj, show 60 - (i + 1) = j by omega]
          exact pif_f c17
  refine A.il5_2 d1_comeFrom_0 ?_
  refine A.is5_3 d1_comeFrom_1 ?_
  refine A.iconst d1_comeFrom_2 ?_
  refine A.is5_4 d1_comeFrom_3 ?_
  exact loop 61 0 (m, v) h (by omega) hM hS Fr.rfl rfl (by omega)
end
section
/-! ===== Play ===== -/
def mset (M : Int → MO) (i : Int) (m : MO) : Int → MO := fun j => if j = i then m else M j
theorem mset_s (M : Int → MO) (i : Int) (m : MO) : mset M i m i = m := if_pos rfl
theorem mset_n (M : Int → MO) {i j : Int} (m : MO) (h : j ≠ i) : mset M i m j = M j := if_neg h
/-- the moments at their addresses, apart -/
def fam (h : AH) (p : Nat) (ad : Int → Nat) (M : Int → MO) : Prop := (∀ i : Int, 0 ≤ i → i < 20 → p + 5 ≤ ad i ∧ ad i + 3 ≤ p + 65 ∧ moAt h (ad i) (M i)) ∧ ∀ i j : Int, 0 ≤ i → i < 20 → 0 ≤ j → j < 20 → i ≠ j → ad i + 3 ≤ ad j ∨ ad j + 3 ≤ ad i
theorem fam.fr {h h' : AH} {p b n : Nat} {ad : Int → Nat} {M : Int → MO} (s : fam h p ad M) (f : Fr h h' b n) (hd : b + n ≤ p + 5 ∨ p + 65 ≤ b) : fam h' p ad M :=
  ⟨fun i h0 h1 => by obtain ⟨q1, q2, q3⟩ := s.1 i h0 h1; exact ⟨q1, q2, q3.fr f (by omega)⟩, s.2⟩
theorem fam.put {h h' : AH} {p : Nat} {ad : Int → Nat} {M : Int → MO} {i : Int} {m : MO} (s : fam h p ad M) (h0 : 0 ≤ i) (h1 : i < 20) (f : Fr h h' (ad i) 3) (hm : moAt h' (ad i) m) : fam h' p ad (mset M i m) :=
  ⟨fun j j0 j1 => by
    obtain ⟨q1, q2, q3⟩ := s.1 j j0 j1
    by_cases e : j = i
    · subst e
      rw [mset_s]
      exact ⟨q1, q2, hm⟩
    · rw [mset_n M m e]
      exact ⟨q1, q2, q3.fr f (by have := s.2 i j h0 h1 j0 j1 (fun z => e z.symm); omega)⟩, s.2⟩
def sav (h : AH) (p : Nat) (V : Int → MO) : Prop := ∀ j : Int, 0 ≤ j → j < 3 → moAt h (p + 65 + 3 * j.toNat) (V j)
theorem sav.fr {h h' : AH} {p b n : Nat} {V : Int → MO} (s : sav h p V) (f : Fr h h' b n) (hd : b + n ≤ p + 65 ∨ p + 74 ≤ b) : sav h' p V := fun j h0 h1 => (s j h0 h1).fr f (by omega)
theorem sav.put {h h' : AH} {p : Nat} {V : Int → MO} {i : Int} {m : MO} (s : sav h p V) (h0 : 0 ≤ i) (h1 : i < 3) (f : Fr h h' (p + 65 + 3 * i.toNat) 3) (hm : moAt h' (p + 65 + 3 * i.toNat) m) : sav h' p (mset V i m) := fun j j0 j1 => by
  by_cases e : j = i
  · subst e
    rw [mset_s]
    exact hm
  · rw [mset_n V m e]
    exact (s j j0 j1).fr f (by omega)
/-- a Play: kept, present, the moments' addresses, the moments, which are saved, which are seen, what is saved -/
abbrev PL : Type := Int × Int × (Int → Nat) × (Int → MO) × (Int → Int) × (Int → Int) × (Int → MO)
def plAt (h : AH) (p : Nat) (P : PL) : Prop := ∃ (g sg : Int → Option Nat), h.2 p = some (kO 2 [vR (p + 1), vI P.1, vI P.2.1, vR (p + 2), vR (p + 3), vR (p + 4)]) ∧ h.2 (p + 1) = some (kQ 20 g) ∧ h.2 (p + 2) = some (kQ 3 sg) ∧ h.2 (p + 3) = some (kA 2 3 P.2.2.2.2.1) ∧ h.2 (p + 4) = some (kA 2 31 P.2.2.2.2.2.1) ∧
  (∀ i : Int, 0 ≤ i → i < 20 → g i = some (P.2.2.1 i)) ∧ (∀ j : Int, 0 ≤ j → j < 3 → sg j = some (p + 65 + 3 * j.toNat)) ∧ fam h p P.2.2.1 P.2.2.2.1 ∧ sav h p P.2.2.2.2.2.2
theorem plAt.fr {h h' : AH} {p b n : Nat} {P : PL} (s : plAt h p P) (f : Fr h h' b n) (hd : p + 74 ≤ b ∨ b + n ≤ p) : plAt h' p P := by
  obtain ⟨g, sg, p0, p1, p2, p3, p4, q1, q2, q3, q4⟩ := s
  exact ⟨g, sg, f.get p0 (by omega), f.get p1 (by omega), f.get p2 (by omega), f.get p3 (by omega), f.get p4 (by omega), q1, q2, q3.fr f (by omega), q4.fr f (by omega)⟩
set_option maxRecDepth 100000 in
set_option maxHeartbeats 4000000 in
theorem s2_now {d : Nat} {h : AH} {R : RP} {p a : Nat} {pr : Int} {g : Int → Option Nat} {fs : List AV} (p0 : h.2 p = some (kO 2 fs)) (q1 : fs[0]? = some (vR (p + 1))) (q2 : fs[2]? = some (vI pr)) (p1 : h.2 (p + 1) = some (kQ 20 g)) (hg : g pr = some a) (h0 : 0 ≤ pr) (h1 : pr < 20) (k : R (some (vR a)) h) : AM m2_now (d) h [vR p] R := by
  refine AM.of (L := [some (vR p)]) ok_2_now (by decide) (fun G => Nat.le_of_ble_eq_true rfl) rfl ?_
  refine A.al1_0 d2_now_0 ?_
  refine A.getf d2_now_1 ?_ (hc := p0) (hv := q1)
  refine A.al1_0 d2_now_4 ?_
  refine A.getf d2_now_5 ?_ (hc := p0) (hv := q2)
  refine A.qald d2_now_8 (by assumption) ?_ (hc := p1)
  refine A.aret d2_now_9 ?_
  exact k
set_option maxRecDepth 100000 in
set_option maxHeartbeats 4000000 in
theorem s2_keepOneMoment {d : Nat} {h : AH} {R : RP} {p : Nat} {P : PL} (hP : plAt h p P) (k : ∀ h', plAt h' p (1, 0, P.2.2) → Fr h h' p 74 → R none h') : AM m2_keepOneMoment (d) h [vR p] R := by
  refine AM.of (L := [some (vR p)]) ok_2_keepOneMoment (by decide) (fun G => Nat.le_of_ble_eq_true rfl) rfl ?_
  obtain ⟨g, sg, p0, p1, p2, p3, p4, hg, hsg, hF, hV⟩ := hP
  refine A.al1_0 d2_keepOneMoment_0 ?_
  refine A.iconst d2_keepOneMoment_1 ?_
  refine A.putf d2_keepOneMoment_2 (fun h2 e2 f2 => ?_) (hc := p0) (hk := blt_ok rfl)
  first | (have p0 := (f2.2 _ (by omega)).trans p0) | (have p0 := e2)
  first | (have p1 := (f2.2 _ (by omega)).trans p1) | (have p1 := e2)
  first | (have p2 := (f2.2 _ (by omega)).trans p2) | (have p2 := e2)
  first | (have p3 := (f2.2 _ (by omega)).trans p3) | (have p3 := e2)
  first | (have p4 := (f2.2 _ (by omega)).trans p4) | (have p4 := e2)
  have hF := hF.fr f2 (by omega)
  have hV := hV.fr f2 (by omega)
  have F2 := f2.wide (a := p) (n := 74) (by omega) (by omega)
  refine A.al1_0 d2_keepOneMoment_5 ?_
  refine A.iconst d2_keepOneMoment_6 ?_
  refine A.putf d2_keepOneMoment_7 (fun h7 e7 f7 => ?_) (hc := p0) (hk := blt_ok rfl)
  first | (have p0 := (f7.2 _ (by omega)).trans p0) | (have p0 := e7)
  first | (have p1 := (f7.2 _ (by omega)).trans p1) | (have p1 := e7)
  first | (have p2 := (f7.2 _ (by omega)).trans p2) | (have p2 := e7)
  first | (have p3 := (f7.2 _ (by omega)).trans p3) | (have p3 := e7)
  first | (have p4 := (f7.2 _ (by omega)).trans p4) | (have p4 := e7)
  have hF := hF.fr f7 (by omega)
  have hV := hV.fr f7 (by omega)
  have F7 := F2.then f7 (by omega) (by omega)
  refine A.vret d2_keepOneMoment_10 ?_
  exact k _ ⟨g, sg, p0, p1, p2, p3, p4, hg, hsg, hF, hV⟩ F7
set_option maxRecDepth 100000 in
set_option maxHeartbeats 4000000 in
theorem s2_turnBack {d : Nat} {h : AH} {R : RP} {t : Int} {p : Nat} {P : PL} (hP : plAt h p P) (hp0 : 0 ≤ P.2.1) (hp1 : P.2.1 < 20) (k : ∀ h', plAt h' p (pif (0 ≤ t ∧ t ≤ P.2.1) (P.1, P.2.1 - t, P.2.2) P) → Fr h h' p 74 → R (some (vI (bi (0 ≤ t ∧ t ≤ P.2.1)))) h') : AM m2_turnBack (d) h [vR p, vI t] R := by
  refine AM.of (L := [some (vR p), some (vI t)]) ok_2_turnBack (by decide) (fun G => Nat.le_of_ble_eq_true rfl) rfl ?_
  obtain ⟨g, sg, p0, p1, p2, p3, p4, hg, hsg, hF, hV⟩ := hP
  refine A.il2_1 d2_turnBack_0 ?_
  refine A.if_lt d2_turnBack_1 (fun c1 => ?_) (fun c1 => ?_)
  · refine A.iconst d2_turnBack_12 ?_
    refine A.zret d2_turnBack_13 ?_
    exact rF (k _ (by rw [pif_f (by omega)]; exact ⟨g, sg, p0, p1, p2, p3, p4, hg, hsg, hF, hV⟩) Fr.rfl) (by omega)
  · refine A.il2_1 d2_turnBack_4 ?_
    refine A.al2_0 d2_turnBack_5 ?_
    refine A.getf d2_turnBack_6 ?_ (hc := p0)
    refine A.ic_le d2_turnBack_9 (fun c9 => ?_) (fun c9 => ?_)
    · refine A.al2_0 d2_turnBack_14 ?_
      refine A.dup d2_turnBack_15 ?_
      refine A.getf d2_turnBack_16 ?_ (hc := p0)
      refine A.il2_1 d2_turnBack_19 ?_
      refine A.isub d2_turnBack_20 ?_
      refine A.putf d2_turnBack_21 (fun h21 e21 f21 => ?_) (hc := p0) (hk := blt_ok rfl)
      first | (have p0 := (f21.2 _ (by omega)).trans p0) | (have p0 := e21)
      first | (have p1 := (f21.2 _ (by omega)).trans p1) | (have p1 := e21)
      first | (have p2 := (f21.2 _ (by omega)).trans p2) | (have p2 := e21)
      first | (have p3 := (f21.2 _ (by omega)).trans p3) | (have p3 := e21)
      first | (have p4 := (f21.2 _ (by omega)).trans p4) | (have p4 := e21)
      have hF := hF.fr f21 (by omega)
      have hV := hV.fr f21 (by omega)
      have F21 := f21.wide (a := p) (n := 74) (by omega) (by omega)
      refine A.iconst d2_turnBack_24 ?_
      refine A.zret d2_turnBack_25 ?_
      exact rT (k _ (by rw [pif_t (by omega)]; exact ⟨g, sg, p0, p1, p2, p3, p4, hg, hsg, hF, hV⟩) F21) (by omega)
    · refine A.iconst d2_turnBack_12 ?_
      refine A.zret d2_turnBack_13 ?_
      exact rF (k _ (by rw [pif_f (by omega)]; exact ⟨g, sg, p0, p1, p2, p3, p4, hg, hsg, hF, hV⟩) Fr.rfl) (by omega)
set_option maxRecDepth 100000 in
set_option maxHeartbeats 4000000 in
theorem s2_turnForth {d : Nat} {h : AH} {R : RP} {p : Nat} {P : PL} (hP : plAt h p P) (hp0 : 0 ≤ P.2.1) (hp1 : P.2.1 < 20) (k : ∀ h', plAt h' p (pif (P.2.1 + 1 < P.1) (P.1, P.2.1 + 1, P.2.2) P) → Fr h h' p 74 → R (some (vI (bi (P.2.1 + 1 < P.1)))) h') : AM m2_turnForth (d) h [vR p] R := by
  refine AM.of (L := [some (vR p)]) ok_2_turnForth (by decide) (fun G => Nat.le_of_ble_eq_true rfl) rfl ?_
  obtain ⟨g, sg, p0, p1, p2, p3, p4, hg, hsg, hF, hV⟩ := hP
  refine A.al1_0 d2_turnForth_0 ?_
  refine A.getf d2_turnForth_1 ?_ (hc := p0)
  refine A.iconst d2_turnForth_4 ?_
  refine A.iadd d2_turnForth_5 ?_
  refine A.al1_0 d2_turnForth_6 ?_
  refine A.getf d2_turnForth_7 ?_ (hc := p0)
  refine A.ic_lt d2_turnForth_10 (fun c10 => ?_) (fun c10 => ?_)
  · refine A.al1_0 d2_turnForth_15 ?_
    refine A.dup d2_turnForth_16 ?_
    refine A.getf d2_turnForth_17 ?_ (hc := p0)
    refine A.iconst d2_turnForth_20 ?_
    refine A.iadd d2_turnForth_21 ?_
    refine A.putf d2_turnForth_22 (fun h22 e22 f22 => ?_) (hc := p0) (hk := blt_ok rfl)
    first | (have p0 := (f22.2 _ (by omega)).trans p0) | (have p0 := e22)
    first | (have p1 := (f22.2 _ (by omega)).trans p1) | (have p1 := e22)
    first | (have p2 := (f22.2 _ (by omega)).trans p2) | (have p2 := e22)
    first | (have p3 := (f22.2 _ (by omega)).trans p3) | (have p3 := e22)
    first | (have p4 := (f22.2 _ (by omega)).trans p4) | (have p4 := e22)
    have hF := hF.fr f22 (by omega)
    have hV := hV.fr f22 (by omega)
    have F22 := f22.wide (a := p) (n := 74) (by omega) (by omega)
    refine A.iconst d2_turnForth_25 ?_
    refine A.zret d2_turnForth_26 ?_
    exact rT (k _ (by rw [pif_t (by omega)]; exact ⟨g, sg, p0, p1, p2, p3, p4, hg, hsg, hF, hV⟩) F22) (by omega)
  · refine A.iconst d2_turnForth_13 ?_
    refine A.zret d2_turnForth_14 ?_
    exact rF (k _ (by rw [pif_f (by omega)]; exact ⟨g, sg, p0, p1, p2, p3, p4, hg, hsg, hF, hV⟩) Fr.rfl) (by omega)
def seeP (P : PL) (v : Int) : PL := if 0 ≤ v ∧ v < 31 then (P.1, P.2.1, P.2.2.1, P.2.2.2.1, P.2.2.2.2.1, fset P.2.2.2.2.2.1 v 1, P.2.2.2.2.2.2) else P
def seenB (P : PL) (v : Int) : Int := if 0 ≤ v ∧ v < 31 then P.2.2.2.2.2.1 v else 0
set_option maxRecDepth 100000 in
set_option maxHeartbeats 4000000 in
theorem s2_see {d : Nat} {h : AH} {R : RP} {v : Int} {p : Nat} {P : PL} (hP : plAt h p P) (hb : ∀ v, 0 ≤ v → v < 31 → 0 ≤ P.2.2.2.2.2.1 v ∧ P.2.2.2.2.2.1 v ≤ 1) (k : ∀ h', plAt h' p (seeP P v) → Fr h h' p 74 → R (some (vI (seenB P v))) h') : AM m2_see (d) h [vR p, vI v] R := by
  refine AM.of (L := [some (vR p), some (vI v), none]) ok_2_see (by decide) (fun G => Nat.le_of_ble_eq_true rfl) rfl ?_
  obtain ⟨g, sg, p0, p1, p2, p3, p4, hg, hsg, hF, hV⟩ := hP
  refine A.il3_1 d2_see_0 ?_
  refine A.if_lt d2_see_1 (fun c1 => ?_) (fun c1 => ?_)
  · refine A.iconst d2_see_10 ?_
    refine A.zret d2_see_11 ?_
    exact rI (k _ (by unfold seeP; rw [if_neg (by omega)]; exact ⟨g, sg, p0, p1, p2, p3, p4, hg, hsg, hF, hV⟩) Fr.rfl) (by unfold seenB; rw [if_neg (by omega)])
  · refine A.il3_1 d2_see_4 ?_
    refine A.bipush d2_see_5 ?_
    refine A.ic_lt d2_see_7 (fun c7 => ?_) (fun c7 => ?_)
    · refine A.al3_0 d2_see_12 ?_
      refine A.getf d2_see_13 ?_ (hc := p0)
      refine A.il3_1 d2_see_16 ?_
      refine A.bald d2_see_17 ?_ (hc := p4)
      refine A.is3_2 d2_see_18 ?_
      refine A.al3_0 d2_see_19 ?_
      refine A.getf d2_see_20 ?_ (hc := p0)
      refine A.il3_1 d2_see_23 ?_
      refine A.iconst d2_see_24 ?_
      refine A.bast d2_see_25 (fun h25 e25 f25 => ?_) (hc := p4)
      first | (have p0 := (f25.2 _ (by omega)).trans p0) | (have p0 := e25)
      first | (have p1 := (f25.2 _ (by omega)).trans p1) | (have p1 := e25)
      first | (have p2 := (f25.2 _ (by omega)).trans p2) | (have p2 := e25)
      first | (have p3 := (f25.2 _ (by omega)).trans p3) | (have p3 := e25)
      first | (have p4 := (f25.2 _ (by omega)).trans p4) | (have p4 := e25)
      have hF := hF.fr f25 (by omega)
      have hV := hV.fr f25 (by omega)
      have F25 := f25.wide (a := p) (n := 74) (by omega) (by omega)
      refine A.il3_2 d2_see_26 ?_
      refine A.zret d2_see_27 ?_ (hb v (by omega) (by omega))
      exact rI (k _ (by unfold seeP; rw [if_pos (by omega)]; exact ⟨g, sg, p0, p1, p2, p3, p4, hg, hsg, hF, hV⟩) F25) (by unfold seenB; rw [if_pos (by omega)])
    · refine A.iconst d2_see_10 ?_
      refine A.zret d2_see_11 ?_
      exact rI (k _ (by unfold seeP; rw [if_neg (by omega)]; exact ⟨g, sg, p0, p1, p2, p3, p4, hg, hsg, hF, hV⟩) Fr.rfl) (by unfold seenB; rw [if_neg (by omega)])
def cntN (f : Int → Int) : Nat → Int
  | 0 => 0
  | k + 1 => if f k = 0 then cntN f k else cntN f k + 1
theorem cntN_le (f : Int → Int) : ∀ n : Nat, 0 ≤ cntN f n ∧ cntN f n ≤ n := by
  intro n
  induction n with
  | zero => exact ⟨Int.le_refl _, Int.le_refl _⟩
  | succ n ih =>
    show 0 ≤ (if f n = 0 then cntN f n else cntN f n + 1) ∧ (if f n = 0 then cntN f n else cntN f n + 1) ≤ _
    by_cases e : f n = 0
    · rw [if_pos e]; omega
    · rw [if_neg e]; omega
set_option maxRecDepth 100000 in
set_option maxHeartbeats 4000000 in
theorem s2_seenNodes {d : Nat} {h : AH} {R : RP} {p : Nat} {P : PL} (hP : plAt h p P) (k : R (some (vI (cntN P.2.2.2.2.2.1 31))) h) : AM m2_seenNodes (d) h [vR p] R := by
  refine AM.of (L := [some (vR p), none, none]) ok_2_seenNodes (by decide) (fun G => Nat.le_of_ble_eq_true rfl) rfl ?_
  obtain ⟨g, sg, p0, p1, p2, p3, p4, hg, hsg, hF, hV⟩ := hP
  have loop : ∀ (n : Nat) (i : Nat) (hi : i ≤ 31) (hn : 31 - i < n), AW m2_seenNodes (d) (mC m2_seenNodes, mS m2_seenNodes) 4 [some (vR p), some (vI (cntN P.2.2.2.2.2.1 i)), some (vI i)] [] h R := by
    intro n
    induction n with
    | zero => intro i  hi hn; omega
    | succ n ih =>
      intro i  hi hn
      have hcn := cntN_le (P.2.2.2.2.2.1) i
      refine A.il3_2 d2_seenNodes_4 ?_
      refine A.bipush d2_seenNodes_5 ?_
      refine A.ic_ge d2_seenNodes_7 (fun c7 => ?_) (fun c7 => ?_)
      · refine A.il3_1 d2_seenNodes_33 ?_
        refine A.iret d2_seenNodes_34 ?_
        have e : i = 31 := by omega
        subst e
        exact k
      · refine A.il3_1 d2_seenNodes_10 ?_
        refine A.al3_0 d2_seenNodes_11 ?_
        refine A.getf d2_seenNodes_12 ?_ (hc := p0)
        refine A.il3_2 d2_seenNodes_15 ?_
        refine A.bald d2_seenNodes_16 ?_ (hc := p4)
        refine A.if_eq d2_seenNodes_17 (fun c17 => ?_) (fun c17 => ?_)
        · refine A.iconst d2_seenNodes_24 ?_
          refine A.iadd d2_seenNodes_25 ?_
          refine A.is3_1 d2_seenNodes_26 ?_
          refine A.ii3_2 d2_seenNodes_27 ?_
          refine A.goto d2_seenNodes_30 ?_
          have g := ih (i + 1) (by omega) (by omega)
          first | rw [show cntN (P.2.2.2.2.2.1) (i + 1) = cntN (P.2.2.2.2.2.1) i + 1 from if_neg c17] at g | rw [show cntN (P.2.2.2.2.2.1) (i + 1) = cntN (P.2.2.2.2.2.1) i from if_pos c17] at g
          first | exact g | (rw [Int.add_zero]; exact g)
        · refine A.iconst d2_seenNodes_20 ?_
          refine A.goto d2_seenNodes_21 ?_
          refine A.iadd d2_seenNodes_25 ?_
          refine A.is3_1 d2_seenNodes_26 ?_
          refine A.ii3_2 d2_seenNodes_27 ?_
          refine A.goto d2_seenNodes_30 ?_
          have g := ih (i + 1) (by omega) (by omega)
          first | rw [show cntN (P.2.2.2.2.2.1) (i + 1) = cntN (P.2.2.2.2.2.1) i + 1 from if_neg c17] at g | rw [show cntN (P.2.2.2.2.2.1) (i + 1) = cntN (P.2.2.2.2.2.1) i from if_pos c17] at g
          first | exact g | (rw [Int.add_zero]; exact g)
  refine A.iconst d2_seenNodes_0 ?_
  refine A.is3_1 d2_seenNodes_1 ?_
  refine A.iconst d2_seenNodes_2 ?_
  refine A.is3_2 d2_seenNodes_3 ?_
  exact loop 32 0 (by omega) (by omega)
set_option maxRecDepth 100000 in
set_option maxHeartbeats 4000000 in
theorem s2_usedSlots {d : Nat} {h : AH} {R : RP} {p : Nat} {P : PL} (hP : plAt h p P) (k : R (some (vI (cntN P.2.2.2.2.1 3))) h) : AM m2_usedSlots (d) h [vR p] R := by
  refine AM.of (L := [some (vR p), none, none]) ok_2_usedSlots (by decide) (fun G => Nat.le_of_ble_eq_true rfl) rfl ?_
  obtain ⟨g, sg, p0, p1, p2, p3, p4, hg, hsg, hF, hV⟩ := hP
  have loop : ∀ (n : Nat) (i : Nat) (hi : i ≤ 3) (hn : 3 - i < n), AW m2_usedSlots (d) (mC m2_usedSlots, mS m2_usedSlots) 4 [some (vR p), some (vI (cntN P.2.2.2.2.1 i)), some (vI i)] [] h R := by
    intro n
    induction n with
    | zero => intro i  hi hn; omega
    | succ n ih =>
      intro i  hi hn
      have hcn := cntN_le (P.2.2.2.2.1) i
      refine A.il3_2 d2_usedSlots_4 ?_
      refine A.iconst d2_usedSlots_5 ?_
      refine A.ic_ge d2_usedSlots_6 (fun c6 => ?_) (fun c6 => ?_)
      · refine A.il3_1 d2_usedSlots_32 ?_
        refine A.iret d2_usedSlots_33 ?_
        have e : i = 3 := by omega
        subst e
        exact k
      · refine A.il3_1 d2_usedSlots_9 ?_
        refine A.al3_0 d2_usedSlots_10 ?_
        refine A.getf d2_usedSlots_11 ?_ (hc := p0)
        refine A.il3_2 d2_usedSlots_14 ?_
        refine A.bald d2_usedSlots_15 ?_ (hc := p3)
        refine A.if_eq d2_usedSlots_16 (fun c16 => ?_) (fun c16 => ?_)
        · refine A.iconst d2_usedSlots_23 ?_
          refine A.iadd d2_usedSlots_24 ?_
          refine A.is3_1 d2_usedSlots_25 ?_
          refine A.ii3_2 d2_usedSlots_26 ?_
          refine A.goto d2_usedSlots_29 ?_
          have g := ih (i + 1) (by omega) (by omega)
          first | rw [show cntN (P.2.2.2.2.1) (i + 1) = cntN (P.2.2.2.2.1) i + 1 from if_neg c16] at g | rw [show cntN (P.2.2.2.2.1) (i + 1) = cntN (P.2.2.2.2.1) i from if_pos c16] at g
          first | exact g | (rw [Int.add_zero]; exact g)
        · refine A.iconst d2_usedSlots_19 ?_
          refine A.goto d2_usedSlots_20 ?_
          refine A.iadd d2_usedSlots_24 ?_
          refine A.is3_1 d2_usedSlots_25 ?_
          refine A.ii3_2 d2_usedSlots_26 ?_
          refine A.goto d2_usedSlots_29 ?_
          have g := ih (i + 1) (by omega) (by omega)
          first | rw [show cntN (P.2.2.2.2.1) (i + 1) = cntN (P.2.2.2.2.1) i + 1 from if_neg c16] at g | rw [show cntN (P.2.2.2.2.1) (i + 1) = cntN (P.2.2.2.2.1) i from if_pos c16] at g
          first | exact g | (rw [Int.add_zero]; exact g)
  refine A.iconst d2_usedSlots_0 ?_
  refine A.is3_1 d2_usedSlots_1 ?_
  refine A.iconst d2_usedSlots_2 ?_
  refine A.is3_2 d2_usedSlots_3 ?_
  exact loop 4 0 (by omega) (by omega)
end
section
/-! ===== Play: writes ===== -/
theorem mset_ss (M : Int → MO) (i : Int) (a b : MO) : mset (mset M i a) i b = mset M i b := by
  funext j
  unfold mset
  by_cases e : j = i
  · rw [if_pos e, if_pos e]
  · rw [if_neg e, if_neg e, if_neg e]
def shA (ad : Int → Nat) : Int → Nat := fun i => if i < 19 then ad (i + 1) else ad 0
def shM (M : Int → MO) : Int → MO := fun i => if i < 19 then M (i + 1) else M 0
theorem fam.shift {h : AH} {p : Nat} {ad : Int → Nat} {M : Int → MO} (s : fam h p ad M) : fam h p (shA ad) (shM M) := by
  refine ⟨fun i h0 h1 => ?_, fun i j i0 i1 j0 j1 hij => ?_⟩
  · unfold shA shM
    by_cases e : i < 19
    · rw [if_pos e, if_pos e]; exact s.1 (i + 1) (by omega) (by omega)
    · rw [if_neg e, if_neg e]; exact s.1 0 (by omega) (by omega)
  · unfold shA
    by_cases e : i < 19 <;> by_cases e2 : j < 19
    · rw [if_pos e, if_pos e2]; exact s.2 _ _ (by omega) (by omega) (by omega) (by omega) (by omega)
    · rw [if_pos e, if_neg e2]; exact s.2 _ _ (by omega) (by omega) (by omega) (by omega) (by omega)
    · rw [if_neg e, if_pos e2]; exact s.2 _ _ (by omega) (by omega) (by omega) (by omega) (by omega)
    · omega
set_option maxRecDepth 100000 in
set_option maxHeartbeats 4000000 in
theorem s2_forgetEarliest {d : Nat} {h : AH} {R : RP} {p : Nat} {P : PL} (hP : plAt h p P) (k : ∀ h', plAt h' p (P.1, P.2.1, shA P.2.2.1, shM P.2.2.2.1, P.2.2.2.2) → Fr h h' p 74 → R none h') : AM m2_forgetEarliest (d) h [vR p] R := by
  refine AM.of (L := [some (vR p), none, none]) ok_2_forgetEarliest (by decide) (fun G => Nat.le_of_ble_eq_true rfl) rfl ?_
  obtain ⟨g, sg, p0, p1, p2, p3, p4, hg, hsg, hF, hV⟩ := hP
  have loop : ∀ (n : Nat) (i : Nat) (h1 : AH) (g : Int → Option Nat) (hi : 1 ≤ i ∧ i ≤ 20) (p0 : h1.2 p = some (kO 2 [vR (p + 1), vI P.1, vI P.2.1, vR (p + 2), vR (p + 3), vR (p + 4)])) (p1 : h1.2 (p + 1) = some (kQ 20 g)) (p2 : h1.2 (p + 2) = some (kQ 3 sg)) (p3 : h1.2 (p + 3) = some (kA 2 3 P.2.2.2.2.1)) (p4 : h1.2 (p + 4) = some (kA 2 31 P.2.2.2.2.2.1)) (hg : ∀ j : Int, 0 ≤ j → j < 20 → g j = some (if j < i - 1 then P.2.2.1 (j + 1) else P.2.2.1 j)) (hF : fam h1 p P.2.2.1 P.2.2.2.1) (hV : sav h1 p P.2.2.2.2.2.2) (hFr : Fr h h1 p 74) (hn : 20 - i < n), AW m2_forgetEarliest (d) (mC m2_forgetEarliest, mS m2_forgetEarliest) 9 [some (vR p), some (vR (P.2.2.1 0)), some (vI i)] [] h1 R := by
    intro n
    induction n with
    | zero => intro i  h1  g  hi p0 p1 p2 p3 p4 hg hF hV hFr hn; omega
    | succ n ih =>
      intro i  h1  g  hi p0 p1 p2 p3 p4 hg hF hV hFr hn
      refine A.il3_2 d2_forgetEarliest_9 ?_
      refine A.bipush d2_forgetEarliest_10 ?_
      refine A.ic_ge d2_forgetEarliest_12 (fun c12 => ?_) (fun c12 => ?_)
      · refine A.al3_0 d2_forgetEarliest_35 ?_
        refine A.getf d2_forgetEarliest_36 ?_ (hc := p0)
        refine A.bipush d2_forgetEarliest_39 ?_
        refine A.al3_1 d2_forgetEarliest_41 ?_
        refine A.qast d2_forgetEarliest_42 (hF.1 0 (by omega) (by omega)).2.2.1 (fun h42 e42 f42 => ?_) (hc := p1)
        first | (have p0 := (f42.2 _ (by omega)).trans p0) | (have p0 := e42)
        first | (have p1 := (f42.2 _ (by omega)).trans p1) | (have p1 := e42)
        first | (have p2 := (f42.2 _ (by omega)).trans p2) | (have p2 := e42)
        first | (have p3 := (f42.2 _ (by omega)).trans p3) | (have p3 := e42)
        first | (have p4 := (f42.2 _ (by omega)).trans p4) | (have p4 := e42)
        have hF := hF.fr f42 (by omega)
        have hV := hV.fr f42 (by omega)
        have F42 := f42.wide (a := p) (n := 74) (by omega) (by omega)
        refine A.vret d2_forgetEarliest_43 ?_
        have e : i = 20 := by omega
        subst e
        refine k _ ⟨gset g 19 (some (P.2.2.1 0)), sg, p0, p1, p2, p3, p4, fun j j0 j1 => ?_, hsg, hF.shift, hV⟩ (hFr.then F42 (by omega) (by omega))
        show gset g 19 (some (P.2.2.1 0)) j = some (shA P.2.2.1 j)
        unfold gset shA
        by_cases e : j = 19
        · rw [if_pos e, if_neg (by omega)]
        · rw [if_neg e, if_pos (by omega), hg j j0 j1, if_pos (by omega)]
      · refine A.al3_0 d2_forgetEarliest_15 ?_
        refine A.getf d2_forgetEarliest_16 ?_ (hc := p0)
        refine A.il3_2 d2_forgetEarliest_19 ?_
        refine A.iconst d2_forgetEarliest_20 ?_
        refine A.isub d2_forgetEarliest_21 ?_
        refine A.al3_0 d2_forgetEarliest_22 ?_
        refine A.getf d2_forgetEarliest_23 ?_ (hc := p0)
        refine A.il3_2 d2_forgetEarliest_26 ?_
        refine A.qald d2_forgetEarliest_27 (by rw [hg i (by omega) (by omega), if_neg (by omega)]) ?_ (hc := p1)
        refine A.qast d2_forgetEarliest_28 (hF.1 i (by omega) (by omega)).2.2.1 (fun h28 e28 f28 => ?_) (hc := p1)
        first | (have p0 := (f28.2 _ (by omega)).trans p0) | (have p0 := e28)
        first | (have p1 := (f28.2 _ (by omega)).trans p1) | (have p1 := e28)
        first | (have p2 := (f28.2 _ (by omega)).trans p2) | (have p2 := e28)
        first | (have p3 := (f28.2 _ (by omega)).trans p3) | (have p3 := e28)
        first | (have p4 := (f28.2 _ (by omega)).trans p4) | (have p4 := e28)
        have hF := hF.fr f28 (by omega)
        have hV := hV.fr f28 (by omega)
        have F28 := f28.wide (a := p) (n := 74) (by omega) (by omega)
        refine A.ii3_2 d2_forgetEarliest_29 ?_
        refine A.goto d2_forgetEarliest_32 ?_
        refine ih (i + 1) _ _ (by omega) p0 p1 p2 p3 p4 (fun j j0 j1 => ?_) hF hV (hFr.then F28 (by omega) (by omega)) (by omega)
        unfold gset
        by_cases e : j = i - 1
        · rw [if_pos e, if_pos (by omega), show j + 1 = i by omega]
        · rw [if_neg e, hg j j0 j1]
          by_cases e2 : j < i - 1
          · rw [if_pos e2, if_pos (by omega)]
          · rw [if_neg e2, if_neg (by omega)]
  refine A.al3_0 d2_forgetEarliest_0 ?_
  refine A.getf d2_forgetEarliest_1 ?_ (hc := p0)
  refine A.iconst d2_forgetEarliest_4 ?_
  refine A.qald d2_forgetEarliest_5 (hg 0 (by omega) (by omega)) ?_ (hc := p1)
  refine A.as3_1 d2_forgetEarliest_6 ?_
  refine A.iconst d2_forgetEarliest_7 ?_
  refine A.is3_2 d2_forgetEarliest_8 ?_
  refine loop 20 1 h g (by omega) p0 p1 p2 p3 p4 (fun j j0 j1 => ?_) hF hV Fr.rfl (by omega)
  rw [if_neg (by omega)]
  exact hg j j0 j1
noncomputable def anewP (S : SC) (P : PL) : PL := seeP (1, 0, P.2.2.1, mset P.2.2.2.1 0 (cCome S (emptyM (P.2.2.2.1 0)) 0), P.2.2.2.2) (cCome S (emptyM (P.2.2.2.1 0)) 0).1
set_option maxRecDepth 100000 in
set_option maxHeartbeats 4000000 in
theorem s2_startAnew {d : Nat} {h : AH} {R : RP} {p s : Nat} {P : PL} {S : SC} (hP : plAt h p P) (hS : scAt h s S) (hd : s + 6 ≤ p ∨ p + 74 ≤ s) (hb : ∀ v, 0 ≤ v → v < 31 → 0 ≤ P.2.2.2.2.2.1 v ∧ P.2.2.2.2.2.1 v ≤ 1) (k : ∀ h', plAt h' p (anewP S P) → Fr h h' p 74 → R none h') : AM m2_startAnew (d + 4) h [vR p, vR s] R := by
  refine AM.of (L := [some (vR p), some (vR s)]) ok_2_startAnew (by decide) (fun G => Nat.le_of_ble_eq_true rfl) rfl ?_
  refine A.al2_0 d2_startAnew_0 ?_
  refine A.v0 d2_startAnew_1 (s2_keepOneMoment hP (fun h1 hP1 f1 => kN ?_)) (hc := hP.choose_spec.choose_spec.1)
  obtain ⟨g, sg, p0, p1, p2, p3, p4, hg, hsg, hF, hV⟩ := hP1
  dsimp only at p0 p1 p2 p3 p4 hg hsg hF hV
  have hS := hS.fr f1 (by omega)
  refine A.al2_0 d2_startAnew_4 ?_
  refine A.v0 d2_startAnew_5 (s2_now (pr := 0) (a := P.2.2.1 0) p0 rfl rfl p1 (hg 0 (by omega) (by omega)) (by omega) (by omega) (kS ?_)) (hc := p0)
  refine A.v0 d2_startAnew_8 (s1_makeEmpty (hF.1 0 (by omega) (by omega)).2.2 (fun h8 hm8 f8 => kN ?_)) (hc := (hF.1 0 (by omega) (by omega)).2.2.1)
  have hb8 := hF.1 0 (by omega) (by omega)
  obtain ⟨hx8, hy8, -⟩ := hb8
  have p0 := f8.get p0 (by omega)
  have p1 := f8.get p1 (by omega)
  have p2 := f8.get p2 (by omega)
  have p3 := f8.get p3 (by omega)
  have p4 := f8.get p4 (by omega)
  have hV := hV.fr f8 (by omega)
  have hS := hS.fr f8 (by omega)
  have hF := hF.put (by omega) (by omega) f8 hm8
  refine A.al2_0 d2_startAnew_11 ?_
  refine A.v0 d2_startAnew_12 (s2_now (pr := 0) (a := P.2.2.1 0) p0 rfl rfl p1 (hg 0 (by omega) (by omega)) (by omega) (by omega) (kS ?_)) (hc := p0)
  refine A.al2_1 d2_startAnew_15 ?_
  refine A.iconst d2_startAnew_16 ?_
  refine A.v2 d2_startAnew_17 (s1_comeFrom hm8 hS (by omega) (fun h17 hm17 f17 => kN ?_)) (hc := (hF.1 0 (by omega) (by omega)).2.2.1)
  have hb17 := hF.1 0 (by omega) (by omega)
  obtain ⟨hx17, hy17, -⟩ := hb17
  have p0 := f17.get p0 (by omega)
  have p1 := f17.get p1 (by omega)
  have p2 := f17.get p2 (by omega)
  have p3 := f17.get p3 (by omega)
  have p4 := f17.get p4 (by omega)
  have hV := hV.fr f17 (by omega)
  have hS := hS.fr f17 (by omega)
  have hF := hF.put (by omega) (by omega) f17 hm17
  rw [mset_ss] at hF
  have hP17 : plAt h17 p (1, 0, P.2.2.1, mset P.2.2.2.1 0 (cCome S (emptyM (P.2.2.2.1 0)) 0), P.2.2.2.2) := ⟨g, sg, p0, p1, p2, p3, p4, hg, hsg, hF, hV⟩
  refine A.al2_0 d2_startAnew_20 ?_
  refine A.al2_0 d2_startAnew_21 ?_
  refine A.v0 d2_startAnew_22 (s2_now (pr := 0) (a := P.2.2.1 0) p0 rfl rfl p1 (hg 0 (by omega) (by omega)) (by omega) (by omega) (kS ?_)) (hc := p0)
  refine A.getf d2_startAnew_25 ?_ (hc := hm17.1)
  refine A.v1 d2_startAnew_28 (s2_see hP17 hb (fun h28 hP28 f28 => kS ?_)) (hc := p0)
  refine A.pop d2_startAnew_31 ?_
  refine A.vret d2_startAnew_32 ?_
  exact k _ hP28 (((f1.then f8 (by omega) (by omega)).then f17 (by omega) (by omega)).then f28 (by omega) (by omega))
noncomputable def startP (S : SC) (P : PL) : PL := anewP S (P.1, P.2.1, P.2.2.1, P.2.2.2.1, fillN 0 3 P.2.2.2.2.1, fillN 0 31 P.2.2.2.2.2.1, P.2.2.2.2.2.2)
set_option maxRecDepth 100000 in
set_option maxHeartbeats 4000000 in
theorem s2_startScript {d : Nat} {h : AH} {R : RP} {p s : Nat} {P : PL} {S : SC} (hP : plAt h p P) (hS : scAt h s S) (hd : s + 6 ≤ p ∨ p + 74 ≤ s) (k : ∀ h', plAt h' p (startP S P) → Fr h h' p 74 → R none h') : AM m2_startScript (d + 5) h [vR p, vR s] R := by
  refine AM.of (L := [some (vR p), some (vR s), none]) ok_2_startScript (by decide) (fun G => Nat.le_of_ble_eq_true rfl) rfl ?_
  obtain ⟨g, sg, p0, p1, p2, p3, p4, hg, hsg, hF, hV⟩ := hP
  have loop2 : ∀ (n : Nat) (i : Nat) (h1 : AH) (hi : i ≤ 31) (p0 : h1.2 p = some (kO 2 [vR (p + 1), vI P.1, vI P.2.1, vR (p + 2), vR (p + 3), vR (p + 4)])) (p1 : h1.2 (p + 1) = some (kQ 20 g)) (p2 : h1.2 (p + 2) = some (kQ 3 sg)) (p3 : h1.2 (p + 3) = some (kA 2 3 (fillN 0 3 P.2.2.2.2.1))) (p4 : h1.2 (p + 4) = some (kA 2 31 (fillN 0 i P.2.2.2.2.2.1))) (hF : fam h1 p P.2.2.1 P.2.2.2.1) (hV : sav h1 p P.2.2.2.2.2.2) (hS : scAt h1 s S) (hFr : Fr h h1 p 74) (hn : 31 - i < n), AW m2_startScript (d + 5) (mC m2_startScript, mS m2_startScript) 22 [some (vR p), some (vR s), some (vI i)] [] h1 R := by
    intro n
    induction n with
    | zero => intro i  h1  hi p0 p1 p2 p3 p4 hF hV hS hFr hn; omega
    | succ n ih =>
      intro i  h1  hi p0 p1 p2 p3 p4 hF hV hS hFr hn
      refine A.il3_2 d2_startScript_22 ?_
      refine A.bipush d2_startScript_23 ?_
      refine A.ic_ge d2_startScript_25 (fun c25 => ?_) (fun c25 => ?_)
      · have e : i = 31 := by omega
        subst e
        refine A.al3_0 d2_startScript_41 ?_
        refine A.al3_1 d2_startScript_42 ?_
        refine A.v1 d2_startScript_43 (s2_startAnew (P := (P.1, P.2.1, P.2.2.1, P.2.2.2.1, fillN 0 3 P.2.2.2.2.1, fillN 0 31 P.2.2.2.2.2.1, P.2.2.2.2.2.2)) ⟨g, sg, p0, p1, p2, p3, p4, hg, hsg, hF, hV⟩ hS hd (fun v v0 v1 => by show 0 ≤ fillN 0 31 _ v ∧ fillN 0 31 _ v ≤ 1; rw [fillN_in 0 _ 31 v v0 v1]; omega) (fun h43 hP43 f43 => kN ?_)) (hc := p0)
        refine A.vret d2_startScript_46 ?_
        exact k _ hP43 (hFr.then f43 (by omega) (by omega))
      · refine A.al3_0 d2_startScript_28 ?_
        refine A.getf d2_startScript_29 ?_ (hc := p0)
        refine A.il3_2 d2_startScript_32 ?_
        refine A.iconst d2_startScript_33 ?_
        refine A.bast d2_startScript_34 (fun h34 e34 f34 => ?_) (hc := p4)
        first | (have p0 := (f34.2 _ (by omega)).trans p0) | (have p0 := e34)
        first | (have p1 := (f34.2 _ (by omega)).trans p1) | (have p1 := e34)
        first | (have p2 := (f34.2 _ (by omega)).trans p2) | (have p2 := e34)
        first | (have p3 := (f34.2 _ (by omega)).trans p3) | (have p3 := e34)
        first | (have p4 := (f34.2 _ (by omega)).trans p4) | (have p4 := e34)
        have hF := hF.fr f34 (by omega)
        have hV := hV.fr f34 (by omega)
        have hS := hS.fr f34 (by omega)
        have F34 := f34.wide (a := p) (n := 74) (by omega) (by omega)
        refine A.ii3_2 d2_startScript_35 ?_
        refine A.goto d2_startScript_38 ?_
        exact ih (i + 1) _ (by omega) p0 p1 p2 p3 p4 hF hV hS (hFr.then F34 (by omega) (by omega)) (by omega)
  have loop1 : ∀ (n : Nat) (i : Nat) (h1 : AH) (hi : i ≤ 3) (p0 : h1.2 p = some (kO 2 [vR (p + 1), vI P.1, vI P.2.1, vR (p + 2), vR (p + 3), vR (p + 4)])) (p1 : h1.2 (p + 1) = some (kQ 20 g)) (p2 : h1.2 (p + 2) = some (kQ 3 sg)) (p3 : h1.2 (p + 3) = some (kA 2 3 (fillN 0 i P.2.2.2.2.1))) (p4 : h1.2 (p + 4) = some (kA 2 31 (P.2.2.2.2.2.1))) (hF : fam h1 p P.2.2.1 P.2.2.2.1) (hV : sav h1 p P.2.2.2.2.2.2) (hS : scAt h1 s S) (hFr : Fr h h1 p 74) (hn : 3 - i < n), AW m2_startScript (d + 5) (mC m2_startScript, mS m2_startScript) 2 [some (vR p), some (vR s), some (vI i)] [] h1 R := by
    intro n
    induction n with
    | zero => intro i  h1  hi p0 p1 p2 p3 p4 hF hV hS hFr hn; omega
    | succ n ih =>
      intro i  h1  hi p0 p1 p2 p3 p4 hF hV hS hFr hn
      refine A.il3_2 d2_startScript_2 ?_
      refine A.iconst d2_startScript_3 ?_
      refine A.ic_ge d2_startScript_4 (fun c4 => ?_) (fun c4 => ?_)
      · refine A.iconst d2_startScript_20 ?_
        refine A.is3_2 d2_startScript_21 ?_
        have e : i = 3 := by omega
        subst e
        exact loop2 32 0 h1 (by omega) p0 p1 p2 p3 p4 hF hV hS hFr (by omega)
      · refine A.al3_0 d2_startScript_7 ?_
        refine A.getf d2_startScript_8 ?_ (hc := p0)
        refine A.il3_2 d2_startScript_11 ?_
        refine A.iconst d2_startScript_12 ?_
        refine A.bast d2_startScript_13 (fun h13 e13 f13 => ?_) (hc := p3)
        first | (have p0 := (f13.2 _ (by omega)).trans p0) | (have p0 := e13)
        first | (have p1 := (f13.2 _ (by omega)).trans p1) | (have p1 := e13)
        first | (have p2 := (f13.2 _ (by omega)).trans p2) | (have p2 := e13)
        first | (have p3 := (f13.2 _ (by omega)).trans p3) | (have p3 := e13)
        first | (have p4 := (f13.2 _ (by omega)).trans p4) | (have p4 := e13)
        have hF := hF.fr f13 (by omega)
        have hV := hV.fr f13 (by omega)
        have hS := hS.fr f13 (by omega)
        have F13 := f13.wide (a := p) (n := 74) (by omega) (by omega)
        refine A.ii3_2 d2_startScript_14 ?_
        refine A.goto d2_startScript_17 ?_
        exact ih (i + 1) _ (by omega) p0 p1 p2 p3 p4 hF hV hS (hFr.then F13 (by omega) (by omega)) (by omega)
  refine A.iconst d2_startScript_0 ?_
  refine A.is3_2 d2_startScript_1 ?_
  exact loop1 4 0 h (by omega) p0 p1 p2 p3 p4 hF hV hS Fr.rfl (by omega)
end
section
/-! ===== Play: going on; what is saved ===== -/
noncomputable def goM (S : SC) (P : PL) (v : Int) : MO := cCome S (P.2.2.2.1 P.2.1) v
noncomputable def goP (S : SC) (P : PL) (v : Int) : PL := if P.2.1 + 1 < 20 then seeP (P.2.1 + 1 + 1, P.2.1 + 1, P.2.2.1, mset P.2.2.2.1 (P.2.1 + 1) (goM S P v), P.2.2.2.2) (goM S P v).1
  else seeP (P.2.1 + 1, P.2.1, shA P.2.2.1, mset (shM P.2.2.2.1) P.2.1 (goM S P v), P.2.2.2.2) (goM S P v).1
theorem seenB_rng {P : PL} (hb : ∀ v, 0 ≤ v → v < 31 → 0 ≤ P.2.2.2.2.2.1 v ∧ P.2.2.2.2.2.1 v ≤ 1) (v : Int) : 0 ≤ seenB P v ∧ seenB P v ≤ 1 := by
  unfold seenB
  by_cases e : 0 ≤ v ∧ v < 31
  · rw [if_pos e]; exact hb v e.1 e.2
  · rw [if_neg e]; omega
set_option maxRecDepth 100000 in
set_option maxHeartbeats 4000000 in
theorem s2_goOn {d : Nat} {h : AH} {R : RP} {v : Int} {p s : Nat} {P : PL} {S : SC} (hP : plAt h p P) (hS : scAt h s S) (hd : s + 6 ≤ p ∨ p + 74 ≤ s) (hb : ∀ v, 0 ≤ v → v < 31 → 0 ≤ P.2.2.2.2.2.1 v ∧ P.2.2.2.2.2.1 v ≤ 1) (hp0 : 0 ≤ P.2.1) (hp1 : P.2.1 < 20) (k : ∀ h', plAt h' p (goP S P v) → Fr h h' p 74 → R (some (vI (seenB P (goM S P v).1))) h') : AM m2_goOn (d + 4) h [vR p, vR s, vI v] R := by
  refine AM.of (L := [some (vR p), some (vR s), some (vI v), none]) ok_2_goOn (by decide) (fun G => Nat.le_of_ble_eq_true rfl) rfl ?_
  obtain ⟨g, sg, p0, p1, p2, p3, p4, hg, hsg, hF, hV⟩ := hP
  have hFd := hF.2
  have tail : ∀ (h1 : AH) (j kp : Int) (ad : Int → Nat) (M : Int → MO) (a0 : Nat) (g sg : Int → Option Nat) (j0 : 0 ≤ j) (j1 : j < 20) (p0 : h1.2 p = some (kO 2 [vR (p + 1), vI kp, vI j, vR (p + 2), vR (p + 3), vR (p + 4)])) (p1 : h1.2 (p + 1) = some (kQ 20 g)) (p2 : h1.2 (p + 2) = some (kQ 3 sg)) (p3 : h1.2 (p + 3) = some (kA 2 3 P.2.2.2.2.1)) (p4 : h1.2 (p + 4) = some (kA 2 31 P.2.2.2.2.2.1)) (hg : ∀ i : Int, 0 ≤ i → i < 20 → g i = some (ad i)) (hsg : ∀ i : Int, 0 ≤ i → i < 3 → sg i = some (p + 65 + 3 * i.toNat)) (hF : fam h1 p ad M) (hV : sav h1 p P.2.2.2.2.2.2) (hS : scAt h1 s S) (hO : moAt h1 a0 (P.2.2.2.1 P.2.1)) (hda : ad j + 3 ≤ a0 ∨ a0 + 3 ≤ ad j) (ha0 : p + 5 ≤ a0 ∧ a0 + 3 ≤ p + 65) (hFr : Fr h h1 p 74) (kk : ∀ h', plAt h' p (seeP (j + 1, j, ad, mset M j (goM S P v), P.2.2.2.2) (goM S P v).1) → Fr h h' p 74 → R (some (vI (seenB P (goM S P v).1))) h'), AW m2_goOn (d + 4) (mC m2_goOn, mS m2_goOn) 33 [some (vR p), some (vR s), some (vI v), some (vR a0)] [] h1 R := by
    intro h1  j kp  ad  M  a0  g sg  j0 j1 p0 p1 p2 p3 p4 hg hsg hF hV hS hO hda ha0 hFr kk
    refine A.al4_0 d2_goOn_33 ?_
    refine A.al4_0 d2_goOn_34 ?_
    refine A.getf d2_goOn_35 ?_ (hc := p0)
    refine A.iconst d2_goOn_38 ?_
    refine A.iadd d2_goOn_39 ?_
    refine A.putf d2_goOn_40 (fun h40 e40 f40 => ?_) (hc := p0) (hk := blt_ok rfl)
    first | (have p0 := (f40.2 _ (by omega)).trans p0) | (have p0 := e40)
    first | (have p1 := (f40.2 _ (by omega)).trans p1) | (have p1 := e40)
    first | (have p2 := (f40.2 _ (by omega)).trans p2) | (have p2 := e40)
    first | (have p3 := (f40.2 _ (by omega)).trans p3) | (have p3 := e40)
    first | (have p4 := (f40.2 _ (by omega)).trans p4) | (have p4 := e40)
    have hF := hF.fr f40 (by omega)
    have hV := hV.fr f40 (by omega)
    have hS := hS.fr f40 (by omega)
    have hO := hO.fr f40 (by omega)
    refine A.al4_0 d2_goOn_43 ?_
    refine A.v0 d2_goOn_44 (s2_now (pr := j) (a := ad j) p0 rfl rfl p1 (hg j (by omega) (by omega)) (by omega) (by omega) (kS ?_)) (hc := p0)
    refine A.al4_3 d2_goOn_47 ?_
    refine A.v1 d2_goOn_48 (s1_makeLike (hF.1 j (by omega) (by omega)).2.2 hO hda (fun h48 hm48 f48 => kN ?_)) (hc := (hF.1 j (by omega) (by omega)).2.2.1)
    have hb48 := hF.1 j (by omega) (by omega)
    obtain ⟨hx48, hy48, -⟩ := hb48
    have p0 := f48.get p0 (by omega)
    have p1 := f48.get p1 (by omega)
    have p2 := f48.get p2 (by omega)
    have p3 := f48.get p3 (by omega)
    have p4 := f48.get p4 (by omega)
    have hV := hV.fr f48 (by omega)
    have hS := hS.fr f48 (by omega)
    have hF := hF.put (by omega) (by omega) f48 hm48
    refine A.al4_0 d2_goOn_51 ?_
    refine A.v0 d2_goOn_52 (s2_now (pr := j) (a := ad j) p0 rfl rfl p1 (hg j (by omega) (by omega)) (by omega) (by omega) (kS ?_)) (hc := p0)
    refine A.al4_1 d2_goOn_55 ?_
    refine A.il4_2 d2_goOn_56 ?_
    refine A.v2 d2_goOn_57 (s1_comeFrom hm48 hS (by omega) (fun h57 hm57 f57 => kN ?_)) (hc := (hF.1 j (by omega) (by omega)).2.2.1)
    have hb57 := hF.1 j (by omega) (by omega)
    obtain ⟨hx57, hy57, -⟩ := hb57
    have p0 := f57.get p0 (by omega)
    have p1 := f57.get p1 (by omega)
    have p2 := f57.get p2 (by omega)
    have p3 := f57.get p3 (by omega)
    have p4 := f57.get p4 (by omega)
    have hV := hV.fr f57 (by omega)
    have hS := hS.fr f57 (by omega)
    have hF := hF.put (by omega) (by omega) f57 hm57
    rw [mset_ss] at hF
    have hP57 : plAt h57 p (j + 1, j, ad, mset M j (goM S P v), P.2.2.2.2) := ⟨g, sg, p0, p1, p2, p3, p4, hg, hsg, hF, hV⟩
    refine A.al4_0 d2_goOn_60 ?_
    refine A.al4_0 d2_goOn_61 ?_
    refine A.v0 d2_goOn_62 (s2_now (pr := j) (a := ad j) p0 rfl rfl p1 (hg j (by omega) (by omega)) (by omega) (by omega) (kS ?_)) (hc := p0)
    refine A.getf d2_goOn_65 ?_ (hc := hm57.1)
    refine A.v1 d2_goOn_68 (s2_see (P := (j + 1, j, ad, mset M j (goM S P v), P.2.2.2.2)) hP57 hb (fun h68 hP68 f68 => kS ?_)) (hc := p0)
    refine A.zret d2_goOn_71 ?_ (seenB_rng (P := (j + 1, j, ad, mset M j (goM S P v), P.2.2.2.2)) hb _)
    exact kk _ hP68 ((((hFr.then f40 (by omega) (by omega)).then f48 (by omega) (by omega)).then f57 (by omega) (by omega)).then f68 (by omega) (by omega))
  refine A.al4_0 d2_goOn_0 ?_
  refine A.v0 d2_goOn_1 (s2_now (pr := P.2.1) (a := P.2.2.1 P.2.1) p0 rfl rfl p1 (hg P.2.1 hp0 hp1) hp0 hp1 (kS ?_)) (hc := p0)
  refine A.as4_3 d2_goOn_4 ?_
  have hb0 := hF.1 P.2.1 hp0 hp1
  obtain ⟨hx0, hy0, hO⟩ := hb0
  refine A.al4_0 d2_goOn_5 ?_
  refine A.getf d2_goOn_6 ?_ (hc := p0)
  refine A.iconst d2_goOn_9 ?_
  refine A.iadd d2_goOn_10 ?_
  refine A.bipush d2_goOn_11 ?_
  refine A.ic_ge d2_goOn_13 (fun c13 => ?_) (fun c13 => ?_)
  · refine A.al4_0 d2_goOn_29 ?_
    refine A.v0 d2_goOn_30 (s2_forgetEarliest ⟨g, sg, p0, p1, p2, p3, p4, hg, hsg, hF, hV⟩ (fun h30 hP30 f30 => kN ?_)) (hc := p0)
    obtain ⟨g, sg2, p0, p1, p2, p3, p4, hg, hsg2, hF, hV⟩ := hP30
    dsimp only at p0 p1 p2 p3 p4 hg hsg2 hF hV
    have e19 : P.2.1 = 19 := by omega
    have hP33 : fam h30 p (shA P.2.2.1) (shM P.2.2.2.1) := hF
    have hO33 : moAt h30 (P.2.2.1 P.2.1) (P.2.2.2.1 P.2.1) := by
      have q := (hP33.1 18 (by omega) (by omega)).2.2
      unfold shA shM at q
      rw [if_pos (by omega), if_pos (by omega)] at q
      rw [e19]
      exact q
    refine tail h30 P.2.1 P.1 (shA P.2.2.1) (shM P.2.2.2.1) _ g sg2 hp0 hp1 p0 p1 p2 p3 p4 hg hsg2 hF hV (hS.fr f30 (by omega)) hO33 ?_ ⟨hx0, hy0⟩ f30 (fun h2 q1 q2 => k h2 (by unfold goP; rw [if_neg (by omega)]; exact q1) q2)
    have := hFd P.2.1 0 hp0 hp1 (by omega) (by omega) (by omega)
    unfold shA
    rw [if_neg (by omega)]
    omega
  · refine A.al4_0 d2_goOn_16 ?_
    refine A.dup d2_goOn_17 ?_
    refine A.getf d2_goOn_18 ?_ (hc := p0)
    refine A.iconst d2_goOn_21 ?_
    refine A.iadd d2_goOn_22 ?_
    refine A.putf d2_goOn_23 (fun h23 e23 f23 => ?_) (hc := p0) (hk := blt_ok rfl)
    first | (have p0 := (f23.2 _ (by omega)).trans p0) | (have p0 := e23)
    first | (have p1 := (f23.2 _ (by omega)).trans p1) | (have p1 := e23)
    first | (have p2 := (f23.2 _ (by omega)).trans p2) | (have p2 := e23)
    first | (have p3 := (f23.2 _ (by omega)).trans p3) | (have p3 := e23)
    first | (have p4 := (f23.2 _ (by omega)).trans p4) | (have p4 := e23)
    have hF := hF.fr f23 (by omega)
    have hV := hV.fr f23 (by omega)
    have hS := hS.fr f23 (by omega)
    have hO := hO.fr f23 (by omega)
    have F23 := f23.wide (a := p) (n := 74) (by omega) (by omega)
    refine A.goto d2_goOn_26 ?_
    exact tail _ (P.2.1 + 1) P.1 P.2.2.1 P.2.2.2.1 _ g sg (by omega) (by omega) p0 p1 p2 p3 p4 hg hsg hF hV hS hO (by have := hFd (P.2.1 + 1) P.2.1 (by omega) (by omega) hp0 hp1 (by omega); omega) ⟨hx0, hy0⟩ F23 (fun h2 q1 q2 => k h2 (by unfold goP; rw [if_pos (by omega)]; exact q1) q2)
def keepP (P : PL) (i : Int) : PL := (P.1, P.2.1, P.2.2.1, P.2.2.2.1, fset P.2.2.2.2.1 i 1, P.2.2.2.2.2.1, mset P.2.2.2.2.2.2 i (P.2.2.2.1 P.2.1))
def takeP (P : PL) (i : Int) : PL := (1, 0, P.2.2.1, mset P.2.2.2.1 0 (P.2.2.2.2.2.2 i), P.2.2.2.2)
set_option maxRecDepth 100000 in
set_option maxHeartbeats 4000000 in
theorem s2_keepIn {d : Nat} {h : AH} {R : RP} {p : Nat} {P : PL} {i : Int} (hP : plAt h p P) (hp0 : 0 ≤ P.2.1) (hp1 : P.2.1 < 20) (k : ∀ h', plAt h' p (pif (0 ≤ i ∧ i < 3) (keepP P i) P) → Fr h h' p 74 → R none h') : AM m2_keepIn (d + 2) h [vR p, vI i] R := by
  refine AM.of (L := [some (vR p), some (vI i)]) ok_2_keepIn (by decide) (fun G => Nat.le_of_ble_eq_true rfl) rfl ?_
  obtain ⟨g, sg, p0, p1, p2, p3, p4, hg, hsg, hF, hV⟩ := hP
  refine A.il2_1 d2_keepIn_0 ?_
  refine A.if_lt d2_keepIn_1 (fun c1 => ?_) (fun c1 => ?_)
  · refine A.vret d2_keepIn_29 ?_
    first | exact k _ (by rw [pif_f (by omega)]; exact ⟨g, sg, p0, p1, p2, p3, p4, hg, hsg, hF, hV⟩) Fr.rfl | exact k _ (by rw [pif_t (by omega)]; exact ⟨g, sg, p0, p1, p2, p3, p4, hg, hsg, hF, hV⟩) ((f19.wide (by omega) (by omega)).then f28 (by omega) (by omega))
  · refine A.il2_1 d2_keepIn_4 ?_
    refine A.iconst d2_keepIn_5 ?_
    refine A.ic_ge d2_keepIn_6 (fun c6 => ?_) (fun c6 => ?_)
    · refine A.vret d2_keepIn_29 ?_
      first | exact k _ (by rw [pif_f (by omega)]; exact ⟨g, sg, p0, p1, p2, p3, p4, hg, hsg, hF, hV⟩) Fr.rfl | exact k _ (by rw [pif_t (by omega)]; exact ⟨g, sg, p0, p1, p2, p3, p4, hg, hsg, hF, hV⟩) ((f19.wide (by omega) (by omega)).then f28 (by omega) (by omega))
    · refine A.al2_0 d2_keepIn_9 ?_
      refine A.getf d2_keepIn_10 ?_ (hc := p0)
      refine A.il2_1 d2_keepIn_13 ?_
      refine A.qald d2_keepIn_14 (hsg i (by omega) (by omega)) ?_ (hc := p2)
      refine A.al2_0 d2_keepIn_15 ?_
      refine A.v0 d2_keepIn_16 (s2_now (pr := P.2.1) (a := P.2.2.1 P.2.1) p0 rfl rfl p1 (hg P.2.1 hp0 hp1) hp0 hp1 (kS ?_)) (hc := p0)
      refine A.v1 d2_keepIn_19 (s1_makeLike (hV i (by omega) (by omega)) (hF.1 P.2.1 hp0 hp1).2.2 (by have := hF.1 P.2.1 hp0 hp1; omega) (fun h19 hm19 f19 => kN ?_)) (hc := (hV i (by omega) (by omega)).1)
      have hb19 := hF.1 P.2.1 hp0 hp1
      have p0 := f19.get p0 (by omega)
      have p1 := f19.get p1 (by omega)
      have p2 := f19.get p2 (by omega)
      have p3 := f19.get p3 (by omega)
      have p4 := f19.get p4 (by omega)
      have hF := hF.fr f19 (by omega)
      have hV := hV.put (by omega) (by omega) f19 hm19
      refine A.al2_0 d2_keepIn_22 ?_
      refine A.getf d2_keepIn_23 ?_ (hc := p0)
      refine A.il2_1 d2_keepIn_26 ?_
      refine A.iconst d2_keepIn_27 ?_
      refine A.bast d2_keepIn_28 (fun h28 e28 f28 => ?_) (hc := p3)
      first | (have p0 := (f28.2 _ (by omega)).trans p0) | (have p0 := e28)
      first | (have p1 := (f28.2 _ (by omega)).trans p1) | (have p1 := e28)
      first | (have p2 := (f28.2 _ (by omega)).trans p2) | (have p2 := e28)
      first | (have p3 := (f28.2 _ (by omega)).trans p3) | (have p3 := e28)
      first | (have p4 := (f28.2 _ (by omega)).trans p4) | (have p4 := e28)
      have hF := hF.fr f28 (by omega)
      have hV := hV.fr f28 (by omega)
      refine A.vret d2_keepIn_29 ?_
      first | exact k _ (by rw [pif_f (by omega)]; exact ⟨g, sg, p0, p1, p2, p3, p4, hg, hsg, hF, hV⟩) Fr.rfl | exact k _ (by rw [pif_t (by omega)]; exact ⟨g, sg, p0, p1, p2, p3, p4, hg, hsg, hF, hV⟩) ((f19.wide (by omega) (by omega)).then f28 (by omega) (by omega))
set_option maxRecDepth 100000 in
set_option maxHeartbeats 4000000 in
theorem s2_takeFrom {d : Nat} {h : AH} {R : RP} {p : Nat} {P : PL} {i : Int} (hP : plAt h p P) (hs : ∀ j, 0 ≤ j → j < 3 → 0 ≤ P.2.2.2.2.1 j ∧ P.2.2.2.2.1 j ≤ 1) (k : ∀ h', plAt h' p (pif (0 ≤ i ∧ i < 3 ∧ P.2.2.2.2.1 i = 1) (takeP P i) P) → Fr h h' p 74 → R (some (vI (bi (0 ≤ i ∧ i < 3 ∧ P.2.2.2.2.1 i = 1)))) h') : AM m2_takeFrom (d + 2) h [vR p, vI i] R := by
  refine AM.of (L := [some (vR p), some (vI i)]) ok_2_takeFrom (by decide) (fun G => Nat.le_of_ble_eq_true rfl) rfl ?_
  obtain ⟨g, sg, p0, p1, p2, p3, p4, hg, hsg, hF, hV⟩ := hP
  refine A.il2_1 d2_takeFrom_0 ?_
  refine A.if_lt d2_takeFrom_1 (fun c1 => ?_) (fun c1 => ?_)
  · refine A.iconst d2_takeFrom_18 ?_
    refine A.zret d2_takeFrom_19 ?_
    exact rF (k _ (by rw [pif_f (by omega)]; exact ⟨g, sg, p0, p1, p2, p3, p4, hg, hsg, hF, hV⟩) Fr.rfl) (by omega)
  · refine A.il2_1 d2_takeFrom_4 ?_
    refine A.iconst d2_takeFrom_5 ?_
    refine A.ic_ge d2_takeFrom_6 (fun c6 => ?_) (fun c6 => ?_)
    · refine A.iconst d2_takeFrom_18 ?_
      refine A.zret d2_takeFrom_19 ?_
      exact rF (k _ (by rw [pif_f (by omega)]; exact ⟨g, sg, p0, p1, p2, p3, p4, hg, hsg, hF, hV⟩) Fr.rfl) (by omega)
    · refine A.al2_0 d2_takeFrom_9 ?_
      refine A.getf d2_takeFrom_10 ?_ (hc := p0)
      refine A.il2_1 d2_takeFrom_13 ?_
      refine A.bald d2_takeFrom_14 ?_ (hc := p3)
      refine A.if_ne d2_takeFrom_15 (fun c15 => ?_) (fun c15 => ?_)
      · refine A.al2_0 d2_takeFrom_20 ?_
        refine A.v0 d2_takeFrom_21 (s2_keepOneMoment ⟨g, sg, p0, p1, p2, p3, p4, hg, hsg, hF, hV⟩ (fun h21 hP21 f21 => kN ?_)) (hc := p0)
        obtain ⟨g, sg, p0, p1, p2, p3, p4, hg, hsg, hF, hV⟩ := hP21
        dsimp only at p0 p1 p2 p3 p4 hg hsg hF hV
        refine A.al2_0 d2_takeFrom_24 ?_
        refine A.v0 d2_takeFrom_25 (s2_now (pr := 0) (a := P.2.2.1 0) p0 rfl rfl p1 (hg 0 (by omega) (by omega)) (by omega) (by omega) (kS ?_)) (hc := p0)
        refine A.al2_0 d2_takeFrom_28 ?_
        refine A.getf d2_takeFrom_29 ?_ (hc := p0)
        refine A.il2_1 d2_takeFrom_32 ?_
        refine A.qald d2_takeFrom_33 (hsg i (by omega) (by omega)) ?_ (hc := p2)
        refine A.v1 d2_takeFrom_34 (s1_makeLike (hF.1 0 (by omega) (by omega)).2.2 (hV i (by omega) (by omega)) (by have := hF.1 0 (by omega) (by omega); omega) (fun h34 hm34 f34 => kN ?_)) (hc := (hF.1 0 (by omega) (by omega)).2.2.1)
        have hb34 := hF.1 0 (by omega) (by omega)
        obtain ⟨hx34, hy34, -⟩ := hb34
        have p0 := f34.get p0 (by omega)
        have p1 := f34.get p1 (by omega)
        have p2 := f34.get p2 (by omega)
        have p3 := f34.get p3 (by omega)
        have p4 := f34.get p4 (by omega)
        have hV := hV.fr f34 (by omega)
        have hF := hF.put (by omega) (by omega) f34 hm34
        refine A.iconst d2_takeFrom_37 ?_
        refine A.zret d2_takeFrom_38 ?_
        have e1 : P.2.2.2.2.1 i = 1 := by have := hs i (by omega) (by omega); omega
        exact rT (k _ (by rw [pif_t (by omega)]; exact ⟨g, sg, p0, p1, p2, p3, p4, hg, hsg, hF, hV⟩) (f21.then f34 (by omega) (by omega))) (by omega)
      · refine A.iconst d2_takeFrom_18 ?_
        refine A.zret d2_takeFrom_19 ?_
        exact rF (k _ (by rw [pif_f (by omega)]; exact ⟨g, sg, p0, p1, p2, p3, p4, hg, hsg, hF, hV⟩) Fr.rfl) (by omega)
end
section
/-! ===== Text: the bytes; the grammar's tokens ===== -/
/-- a text: its length, its bytes -/
abbrev TX : Type := Int × (Int → Int)
def txI (T : TX) : Prop := 0 ≤ T.1 ∧ T.1 ≤ 100 ∧ ∀ i, 0 ≤ i → i < T.1 → 0 ≤ T.2 i ∧ T.2 i ≤ 127
/-- the byte at a place; behind the last one -1 -/
def tc (T : TX) (p : Int) : Int := if 0 ≤ p ∧ p < T.1 then T.2 p else -1
def hv (T : TX) (p : Int) : Int := if 0 ≤ p ∧ p < T.1 then T.2 p else 0
theorem tc_rng {T : TX} (hT : txI T) (p : Int) : -1 ≤ tc T p ∧ tc T p ≤ 127 := by
  unfold tc
  by_cases e : 0 ≤ p ∧ p < T.1
  · rw [if_pos e]; have := hT.2.2 p e.1 e.2; omega
  · rw [if_neg e]; omega
theorem hv_tc {T : TX} (hT : txI T) (p : Int) : (tc T p = -1 ∧ hv T p = 0 ∧ ¬ (0 ≤ p ∧ p < T.1)) ∨ (0 ≤ tc T p ∧ hv T p = tc T p ∧ 0 ≤ p ∧ p < T.1) := by
  unfold tc hv
  by_cases e : 0 ≤ p ∧ p < T.1
  · rw [if_pos e, if_pos e]; have := hT.2.2 p e.1 e.2; omega
  · rw [if_neg e, if_neg e]; omega
def isd (T : TX) (p : Int) : Prop := 48 ≤ tc T p ∧ tc T p ≤ 57
def skN (T : TX) : Nat → Int → Int
  | 0, p => p
  | k + 1, p => if tc T p = 32 then skN T k (p + 1) else p
/-- behind the blanks from a place on -/
def sk (T : TX) (p : Int) : Int := skN T 101 p
theorem skN_stop {T : TX} {k : Nat} {p : Int} (h : tc T p ≠ 32) : skN T k p = p := by
  cases k with
  | zero => rfl
  | succ k => exact if_neg h
theorem skN_le {T : TX} : ∀ (k : Nat) (p : Int), p ≤ skN T k p ∧ (p ≤ T.1 → skN T k p ≤ T.1) ∧ (T.1 - p < k → tc T (skN T k p) ≠ 32) := by
  intro k
  induction k with
  | zero => intro p; exact ⟨Int.le_refl _, fun h => h, fun h => by show tc T p ≠ 32; unfold tc; rw [if_neg (by omega)]; decide⟩
  | succ k ih =>
    intro p
    show p ≤ (if tc T p = 32 then skN T k (p + 1) else p) ∧ (p ≤ T.1 → (if tc T p = 32 then skN T k (p + 1) else p) ≤ T.1) ∧ (T.1 - p < _ → tc T (if tc T p = 32 then skN T k (p + 1) else p) ≠ 32)
    by_cases e : tc T p = 32
    · rw [if_pos e]
      obtain ⟨h1, h2, h3⟩ := ih (p + 1)
      have hlt : p < T.1 := by
        unfold tc at e
        by_cases z : 0 ≤ p ∧ p < T.1
        · exact z.2
        · rw [if_neg z] at e; omega
      exact ⟨by omega, fun _ => h2 (by omega), fun q => h3 (by omega)⟩
    · rw [if_neg e]
      exact ⟨Int.le_refl _, fun h => h, fun _ => e⟩
theorem sk_le {T : TX} (p : Int) : p ≤ sk T p := (skN_le 101 p).1
theorem sk_len {T : TX} {p : Int} (h : p ≤ T.1) : sk T p ≤ T.1 := (skN_le 101 p).2.1 h
theorem sk_nb {T : TX} (hT : txI T) {p : Int} (h : 0 ≤ p) : tc T (sk T p) ≠ 32 := (skN_le 101 p).2.2 (by have := hT.2.1; omega)
theorem sk_sk {T : TX} (hT : txI T) {p : Int} (h : 0 ≤ p) : sk T (sk T p) = sk T p := skN_stop (sk_nb hT h)
theorem sk_id {T : TX} {p : Int} (h : tc T p ≠ 32) : sk T p = p := skN_stop h
theorem tc_lt {T : TX} {p : Int} (h : 0 ≤ tc T p) : 0 ≤ p ∧ p < T.1 := by
  unfold tc at h
  by_cases e : 0 ≤ p ∧ p < T.1
  · exact e
  · rw [if_neg e] at h; omega
/-- a digit up to m: fits, and where the reading stands then -/
def dgOk (T : TX) (m p : Int) : Prop := (48 ≤ tc T p ∧ tc T p ≤ 48 + m) ∧ ¬ isd T (p + 1)
def dgAt (T : TX) (m p : Int) : Int := if 48 ≤ tc T p ∧ tc T p ≤ 48 + m then p + 1 else p
noncomputable def nmV (T : TX) (p : Int) : Int := pif (isd T (p + 1)) (10 * (tc T p - 48) + (tc T (p + 1) - 48)) (tc T p - 48)
noncomputable def nmE (T : TX) (p : Int) : Int := pif (isd T (p + 1)) (p + 2) (p + 1)
def nmOk (T : TX) (m p : Int) : Prop := (isd T p ∧ nmV T p ≤ m) ∧ ¬ isd T (nmE T p)
noncomputable def nmAt (T : TX) (m p : Int) : Int := pif (isd T p ∧ nmV T p ≤ m) (nmE T p) p
def vcOk (T : TX) (p : Int) : Prop := 97 ≤ tc T p ∧ tc T p ≤ 102
/-- a Text: the text, its draft, where the reading stands, the number read last -/
def txAt (h : AH) (t : Nat) (T : TX) (s : Nat) (a n : Int) : Prop := h.2 t = some (kO 4 [vI T.1, vR (t + 1), vR s, vI a, vI n]) ∧ h.2 (t + 1) = some (kA 1 100 T.2)
theorem txAt.fr {h h' : AH} {t s b k : Nat} {T : TX} {a n : Int} (x : txAt h t T s a n) (f : Fr h h' b k) (hd : t + 2 ≤ b ∨ b + k ≤ t) : txAt h' t T s a n := ⟨f.get x.1 (by omega), f.get x.2 (by omega)⟩
set_option maxRecDepth 100000 in
set_option maxHeartbeats 4000000 in
theorem s4_here {d : Nat} {h : AH} {R : RP} {t s : Nat} {T : TX} {a n : Int} (hX : txAt h t T s a n) (hT : txI T) (k : R (some (vI (hv T a))) h) : AM m4_here (d) h [vR t] R := by
  refine AM.of (L := [some (vR t)]) ok_4_here (by decide) (fun G => Nat.le_of_ble_eq_true rfl) rfl ?_
  obtain ⟨x0, x1⟩ := hX
  have hT2 := hT.2.1
  refine A.al1_0 d4_here_0 ?_
  refine A.getf d4_here_1 ?_ (hc := x0)
  refine A.if_lt d4_here_4 (fun c4 => ?_) (fun c4 => ?_)
  · refine A.iconst d4_here_39 ?_
    refine A.iret d4_here_40 ?_
    exact rI k (by unfold hv; first | (rw [if_pos (by omega)]; done) | (rw [if_neg (by omega)]; done))
  · refine A.al1_0 d4_here_7 ?_
    refine A.getf d4_here_8 ?_ (hc := x0)
    refine A.al1_0 d4_here_11 ?_
    refine A.getf d4_here_12 ?_ (hc := x0)
    refine A.ic_ge d4_here_15 (fun c15 => ?_) (fun c15 => ?_)
    · refine A.iconst d4_here_39 ?_
      refine A.iret d4_here_40 ?_
      exact rI k (by unfold hv; first | (rw [if_pos (by omega)]; done) | (rw [if_neg (by omega)]; done))
    · refine A.al1_0 d4_here_18 ?_
      refine A.getf d4_here_19 ?_ (hc := x0)
      refine A.bipush d4_here_22 ?_
      refine A.ic_ge d4_here_24 (fun c24 => ?_) (fun c24 => ?_)
      · refine A.iconst d4_here_39 ?_
        refine A.iret d4_here_40 ?_
        exact rI k (by unfold hv; first | (rw [if_pos (by omega)]; done) | (rw [if_neg (by omega)]; done))
      · refine A.al1_0 d4_here_27 ?_
        refine A.getf d4_here_28 ?_ (hc := x0)
        refine A.al1_0 d4_here_31 ?_
        refine A.getf d4_here_32 ?_ (hc := x0)
        refine A.bald d4_here_35 ?_ (hc := x1)
        refine A.goto d4_here_36 ?_
        refine A.iret d4_here_40 ?_
        exact rI k (by unfold hv; first | (rw [if_pos (by omega)]; done) | (rw [if_neg (by omega)]; done))
set_option maxRecDepth 100000 in
set_option maxHeartbeats 4000000 in
theorem s4_isAtDigit {d : Nat} {h : AH} {R : RP} {t s : Nat} {T : TX} {a n : Int} (hX : txAt h t T s a n) (hT : txI T) (k : R (some (vI (bi (isd T a)))) h) : AM m4_isAtDigit (d + 1) h [vR t] R := by
  refine AM.of (L := [some (vR t)]) ok_4_isAtDigit (by decide) (fun G => Nat.le_of_ble_eq_true rfl) rfl ?_
  obtain ⟨x0, x1⟩ := hX
  have hh := hv_tc hT a
  refine A.al1_0 d4_isAtDigit_0 ?_
  refine A.v0 d4_isAtDigit_1 (s4_here ⟨x0, x1⟩ hT (kS ?_)) (hc := x0)
  refine A.bipush d4_isAtDigit_4 ?_
  refine A.ic_lt d4_isAtDigit_6 (fun c6 => ?_) (fun c6 => ?_)
  · refine A.iconst d4_isAtDigit_22 ?_
    refine A.zret d4_isAtDigit_23 ?_
    first | exact rT k (by unfold isd; omega) | exact rF k (by unfold isd; omega)
  · refine A.al1_0 d4_isAtDigit_9 ?_
    refine A.v0 d4_isAtDigit_10 (s4_here ⟨x0, x1⟩ hT (kS ?_)) (hc := x0)
    refine A.bipush d4_isAtDigit_13 ?_
    refine A.ic_gt d4_isAtDigit_15 (fun c15 => ?_) (fun c15 => ?_)
    · refine A.iconst d4_isAtDigit_22 ?_
      refine A.zret d4_isAtDigit_23 ?_
      first | exact rT k (by unfold isd; omega) | exact rF k (by unfold isd; omega)
    · refine A.iconst d4_isAtDigit_18 ?_
      refine A.goto d4_isAtDigit_19 ?_
      refine A.zret d4_isAtDigit_23 ?_
      first | exact rT k (by unfold isd; omega) | exact rF k (by unfold isd; omega)
set_option maxRecDepth 100000 in
set_option maxHeartbeats 4000000 in
theorem s4_isAtEnd {d : Nat} {h : AH} {R : RP} {t s : Nat} {T : TX} {a n : Int} (hX : txAt h t T s a n) (hT : txI T) (ha : 0 ≤ a) (k : R (some (vI (bi (tc T a = -1)))) h) : AM m4_isAtEnd (d) h [vR t] R := by
  refine AM.of (L := [some (vR t)]) ok_4_isAtEnd (by decide) (fun G => Nat.le_of_ble_eq_true rfl) rfl ?_
  obtain ⟨x0, x1⟩ := hX
  have hh := hv_tc hT a
  refine A.al1_0 d4_isAtEnd_0 ?_
  refine A.getf d4_isAtEnd_1 ?_ (hc := x0)
  refine A.al1_0 d4_isAtEnd_4 ?_
  refine A.getf d4_isAtEnd_5 ?_ (hc := x0)
  refine A.ic_lt d4_isAtEnd_8 (fun c8 => ?_) (fun c8 => ?_)
  · refine A.iconst d4_isAtEnd_15 ?_
    refine A.zret d4_isAtEnd_16 ?_
    first | exact rT k (by omega) | exact rF k (by omega)
  · refine A.iconst d4_isAtEnd_11 ?_
    refine A.goto d4_isAtEnd_12 ?_
    refine A.zret d4_isAtEnd_16 ?_
    first | exact rT k (by omega) | exact rF k (by omega)
set_option maxRecDepth 100000 in
set_option maxHeartbeats 4000000 in
theorem s4_byteAt {d : Nat} {h : AH} {R : RP} {i : Int} {t s : Nat} {T : TX} {a n : Int} (hX : txAt h t T s a n) (hT : txI T) (k : R (some (vI (hv T i))) h) : AM m4_byteAt (d) h [vR t, vI i] R := by
  refine AM.of (L := [some (vR t), some (vI i)]) ok_4_byteAt (by decide) (fun G => Nat.le_of_ble_eq_true rfl) rfl ?_
  obtain ⟨x0, x1⟩ := hX
  have hT2 := hT.2.1
  refine A.il2_1 d4_byteAt_0 ?_
  refine A.if_lt d4_byteAt_1 (fun c1 => ?_) (fun c1 => ?_)
  · refine A.iconst d4_byteAt_27 ?_
    refine A.iret d4_byteAt_28 ?_
    exact rI k (by unfold hv; first | (rw [if_pos (by omega)]; done) | (rw [if_neg (by omega)]; done))
  · refine A.il2_1 d4_byteAt_4 ?_
    refine A.al2_0 d4_byteAt_5 ?_
    refine A.getf d4_byteAt_6 ?_ (hc := x0)
    refine A.ic_ge d4_byteAt_9 (fun c9 => ?_) (fun c9 => ?_)
    · refine A.iconst d4_byteAt_27 ?_
      refine A.iret d4_byteAt_28 ?_
      exact rI k (by unfold hv; first | (rw [if_pos (by omega)]; done) | (rw [if_neg (by omega)]; done))
    · refine A.il2_1 d4_byteAt_12 ?_
      refine A.bipush d4_byteAt_13 ?_
      refine A.ic_ge d4_byteAt_15 (fun c15 => ?_) (fun c15 => ?_)
      · refine A.iconst d4_byteAt_27 ?_
        refine A.iret d4_byteAt_28 ?_
        exact rI k (by unfold hv; first | (rw [if_pos (by omega)]; done) | (rw [if_neg (by omega)]; done))
      · refine A.al2_0 d4_byteAt_18 ?_
        refine A.getf d4_byteAt_19 ?_ (hc := x0)
        refine A.il2_1 d4_byteAt_22 ?_
        refine A.bald d4_byteAt_23 ?_ (hc := x1)
        refine A.goto d4_byteAt_24 ?_
        refine A.iret d4_byteAt_28 ?_
        exact rI k (by unfold hv; first | (rw [if_pos (by omega)]; done) | (rw [if_neg (by omega)]; done))
set_option maxRecDepth 100000 in
set_option maxHeartbeats 4000000 in
theorem s4_append {d : Nat} {h : AH} {R : RP} {v : Int} {t s : Nat} {T : TX} {a n : Int} (hX : txAt h t T s a n) (hT : txI T) (hv0 : -128 ≤ v ∧ v ≤ 127) (k : ∀ h', txAt h' t (pif (T.1 < 100) (T.1 + 1, fset T.2 T.1 v) T) s a n → Fr h h' t 2 → R (some (vI (bi (T.1 < 100)))) h') : AM m4_append (d) h [vR t, vI v] R := by
  refine AM.of (L := [some (vR t), some (vI v)]) ok_4_append (by decide) (fun G => Nat.le_of_ble_eq_true rfl) rfl ?_
  obtain ⟨x0, x1⟩ := hX
  have hT1 := hT.1
  refine A.al2_0 d4_append_0 ?_
  refine A.getf d4_append_1 ?_ (hc := x0)
  refine A.if_lt d4_append_4 (fun c4 => ?_) (fun c4 => ?_)
  · refine A.iconst d4_append_16 ?_
    refine A.zret d4_append_17 ?_
    first | exact rT (k _ (by rw [pif_t (by omega)]; exact ⟨x0, x1⟩) None) (by omega) | exact rF (k _ (by rw [pif_f (by omega)]; exact ⟨x0, x1⟩) Fr.rfl) (by omega)
  · refine A.al2_0 d4_append_7 ?_
    refine A.getf d4_append_8 ?_ (hc := x0)
    refine A.bipush d4_append_11 ?_
    refine A.ic_lt d4_append_13 (fun c13 => ?_) (fun c13 => ?_)
    · refine A.al2_0 d4_append_18 ?_
      refine A.getf d4_append_19 ?_ (hc := x0)
      refine A.al2_0 d4_append_22 ?_
      refine A.getf d4_append_23 ?_ (hc := x0)
      refine A.il2_1 d4_append_26 ?_
      refine A.bast d4_append_27 (fun h27 e27 f27 => ?_) (hc := x1)
      first | (have x0 := (f27.2 _ (by omega)).trans x0) | (have x0 := e27)
      first | (have x1 := (f27.2 _ (by omega)).trans x1) | (have x1 := e27)
      have F27 := f27.wide (a := t) (n := 2) (by omega) (by omega)
      refine A.al2_0 d4_append_28 ?_
      refine A.dup d4_append_29 ?_
      refine A.getf d4_append_30 ?_ (hc := x0)
      refine A.iconst d4_append_33 ?_
      refine A.iadd d4_append_34 ?_
      refine A.putf d4_append_35 (fun h35 e35 f35 => ?_) (hc := x0) (hk := blt_ok rfl)
      first | (have x0 := (f35.2 _ (by omega)).trans x0) | (have x0 := e35)
      first | (have x1 := (f35.2 _ (by omega)).trans x1) | (have x1 := e35)
      have F35 := F27.then f35 (by omega) (by omega)
      refine A.iconst d4_append_38 ?_
      refine A.zret d4_append_39 ?_
      first | exact rT (k _ (by rw [pif_t (by omega)]; exact ⟨x0, x1⟩) F35) (by omega) | exact rF (k _ (by rw [pif_f (by omega)]; exact ⟨x0, x1⟩) Fr.rfl) (by omega)
    · refine A.iconst d4_append_16 ?_
      refine A.zret d4_append_17 ?_
      first | exact rT (k _ (by rw [pif_t (by omega)]; exact ⟨x0, x1⟩) None) (by omega) | exact rF (k _ (by rw [pif_f (by omega)]; exact ⟨x0, x1⟩) Fr.rfl) (by omega)
set_option maxRecDepth 100000 in
set_option maxHeartbeats 4000000 in
theorem s4_skipBlanks {d : Nat} {h : AH} {R : RP} {t s : Nat} {T : TX} {a n : Int} (hX : txAt h t T s a n) (hT : txI T) (ha : 0 ≤ a) (ha2 : a ≤ T.1) (k : ∀ h', txAt h' t T s (sk T a) n → Fr h h' t 1 → R none h') : AM m4_skipBlanks (d + 1) h [vR t] R := by
  refine AM.of (L := [some (vR t)]) ok_4_skipBlanks (by decide) (fun G => Nat.le_of_ble_eq_true rfl) rfl ?_
  obtain ⟨x0, x1⟩ := hX
  have loop : ∀ (nf : Nat) (i : Nat) (b : Int) (h1 : AH) (hi : b = a + i) (hb : b ≤ T.1) (x0 : h1.2 t = some (kO 4 [vI T.1, vR (t + 1), vR s, vI b, vI n])) (x1 : h1.2 (t + 1) = some (kA 1 100 T.2)) (hF : Fr h h1 t 1) (hs : sk T a = skN T (101 - i) b) (hn : 101 - i < nf), AW m4_skipBlanks (d + 1) (mC m4_skipBlanks, mS m4_skipBlanks) 0 [some (vR t)] [] h1 R := by
    intro nf
    induction nf with
    | zero => intro i  b  h1  hi hb x0 x1 hF hs hn; omega
    | succ nf ih =>
      intro i  b  h1  hi hb x0 x1 hF hs hn
      have hh := hv_tc hT b
      have hT2 := hT.2.1
      refine A.al1_0 d4_skipBlanks_0 ?_
      refine A.getf d4_skipBlanks_1 ?_ (hc := x0)
      refine A.al1_0 d4_skipBlanks_4 ?_
      refine A.getf d4_skipBlanks_5 ?_ (hc := x0)
      refine A.ic_ge d4_skipBlanks_8 (fun c8 => ?_) (fun c8 => ?_)
      · refine A.vret d4_skipBlanks_33 ?_
        have e : tc T b ≠ 32 := by omega
        rw [skN_stop e] at hs
        exact k _ (by rw [hs]; exact ⟨x0, x1⟩) hF
      · refine A.al1_0 d4_skipBlanks_11 ?_
        refine A.v0 d4_skipBlanks_12 (s4_here ⟨x0, x1⟩ hT (kS ?_)) (hc := x0)
        refine A.bipush d4_skipBlanks_15 ?_
        refine A.ic_ne d4_skipBlanks_17 (fun c17 => ?_) (fun c17 => ?_)
        · refine A.vret d4_skipBlanks_33 ?_
          have e : tc T b ≠ 32 := by omega
          rw [skN_stop e] at hs
          exact k _ (by rw [hs]; exact ⟨x0, x1⟩) hF
        · refine A.al1_0 d4_skipBlanks_20 ?_
          refine A.dup d4_skipBlanks_21 ?_
          refine A.getf d4_skipBlanks_22 ?_ (hc := x0)
          refine A.iconst d4_skipBlanks_25 ?_
          refine A.iadd d4_skipBlanks_26 ?_
          refine A.putf d4_skipBlanks_27 (fun h27 e27 f27 => ?_) (hc := x0) (hk := blt_ok rfl)
          first | (have x0 := (f27.2 _ (by omega)).trans x0) | (have x0 := e27)
          first | (have x1 := (f27.2 _ (by omega)).trans x1) | (have x1 := e27)
          have F27 := f27.wide (a := t) (n := 1) (by omega) (by omega)
          refine A.goto d4_skipBlanks_30 ?_
          have e : tc T b = 32 := by omega
          refine ih (i + 1) (b + 1) _ (by omega) (by omega) x0 x1 (hF.then F27 (by omega) (by omega)) ?_ (by omega)
          obtain ⟨j, hj⟩ : ∃ j, 101 - i = j + 1 := ⟨101 - i - 1, by omega⟩
          rw [hs, hj, show 101 - (i + 1) = j by omega]
          exact if_pos e
  exact loop 102 0 a h (by omega) ha2 x0 x1 Fr.rfl rfl (by omega)
end
