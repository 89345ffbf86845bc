section
-- ===== PART A: goes FIRST, ahead of the names: the tables' words, and 'selects' of the private methods out of them =====
/-- a private method of a class that the tables say can be made, by its rows of tables_1 -/
def lw_okq (q : MethodName × Nat) : Prop := (q.1.cls ≠ "java/lang/invoke/MethodHandle" ∧ q.1.cls ≠ "java/lang/invoke/VarHandle") ∧ Cond.instantiable q.1.cls q.2 ∈ tables_1 ∧ Cond.privateMethod q.1 ∈ tables_1 ∧ Cond.instanceMethod q.1 ∈ tables_1
theorem lw_p0 : lw_okq (⟨"PictureScript$Play", "keepOneMoment", "()V"⟩, 6) := ⟨⟨by decide +kernel, by decide +kernel⟩, List.mem_of_getElem? (i := 79) (by decide +kernel), List.mem_of_getElem? (i := 176) (by decide +kernel), List.mem_of_getElem? (i := 177) (by decide +kernel)⟩
theorem lw_p1 : lw_okq (⟨"PictureScript$Moment", "carryOut", "(LPictureScript$Script;I)I"⟩, 4) := ⟨⟨by decide +kernel, by decide +kernel⟩, List.mem_of_getElem? (i := 86) (by decide +kernel), List.mem_of_getElem? (i := 207) (by decide +kernel), List.mem_of_getElem? (i := 208) (by decide +kernel)⟩
theorem lw_p2 : lw_okq (⟨"PictureScript$Moment", "putAt", "(III)V"⟩, 4) := ⟨⟨by decide +kernel, by decide +kernel⟩, List.mem_of_getElem? (i := 86) (by decide +kernel), List.mem_of_getElem? (i := 216) (by decide +kernel), List.mem_of_getElem? (i := 217) (by decide +kernel)⟩
theorem lw_p3 : lw_okq (⟨"PictureScript$Moment", "hide", "(I)V"⟩, 4) := ⟨⟨by decide +kernel, by decide +kernel⟩, List.mem_of_getElem? (i := 86) (by decide +kernel), List.mem_of_getElem? (i := 220) (by decide +kernel), List.mem_of_getElem? (i := 221) (by decide +kernel)⟩
theorem lw_p4 : lw_okq (⟨"PictureScript$Play", "see", "(I)Z"⟩, 6) := ⟨⟨by decide +kernel, by decide +kernel⟩, List.mem_of_getElem? (i := 79) (by decide +kernel), List.mem_of_getElem? (i := 224) (by decide +kernel), List.mem_of_getElem? (i := 225) (by decide +kernel)⟩
theorem lw_p5 : lw_okq (⟨"PictureScript$Chart", "follow", "(LPictureScript$Script;III)V"⟩, 8) := ⟨⟨by decide +kernel, by decide +kernel⟩, List.mem_of_getElem? (i := 134) (by decide +kernel), List.mem_of_getElem? (i := 234) (by decide +kernel), List.mem_of_getElem? (i := 235) (by decide +kernel)⟩
theorem lw_p6 : lw_okq (⟨"PictureScript$Chart", "arrive", "(LPictureScript$Script;I)V"⟩, 8) := ⟨⟨by decide +kernel, by decide +kernel⟩, List.mem_of_getElem? (i := 134) (by decide +kernel), List.mem_of_getElem? (i := 246) (by decide +kernel), List.mem_of_getElem? (i := 247) (by decide +kernel)⟩
theorem lw_p7 : lw_okq (⟨"PictureScript$Text", "skipBlanks", "()V"⟩, 5) := ⟨⟨by decide +kernel, by decide +kernel⟩, List.mem_of_getElem? (i := 25) (by decide +kernel), List.mem_of_getElem? (i := 314) (by decide +kernel), List.mem_of_getElem? (i := 315) (by decide +kernel)⟩
theorem lw_p8 : lw_okq (⟨"PictureScript$Text", "here", "()I"⟩, 5) := ⟨⟨by decide +kernel, by decide +kernel⟩, List.mem_of_getElem? (i := 25) (by decide +kernel), List.mem_of_getElem? (i := 318) (by decide +kernel), List.mem_of_getElem? (i := 319) (by decide +kernel)⟩
theorem lw_p9 : lw_okq (⟨"PictureScript$Text", "isAtEnd", "()Z"⟩, 5) := ⟨⟨by decide +kernel, by decide +kernel⟩, List.mem_of_getElem? (i := 25) (by decide +kernel), List.mem_of_getElem? (i := 322) (by decide +kernel), List.mem_of_getElem? (i := 323) (by decide +kernel)⟩
theorem lw_p10 : lw_okq (⟨"PictureScript$Text", "takeNode", "()Z"⟩, 5) := ⟨⟨by decide +kernel, by decide +kernel⟩, List.mem_of_getElem? (i := 25) (by decide +kernel), List.mem_of_getElem? (i := 326) (by decide +kernel), List.mem_of_getElem? (i := 327) (by decide +kernel)⟩
theorem lw_p11 : lw_okq (⟨"PictureScript$Text", "addVoice", "()Z"⟩, 5) := ⟨⟨by decide +kernel, by decide +kernel⟩, List.mem_of_getElem? (i := 25) (by decide +kernel), List.mem_of_getElem? (i := 421) (by decide +kernel), List.mem_of_getElem? (i := 422) (by decide +kernel)⟩
theorem lw_p12 : lw_okq (⟨"PictureScript$Text", "addNumber", "(I)Z"⟩, 5) := ⟨⟨by decide +kernel, by decide +kernel⟩, List.mem_of_getElem? (i := 25) (by decide +kernel), List.mem_of_getElem? (i := 429) (by decide +kernel), List.mem_of_getElem? (i := 430) (by decide +kernel)⟩
theorem lw_p13 : lw_okq (⟨"PictureScript$Text", "takeNumber", "(I)Z"⟩, 5) := ⟨⟨by decide +kernel, by decide +kernel⟩, List.mem_of_getElem? (i := 25) (by decide +kernel), List.mem_of_getElem? (i := 433) (by decide +kernel), List.mem_of_getElem? (i := 434) (by decide +kernel)⟩
theorem lw_p14 : lw_okq (⟨"PictureScript$Text", "isAtDigit", "()Z"⟩, 5) := ⟨⟨by decide +kernel, by decide +kernel⟩, List.mem_of_getElem? (i := 25) (by decide +kernel), List.mem_of_getElem? (i := 437) (by decide +kernel), List.mem_of_getElem? (i := 438) (by decide +kernel)⟩
theorem lw_p15 : lw_okq (⟨"PictureScript$Text", "addDigit", "(I)Z"⟩, 5) := ⟨⟨by decide +kernel, by decide +kernel⟩, List.mem_of_getElem? (i := 25) (by decide +kernel), List.mem_of_getElem? (i := 441) (by decide +kernel), List.mem_of_getElem? (i := 442) (by decide +kernel)⟩
def lw_privs_1 : List (MethodName × Nat) := [(⟨"PictureScript$Play", "keepOneMoment", "()V"⟩, 6), (⟨"PictureScript$Moment", "carryOut", "(LPictureScript$Script;I)I"⟩, 4), (⟨"PictureScript$Moment", "putAt", "(III)V"⟩, 4), (⟨"PictureScript$Moment", "hide", "(I)V"⟩, 4), (⟨"PictureScript$Play", "see", "(I)Z"⟩, 6), (⟨"PictureScript$Chart", "follow", "(LPictureScript$Script;III)V"⟩, 8), (⟨"PictureScript$Chart", "arrive", "(LPictureScript$Script;I)V"⟩, 8), (⟨"PictureScript$Text", "skipBlanks", "()V"⟩, 5), (⟨"PictureScript$Text", "here", "()I"⟩, 5), (⟨"PictureScript$Text", "isAtEnd", "()Z"⟩, 5), (⟨"PictureScript$Text", "takeNode", "()Z"⟩, 5), (⟨"PictureScript$Text", "addVoice", "()Z"⟩, 5), (⟨"PictureScript$Text", "addNumber", "(I)Z"⟩, 5), (⟨"PictureScript$Text", "takeNumber", "(I)Z"⟩, 5), (⟨"PictureScript$Text", "isAtDigit", "()Z"⟩, 5), (⟨"PictureScript$Text", "addDigit", "(I)Z"⟩, 5)]
theorem lw_r1 : ∀ q ∈ lw_privs_1, lw_okq q := List.forall_mem_cons.mpr ⟨lw_p0, List.forall_mem_cons.mpr ⟨lw_p1, List.forall_mem_cons.mpr ⟨lw_p2, List.forall_mem_cons.mpr ⟨lw_p3, List.forall_mem_cons.mpr ⟨lw_p4, List.forall_mem_cons.mpr ⟨lw_p5, List.forall_mem_cons.mpr ⟨lw_p6, List.forall_mem_cons.mpr ⟨lw_p7, List.forall_mem_cons.mpr ⟨lw_p8, List.forall_mem_cons.mpr ⟨lw_p9, List.forall_mem_cons.mpr ⟨lw_p10, List.forall_mem_cons.mpr ⟨lw_p11, List.forall_mem_cons.mpr ⟨lw_p12, List.forall_mem_cons.mpr ⟨lw_p13, List.forall_mem_cons.mpr ⟨lw_p14, List.forall_mem_cons.mpr ⟨lw_p15, fun _ h => absurd h List.not_mem_nil⟩⟩⟩⟩⟩⟩⟩⟩⟩⟩⟩⟩⟩⟩⟩⟩
theorem lw_p16 : lw_okq (⟨"PictureScript$Text", "takeDigit", "(I)Z"⟩, 5) := ⟨⟨by decide +kernel, by decide +kernel⟩, List.mem_of_getElem? (i := 25) (by decide +kernel), List.mem_of_getElem? (i := 445) (by decide +kernel), List.mem_of_getElem? (i := 446) (by decide +kernel)⟩
theorem lw_p17 : lw_okq (⟨"PictureScript$Text", "addPlusOrMinus", "()Z"⟩, 5) := ⟨⟨by decide +kernel, by decide +kernel⟩, List.mem_of_getElem? (i := 25) (by decide +kernel), List.mem_of_getElem? (i := 449) (by decide +kernel), List.mem_of_getElem? (i := 450) (by decide +kernel)⟩
theorem lw_p18 : lw_okq (⟨"PictureScript$Text", "takeSign", "(C)Z"⟩, 5) := ⟨⟨by decide +kernel, by decide +kernel⟩, List.mem_of_getElem? (i := 25) (by decide +kernel), List.mem_of_getElem? (i := 453) (by decide +kernel), List.mem_of_getElem? (i := 454) (by decide +kernel)⟩
theorem lw_p19 : lw_okq (⟨"PictureScript$Text", "takeOptions", "()Z"⟩, 5) := ⟨⟨by decide +kernel, by decide +kernel⟩, List.mem_of_getElem? (i := 25) (by decide +kernel), List.mem_of_getElem? (i := 457) (by decide +kernel), List.mem_of_getElem? (i := 458) (by decide +kernel)⟩
theorem lw_p20 : lw_okq (⟨"PictureScript$Text", "takeOption", "()Z"⟩, 5) := ⟨⟨by decide +kernel, by decide +kernel⟩, List.mem_of_getElem? (i := 25) (by decide +kernel), List.mem_of_getElem? (i := 461) (by decide +kernel), List.mem_of_getElem? (i := 462) (by decide +kernel)⟩
theorem lw_p21 : lw_okq (⟨"PictureScript", "isLineShown", "()Z"⟩, 4) := ⟨⟨by decide +kernel, by decide +kernel⟩, List.mem_of_getElem? (i := 17) (by decide +kernel), List.mem_of_getElem? (i := 483) (by decide +kernel), List.mem_of_getElem? (i := 484) (by decide +kernel)⟩
theorem lw_p22 : lw_okq (⟨"PictureScript", "goOnFromLine", "()Z"⟩, 4) := ⟨⟨by decide +kernel, by decide +kernel⟩, List.mem_of_getElem? (i := 17) (by decide +kernel), List.mem_of_getElem? (i := 488) (by decide +kernel), List.mem_of_getElem? (i := 489) (by decide +kernel)⟩
theorem lw_p23 : lw_okq (⟨"PictureScript$Play", "forgetEarliest", "()V"⟩, 6) := ⟨⟨by decide +kernel, by decide +kernel⟩, List.mem_of_getElem? (i := 79) (by decide +kernel), List.mem_of_getElem? (i := 496) (by decide +kernel), List.mem_of_getElem? (i := 497) (by decide +kernel)⟩
theorem lw_p24 : lw_okq (⟨"PictureScript$Chart", "isReached", "(II)Z"⟩, 8) := ⟨⟨by decide +kernel, by decide +kernel⟩, List.mem_of_getElem? (i := 134) (by decide +kernel), List.mem_of_getElem? (i := 582) (by decide +kernel), List.mem_of_getElem? (i := 583) (by decide +kernel)⟩
theorem lw_p25 : lw_okq (⟨"PictureScript", "digestNode", "(JI)J"⟩, 4) := ⟨⟨by decide +kernel, by decide +kernel⟩, List.mem_of_getElem? (i := 17) (by decide +kernel), List.mem_of_getElem? (i := 638) (by decide +kernel), List.mem_of_getElem? (i := 639) (by decide +kernel)⟩
theorem lw_p26 : lw_okq (⟨"PictureScriptModel", "starts", "()V"⟩, 27) := ⟨⟨by decide +kernel, by decide +kernel⟩, List.mem_of_getElem? (i := 650) (by decide +kernel), List.mem_of_getElem? (i := 656) (by decide +kernel), List.mem_of_getElem? (i := 657) (by decide +kernel)⟩
theorem lw_p27 : lw_okq (⟨"PictureScriptModel", "carries", "(I)I"⟩, 27) := ⟨⟨by decide +kernel, by decide +kernel⟩, List.mem_of_getElem? (i := 650) (by decide +kernel), List.mem_of_getElem? (i := 660) (by decide +kernel), List.mem_of_getElem? (i := 661) (by decide +kernel)⟩
theorem lw_p28 : lw_okq (⟨"PictureScriptModel", "shownKind", "(I)I"⟩, 27) := ⟨⟨by decide +kernel, by decide +kernel⟩, List.mem_of_getElem? (i := 650) (by decide +kernel), List.mem_of_getElem? (i := 664) (by decide +kernel), List.mem_of_getElem? (i := 665) (by decide +kernel)⟩
theorem lw_p29 : lw_okq (⟨"PictureScriptModel", "of", "(II)I"⟩, 27) := ⟨⟨by decide +kernel, by decide +kernel⟩, List.mem_of_getElem? (i := 650) (by decide +kernel), List.mem_of_getElem? (i := 668) (by decide +kernel), List.mem_of_getElem? (i := 669) (by decide +kernel)⟩
theorem lw_p30 : lw_okq (⟨"PictureScriptModel", "does", "(I)I"⟩, 27) := ⟨⟨by decide +kernel, by decide +kernel⟩, List.mem_of_getElem? (i := 650) (by decide +kernel), List.mem_of_getElem? (i := 672) (by decide +kernel), List.mem_of_getElem? (i := 673) (by decide +kernel)⟩
theorem lw_p31 : lw_okq (⟨"PictureScriptModel", "leaves", "(I)V"⟩, 27) := ⟨⟨by decide +kernel, by decide +kernel⟩, List.mem_of_getElem? (i := 650) (by decide +kernel), List.mem_of_getElem? (i := 676) (by decide +kernel), List.mem_of_getElem? (i := 677) (by decide +kernel)⟩
def lw_privs_2 : List (MethodName × Nat) := [(⟨"PictureScript$Text", "takeDigit", "(I)Z"⟩, 5), (⟨"PictureScript$Text", "addPlusOrMinus", "()Z"⟩, 5), (⟨"PictureScript$Text", "takeSign", "(C)Z"⟩, 5), (⟨"PictureScript$Text", "takeOptions", "()Z"⟩, 5), (⟨"PictureScript$Text", "takeOption", "()Z"⟩, 5), (⟨"PictureScript", "isLineShown", "()Z"⟩, 4), (⟨"PictureScript", "goOnFromLine", "()Z"⟩, 4), (⟨"PictureScript$Play", "forgetEarliest", "()V"⟩, 6), (⟨"PictureScript$Chart", "isReached", "(II)Z"⟩, 8), (⟨"PictureScript", "digestNode", "(JI)J"⟩, 4), (⟨"PictureScriptModel", "starts", "()V"⟩, 27), (⟨"PictureScriptModel", "carries", "(I)I"⟩, 27), (⟨"PictureScriptModel", "shownKind", "(I)I"⟩, 27), (⟨"PictureScriptModel", "of", "(II)I"⟩, 27), (⟨"PictureScriptModel", "does", "(I)I"⟩, 27), (⟨"PictureScriptModel", "leaves", "(I)V"⟩, 27)]
theorem lw_r2 : ∀ q ∈ lw_privs_2, lw_okq q := List.forall_mem_cons.mpr ⟨lw_p16, List.forall_mem_cons.mpr ⟨lw_p17, List.forall_mem_cons.mpr ⟨lw_p18, List.forall_mem_cons.mpr ⟨lw_p19, List.forall_mem_cons.mpr ⟨lw_p20, List.forall_mem_cons.mpr ⟨lw_p21, List.forall_mem_cons.mpr ⟨lw_p22, List.forall_mem_cons.mpr ⟨lw_p23, List.forall_mem_cons.mpr ⟨lw_p24, List.forall_mem_cons.mpr ⟨lw_p25, List.forall_mem_cons.mpr ⟨lw_p26, List.forall_mem_cons.mpr ⟨lw_p27, List.forall_mem_cons.mpr ⟨lw_p28, List.forall_mem_cons.mpr ⟨lw_p29, List.forall_mem_cons.mpr ⟨lw_p30, List.forall_mem_cons.mpr ⟨lw_p31, fun _ h => absurd h List.not_mem_nil⟩⟩⟩⟩⟩⟩⟩⟩⟩⟩⟩⟩⟩⟩⟩⟩
theorem lw_p32 : lw_okq (⟨"PictureScriptModel", "puts", "(I)V"⟩, 27) := ⟨⟨by decide +kernel, by decide +kernel⟩, List.mem_of_getElem? (i := 650) (by decide +kernel), List.mem_of_getElem? (i := 680) (by decide +kernel), List.mem_of_getElem? (i := 681) (by decide +kernel)⟩
theorem lw_p33 : lw_okq (⟨"PictureScriptModel", "placeOf", "(I)I"⟩, 27) := ⟨⟨by decide +kernel, by decide +kernel⟩, List.mem_of_getElem? (i := 650) (by decide +kernel), List.mem_of_getElem? (i := 684) (by decide +kernel), List.mem_of_getElem? (i := 685) (by decide +kernel)⟩
theorem lw_p34 : lw_okq (⟨"PictureScriptModel", "reads", "()V"⟩, 27) := ⟨⟨by decide +kernel, by decide +kernel⟩, List.mem_of_getElem? (i := 650) (by decide +kernel), List.mem_of_getElem? (i := 785) (by decide +kernel), List.mem_of_getElem? (i := 786) (by decide +kernel)⟩
theorem lw_p35 : lw_okq (⟨"PictureScriptModel", "blanks", "()V"⟩, 27) := ⟨⟨by decide +kernel, by decide +kernel⟩, List.mem_of_getElem? (i := 650) (by decide +kernel), List.mem_of_getElem? (i := 789) (by decide +kernel), List.mem_of_getElem? (i := 790) (by decide +kernel)⟩
theorem lw_p36 : lw_okq (⟨"PictureScriptModel", "next", "()I"⟩, 27) := ⟨⟨by decide +kernel, by decide +kernel⟩, List.mem_of_getElem? (i := 650) (by decide +kernel), List.mem_of_getElem? (i := 793) (by decide +kernel), List.mem_of_getElem? (i := 794) (by decide +kernel)⟩
theorem lw_p37 : lw_okq (⟨"PictureScriptModel", "readsNode", "()V"⟩, 27) := ⟨⟨by decide +kernel, by decide +kernel⟩, List.mem_of_getElem? (i := 650) (by decide +kernel), List.mem_of_getElem? (i := 797) (by decide +kernel), List.mem_of_getElem? (i := 798) (by decide +kernel)⟩
theorem lw_p38 : lw_okq (⟨"PictureScriptModel", "fails", "(I)V"⟩, 27) := ⟨⟨by decide +kernel, by decide +kernel⟩, List.mem_of_getElem? (i := 650) (by decide +kernel), List.mem_of_getElem? (i := 804) (by decide +kernel), List.mem_of_getElem? (i := 805) (by decide +kernel)⟩
theorem lw_p39 : lw_okq (⟨"PictureScriptModel", "take", "(Z)I"⟩, 27) := ⟨⟨by decide +kernel, by decide +kernel⟩, List.mem_of_getElem? (i := 650) (by decide +kernel), List.mem_of_getElem? (i := 808) (by decide +kernel), List.mem_of_getElem? (i := 809) (by decide +kernel)⟩
theorem lw_p40 : lw_okq (⟨"PictureScriptModel", "voice", "()I"⟩, 27) := ⟨⟨by decide +kernel, by decide +kernel⟩, List.mem_of_getElem? (i := 650) (by decide +kernel), List.mem_of_getElem? (i := 812) (by decide +kernel), List.mem_of_getElem? (i := 813) (by decide +kernel)⟩
theorem lw_p41 : lw_okq (⟨"PictureScriptModel", "number", "(I)I"⟩, 27) := ⟨⟨by decide +kernel, by decide +kernel⟩, List.mem_of_getElem? (i := 650) (by decide +kernel), List.mem_of_getElem? (i := 816) (by decide +kernel), List.mem_of_getElem? (i := 817) (by decide +kernel)⟩
theorem lw_p42 : lw_okq (⟨"PictureScriptModel", "isDigit", "()Z"⟩, 27) := ⟨⟨by decide +kernel, by decide +kernel⟩, List.mem_of_getElem? (i := 650) (by decide +kernel), List.mem_of_getElem? (i := 820) (by decide +kernel), List.mem_of_getElem? (i := 821) (by decide +kernel)⟩
theorem lw_p43 : lw_okq (⟨"PictureScriptModel", "digit", "(I)I"⟩, 27) := ⟨⟨by decide +kernel, by decide +kernel⟩, List.mem_of_getElem? (i := 650) (by decide +kernel), List.mem_of_getElem? (i := 824) (by decide +kernel), List.mem_of_getElem? (i := 825) (by decide +kernel)⟩
theorem lw_p44 : lw_okq (⟨"PictureScriptModel", "readsOptions", "(I)V"⟩, 27) := ⟨⟨by decide +kernel, by decide +kernel⟩, List.mem_of_getElem? (i := 650) (by decide +kernel), List.mem_of_getElem? (i := 828) (by decide +kernel), List.mem_of_getElem? (i := 829) (by decide +kernel)⟩
theorem lw_p45 : lw_okq (⟨"PictureScriptModel", "present", "(I)I"⟩, 27) := ⟨⟨by decide +kernel, by decide +kernel⟩, List.mem_of_getElem? (i := 650) (by decide +kernel), List.mem_of_getElem? (i := 840) (by decide +kernel), List.mem_of_getElem? (i := 841) (by decide +kernel)⟩
theorem lw_p46 : lw_okq (⟨"PictureScriptModel", "goesOn", "(I)V"⟩, 27) := ⟨⟨by decide +kernel, by decide +kernel⟩, List.mem_of_getElem? (i := 650) (by decide +kernel), List.mem_of_getElem? (i := 848) (by decide +kernel), List.mem_of_getElem? (i := 849) (by decide +kernel)⟩
theorem lw_p47 : lw_okq (⟨"PictureScriptModel", "takes", "()V"⟩, 27) := ⟨⟨by decide +kernel, by decide +kernel⟩, List.mem_of_getElem? (i := 650) (by decide +kernel), List.mem_of_getElem? (i := 852) (by decide +kernel), List.mem_of_getElem? (i := 853) (by decide +kernel)⟩
def lw_privs_3 : List (MethodName × Nat) := [(⟨"PictureScriptModel", "puts", "(I)V"⟩, 27), (⟨"PictureScriptModel", "placeOf", "(I)I"⟩, 27), (⟨"PictureScriptModel", "reads", "()V"⟩, 27), (⟨"PictureScriptModel", "blanks", "()V"⟩, 27), (⟨"PictureScriptModel", "next", "()I"⟩, 27), (⟨"PictureScriptModel", "readsNode", "()V"⟩, 27), (⟨"PictureScriptModel", "fails", "(I)V"⟩, 27), (⟨"PictureScriptModel", "take", "(Z)I"⟩, 27), (⟨"PictureScriptModel", "voice", "()I"⟩, 27), (⟨"PictureScriptModel", "number", "(I)I"⟩, 27), (⟨"PictureScriptModel", "isDigit", "()Z"⟩, 27), (⟨"PictureScriptModel", "digit", "(I)I"⟩, 27), (⟨"PictureScriptModel", "readsOptions", "(I)V"⟩, 27), (⟨"PictureScriptModel", "present", "(I)I"⟩, 27), (⟨"PictureScriptModel", "goesOn", "(I)V"⟩, 27), (⟨"PictureScriptModel", "takes", "()V"⟩, 27)]
theorem lw_r3 : ∀ q ∈ lw_privs_3, lw_okq q := List.forall_mem_cons.mpr ⟨lw_p32, List.forall_mem_cons.mpr ⟨lw_p33, List.forall_mem_cons.mpr ⟨lw_p34, List.forall_mem_cons.mpr ⟨lw_p35, List.forall_mem_cons.mpr ⟨lw_p36, List.forall_mem_cons.mpr ⟨lw_p37, List.forall_mem_cons.mpr ⟨lw_p38, List.forall_mem_cons.mpr ⟨lw_p39, List.forall_mem_cons.mpr ⟨lw_p40, List.forall_mem_cons.mpr ⟨lw_p41, List.forall_mem_cons.mpr ⟨lw_p42, List.forall_mem_cons.mpr ⟨lw_p43, List.forall_mem_cons.mpr ⟨lw_p44, List.forall_mem_cons.mpr ⟨lw_p45, List.forall_mem_cons.mpr ⟨lw_p46, List.forall_mem_cons.mpr ⟨lw_p47, fun _ h => absurd h List.not_mem_nil⟩⟩⟩⟩⟩⟩⟩⟩⟩⟩⟩⟩⟩⟩⟩⟩
theorem lw_p48 : lw_okq (⟨"PictureScriptModel", "isLocked", "(III)Z"⟩, 27) := ⟨⟨by decide +kernel, by decide +kernel⟩, List.mem_of_getElem? (i := 650) (by decide +kernel), List.mem_of_getElem? (i := 860) (by decide +kernel), List.mem_of_getElem? (i := 861) (by decide +kernel)⟩
theorem lw_p49 : lw_okq (⟨"PictureScriptModel", "endOf", "(I)I"⟩, 27) := ⟨⟨by decide +kernel, by decide +kernel⟩, List.mem_of_getElem? (i := 650) (by decide +kernel), List.mem_of_getElem? (i := 888) (by decide +kernel), List.mem_of_getElem? (i := 889) (by decide +kernel)⟩
theorem lw_p50 : lw_okq (⟨"PictureScriptModel", "open", "()I"⟩, 27) := ⟨⟨by decide +kernel, by decide +kernel⟩, List.mem_of_getElem? (i := 650) (by decide +kernel), List.mem_of_getElem? (i := 892) (by decide +kernel), List.mem_of_getElem? (i := 893) (by decide +kernel)⟩
theorem lw_p51 : lw_okq (⟨"PictureScriptModel", "isNode", "(I)Z"⟩, 27) := ⟨⟨by decide +kernel, by decide +kernel⟩, List.mem_of_getElem? (i := 650) (by decide +kernel), List.mem_of_getElem? (i := 904) (by decide +kernel), List.mem_of_getElem? (i := 905) (by decide +kernel)⟩
theorem lw_p52 : lw_okq (⟨"PictureScriptModel", "isChoice", "(I)Z"⟩, 27) := ⟨⟨by decide +kernel, by decide +kernel⟩, List.mem_of_getElem? (i := 650) (by decide +kernel), List.mem_of_getElem? (i := 912) (by decide +kernel), List.mem_of_getElem? (i := 913) (by decide +kernel)⟩
theorem lw_p53 : lw_okq (⟨"PictureScriptModel", "charts", "()V"⟩, 27) := ⟨⟨by decide +kernel, by decide +kernel⟩, List.mem_of_getElem? (i := 650) (by decide +kernel), List.mem_of_getElem? (i := 920) (by decide +kernel), List.mem_of_getElem? (i := 921) (by decide +kernel)⟩
theorem lw_p54 : lw_okq (⟨"PictureScriptModel", "follows", "(III)V"⟩, 27) := ⟨⟨by decide +kernel, by decide +kernel⟩, List.mem_of_getElem? (i := 650) (by decide +kernel), List.mem_of_getElem? (i := 924) (by decide +kernel), List.mem_of_getElem? (i := 925) (by decide +kernel)⟩
theorem lw_p55 : lw_okq (⟨"PictureScriptModel", "situationsOf", "(I)I"⟩, 27) := ⟨⟨by decide +kernel, by decide +kernel⟩, List.mem_of_getElem? (i := 650) (by decide +kernel), List.mem_of_getElem? (i := 928) (by decide +kernel), List.mem_of_getElem? (i := 929) (by decide +kernel)⟩
theorem lw_p56 : lw_okq (⟨"PictureScriptModel", "stepsTo", "(I)I"⟩, 27) := ⟨⟨by decide +kernel, by decide +kernel⟩, List.mem_of_getElem? (i := 650) (by decide +kernel), List.mem_of_getElem? (i := 939) (by decide +kernel), List.mem_of_getElem? (i := 940) (by decide +kernel)⟩
theorem lw_p57 : lw_okq (⟨"PictureScriptModel", "isUsable", "(II)I"⟩, 27) := ⟨⟨by decide +kernel, by decide +kernel⟩, List.mem_of_getElem? (i := 650) (by decide +kernel), List.mem_of_getElem? (i := 951) (by decide +kernel), List.mem_of_getElem? (i := 952) (by decide +kernel)⟩
theorem lw_p58 : lw_okq (⟨"PictureScriptModel", "seenNodes", "()I"⟩, 27) := ⟨⟨by decide +kernel, by decide +kernel⟩, List.mem_of_getElem? (i := 650) (by decide +kernel), List.mem_of_getElem? (i := 959) (by decide +kernel), List.mem_of_getElem? (i := 960) (by decide +kernel)⟩
theorem lw_p59 : lw_okq (⟨"PictureScriptModel", "savedMoments", "()I"⟩, 27) := ⟨⟨by decide +kernel, by decide +kernel⟩, List.mem_of_getElem? (i := 650) (by decide +kernel), List.mem_of_getElem? (i := 963) (by decide +kernel), List.mem_of_getElem? (i := 964) (by decide +kernel)⟩
theorem lw_p60 : lw_okq (⟨"PictureScriptModel", "ends", "()I"⟩, 27) := ⟨⟨by decide +kernel, by decide +kernel⟩, List.mem_of_getElem? (i := 650) (by decide +kernel), List.mem_of_getElem? (i := 967) (by decide +kernel), List.mem_of_getElem? (i := 968) (by decide +kernel)⟩
theorem lw_p61 : lw_okq (⟨"PictureScriptModel", "mixes", "(I)V"⟩, 27) := ⟨⟨by decide +kernel, by decide +kernel⟩, List.mem_of_getElem? (i := 650) (by decide +kernel), List.mem_of_getElem? (i := 977) (by decide +kernel), List.mem_of_getElem? (i := 978) (by decide +kernel)⟩
theorem lw_p62 : lw_okq (⟨"PictureScriptModel", "mixesNode", "(I)V"⟩, 27) := ⟨⟨by decide +kernel, by decide +kernel⟩, List.mem_of_getElem? (i := 650) (by decide +kernel), List.mem_of_getElem? (i := 984) (by decide +kernel), List.mem_of_getElem? (i := 985) (by decide +kernel)⟩
def lw_privs_4 : List (MethodName × Nat) := [(⟨"PictureScriptModel", "isLocked", "(III)Z"⟩, 27), (⟨"PictureScriptModel", "endOf", "(I)I"⟩, 27), (⟨"PictureScriptModel", "open", "()I"⟩, 27), (⟨"PictureScriptModel", "isNode", "(I)Z"⟩, 27), (⟨"PictureScriptModel", "isChoice", "(I)Z"⟩, 27), (⟨"PictureScriptModel", "charts", "()V"⟩, 27), (⟨"PictureScriptModel", "follows", "(III)V"⟩, 27), (⟨"PictureScriptModel", "situationsOf", "(I)I"⟩, 27), (⟨"PictureScriptModel", "stepsTo", "(I)I"⟩, 27), (⟨"PictureScriptModel", "isUsable", "(II)I"⟩, 27), (⟨"PictureScriptModel", "seenNodes", "()I"⟩, 27), (⟨"PictureScriptModel", "savedMoments", "()I"⟩, 27), (⟨"PictureScriptModel", "ends", "()I"⟩, 27), (⟨"PictureScriptModel", "mixes", "(I)V"⟩, 27), (⟨"PictureScriptModel", "mixesNode", "(I)V"⟩, 27)]
theorem lw_r4 : ∀ q ∈ lw_privs_4, lw_okq q := List.forall_mem_cons.mpr ⟨lw_p48, List.forall_mem_cons.mpr ⟨lw_p49, List.forall_mem_cons.mpr ⟨lw_p50, List.forall_mem_cons.mpr ⟨lw_p51, List.forall_mem_cons.mpr ⟨lw_p52, List.forall_mem_cons.mpr ⟨lw_p53, List.forall_mem_cons.mpr ⟨lw_p54, List.forall_mem_cons.mpr ⟨lw_p55, List.forall_mem_cons.mpr ⟨lw_p56, List.forall_mem_cons.mpr ⟨lw_p57, List.forall_mem_cons.mpr ⟨lw_p58, List.forall_mem_cons.mpr ⟨lw_p59, List.forall_mem_cons.mpr ⟨lw_p60, List.forall_mem_cons.mpr ⟨lw_p61, List.forall_mem_cons.mpr ⟨lw_p62, fun _ h => absurd h List.not_mem_nil⟩⟩⟩⟩⟩⟩⟩⟩⟩⟩⟩⟩⟩⟩⟩
def lw_privs : List (MethodName × Nat) := lw_privs_1 ++ (lw_privs_2 ++ (lw_privs_3 ++ (lw_privs_4)))
def lw_tbl : List Cond := k2_sels lw_privs ++ tables_1
theorem lw_privs_ok : ∀ q ∈ lw_privs, lw_okq q := by
  show ∀ q ∈ lw_privs_1 ++ (lw_privs_2 ++ (lw_privs_3 ++ (lw_privs_4))), lw_okq q
  exact List.forall_mem_append.mpr ⟨lw_r1, List.forall_mem_append.mpr ⟨lw_r2, List.forall_mem_append.mpr ⟨lw_r3, lw_r4⟩⟩⟩
end
section
def RX0 : String := "PictureScript$Chart"
def TX0 : u_T := fun k => match k with
  | 0 => ("PictureScript$Chart", "reached", "I", false)
  | 1 => ("PictureScript$Chart", "choices", "[I", true)
  | 2 => ("PictureScript$Chart", "lastChoice", "[I", true)
  | 3 => ("PictureScript$Chart", "lastOption", "[I", true)
  | 4 => ("PictureScript$Chart", "waiting", "[I", true)
  | 5 => ("PictureScript$Chart", "waitingCount", "I", false)
  | 6 => ("PictureScript$Chart", "endSituation", "[I", true)
  | _ => ("PictureScript$Chart", "moment", "LPictureScript$Moment;", true)
def tyX0 : Nat → FieldType := fun k => match k with
  | 0 => .int
  | 1 => .array .int
  | 2 => .array .int
  | 3 => .array .int
  | 4 => .array .int
  | 5 => .int
  | 6 => .array .int
  | _ => .object "PictureScript$Moment"
abbrev wsX00 : List Cond := u_ws RX0 TX0 8
theorem nmX0 : ∀ a, a < 8 → ∀ b, b < 8 → a ≠ b → (TX0 a).2.1 ≠ (TX0 b).2.1 := by decide +kernel
theorem tyX0_ok : ∀ k, k < 8 → parseFieldDescriptor (TX0 k).2.2.1 = some (tyX0 k) := by decide +kernel
abbrev cX0_init : ByteArray := prog_2_method_1_code
def yX0_init : MethodName := ⟨RX0, "<init>", "()V"⟩
abbrev cX0_draw : ByteArray := prog_2_method_2_code
def yX0_draw : MethodName := ⟨RX0, "draw", "(LPictureScript$Script;)V"⟩
abbrev cX0_reachedWith : ByteArray := prog_2_method_3_code
def yX0_reachedWith : MethodName := ⟨RX0, "reachedWith", "(I)I"⟩
abbrev cX0_reachedEnds : ByteArray := prog_2_method_4_code
def yX0_reachedEnds : MethodName := ⟨RX0, "reachedEnds", "()I"⟩
abbrev cX0_wayLength : ByteArray := prog_2_method_5_code
def yX0_wayLength : MethodName := ⟨RX0, "wayLength", "(I)I"⟩
abbrev cX0_wayChoice : ByteArray := prog_2_method_6_code
def yX0_wayChoice : MethodName := ⟨RX0, "wayChoice", "(II)I"⟩
abbrev cX0_canUse : ByteArray := prog_2_method_7_code
def yX0_canUse : MethodName := ⟨RX0, "canUse", "(LPictureScript$Script;II)Z"⟩
abbrev cX0_follow : ByteArray := prog_2_method_8_code
def yX0_follow : MethodName := ⟨RX0, "follow", "(LPictureScript$Script;III)V"⟩
abbrev cX0_arrive : ByteArray := prog_2_method_9_code
def yX0_arrive : MethodName := ⟨RX0, "arrive", "(LPictureScript$Script;I)V"⟩
abbrev cX0_isReached : ByteArray := prog_2_method_10_code
def yX0_isReached : MethodName := ⟨RX0, "isReached", "(II)Z"⟩
abbrev cX0_isSituation : ByteArray := prog_2_method_11_code
def yX0_isSituation : MethodName := ⟨RX0, "isSituation", "(I)Z"⟩
abbrev cX0_nodeOf : ByteArray := prog_2_method_12_code
def yX0_nodeOf : MethodName := ⟨RX0, "nodeOf", "(I)I"⟩
abbrev cX0_flagsOf : ByteArray := prog_2_method_13_code
def yX0_flagsOf : MethodName := ⟨RX0, "flagsOf", "(I)I"⟩
def RX1 : String := "PictureScript$Moment"
def TX1 : u_T := fun k => match k with
  | 0 => ("PictureScript$Moment", "node", "I", false)
  | 1 => ("PictureScript$Moment", "flags", "I", false)
  | 2 => ("PictureScript$Moment", "voices", "[I", true)
  | _ => ("PictureScript$Moment", "faces", "[I", true)
def tyX1 : Nat → FieldType := fun k => match k with
  | 0 => .int
  | 1 => .int
  | 2 => .array .int
  | _ => .array .int
abbrev wsX10 : List Cond := u_ws RX1 TX1 4
theorem nmX1 : ∀ a, a < 4 → ∀ b, b < 4 → a ≠ b → (TX1 a).2.1 ≠ (TX1 b).2.1 := by decide +kernel
theorem tyX1_ok : ∀ k, k < 4 → parseFieldDescriptor (TX1 k).2.2.1 = some (tyX1 k) := by decide +kernel
abbrev cX1_init : ByteArray := prog_3_method_1_code
def yX1_init : MethodName := ⟨RX1, "<init>", "()V"⟩
abbrev cX1_makeEmpty : ByteArray := prog_3_method_2_code
def yX1_makeEmpty : MethodName := ⟨RX1, "makeEmpty", "()V"⟩
abbrev cX1_makeLike : ByteArray := prog_3_method_3_code
def yX1_makeLike : MethodName := ⟨RX1, "makeLike", "(LPictureScript$Moment;)V"⟩
abbrev cX1_comeFrom : ByteArray := prog_3_method_4_code
def yX1_comeFrom : MethodName := ⟨RX1, "comeFrom", "(LPictureScript$Script;I)V"⟩
abbrev cX1_carryOut : ByteArray := prog_3_method_5_code
def yX1_carryOut : MethodName := ⟨RX1, "carryOut", "(LPictureScript$Script;I)I"⟩
abbrev cX1_putAt : ByteArray := prog_3_method_6_code
def yX1_putAt : MethodName := ⟨RX1, "putAt", "(III)V"⟩
abbrev cX1_hide : ByteArray := prog_3_method_7_code
def yX1_hide : MethodName := ⟨RX1, "hide", "(I)V"⟩
def RX2 : String := "PictureScript$Play"
def TX2 : u_T := fun k => match k with
  | 0 => ("PictureScript$Play", "moments", "[LPictureScript$Moment;", true)
  | 1 => ("PictureScript$Play", "kept", "I", false)
  | 2 => ("PictureScript$Play", "present", "I", false)
  | 3 => ("PictureScript$Play", "saved", "[LPictureScript$Moment;", true)
  | 4 => ("PictureScript$Play", "isSaved", "[Z", true)
  | _ => ("PictureScript$Play", "seen", "[Z", true)
def tyX2 : Nat → FieldType := fun k => match k with
  | 0 => .array (.object "PictureScript$Moment")
  | 1 => .int
  | 2 => .int
  | 3 => .array (.object "PictureScript$Moment")
  | 4 => .array .boolean
  | _ => .array .boolean
abbrev wsX20 : List Cond := u_ws RX2 TX2 6
theorem nmX2 : ∀ a, a < 6 → ∀ b, b < 6 → a ≠ b → (TX2 a).2.1 ≠ (TX2 b).2.1 := by decide +kernel
theorem tyX2_ok : ∀ k, k < 6 → parseFieldDescriptor (TX2 k).2.2.1 = some (tyX2 k) := by decide +kernel
abbrev cX2_init : ByteArray := prog_4_method_1_code
def yX2_init : MethodName := ⟨RX2, "<init>", "()V"⟩
abbrev cX2_now : ByteArray := prog_4_method_2_code
def yX2_now : MethodName := ⟨RX2, "now", "()LPictureScript$Moment;"⟩
abbrev cX2_startScript : ByteArray := prog_4_method_3_code
def yX2_startScript : MethodName := ⟨RX2, "startScript", "(LPictureScript$Script;)V"⟩
abbrev cX2_startAnew : ByteArray := prog_4_method_4_code
def yX2_startAnew : MethodName := ⟨RX2, "startAnew", "(LPictureScript$Script;)V"⟩
abbrev cX2_goOn : ByteArray := prog_4_method_5_code
def yX2_goOn : MethodName := ⟨RX2, "goOn", "(LPictureScript$Script;I)Z"⟩
abbrev cX2_turnBack : ByteArray := prog_4_method_6_code
def yX2_turnBack : MethodName := ⟨RX2, "turnBack", "(I)Z"⟩
abbrev cX2_turnForth : ByteArray := prog_4_method_7_code
def yX2_turnForth : MethodName := ⟨RX2, "turnForth", "()Z"⟩
abbrev cX2_keepIn : ByteArray := prog_4_method_8_code
def yX2_keepIn : MethodName := ⟨RX2, "keepIn", "(I)V"⟩
abbrev cX2_takeFrom : ByteArray := prog_4_method_9_code
def yX2_takeFrom : MethodName := ⟨RX2, "takeFrom", "(I)Z"⟩
abbrev cX2_seenNodes : ByteArray := prog_4_method_10_code
def yX2_seenNodes : MethodName := ⟨RX2, "seenNodes", "()I"⟩
abbrev cX2_usedSlots : ByteArray := prog_4_method_11_code
def yX2_usedSlots : MethodName := ⟨RX2, "usedSlots", "()I"⟩
abbrev cX2_keepOneMoment : ByteArray := prog_4_method_12_code
def yX2_keepOneMoment : MethodName := ⟨RX2, "keepOneMoment", "()V"⟩
abbrev cX2_forgetEarliest : ByteArray := prog_4_method_13_code
def yX2_forgetEarliest : MethodName := ⟨RX2, "forgetEarliest", "()V"⟩
abbrev cX2_see : ByteArray := prog_4_method_14_code
def yX2_see : MethodName := ⟨RX2, "see", "(I)Z"⟩
def RX3 : String := "PictureScript$Script"
def TX3 : u_T := fun k => match k with
  | 0 => ("PictureScript$Script", "nodes", "I", false)
  | 1 => ("PictureScript$Script", "kinds", "[I", true)
  | 2 => ("PictureScript$Script", "numberCounts", "[I", true)
  | 3 => ("PictureScript$Script", "numbers", "[I", true)
  | 4 => ("PictureScript$Script", "optionCounts", "[I", true)
  | _ => ("PictureScript$Script", "optionParts", "[I", true)
def tyX3 : Nat → FieldType := fun k => match k with
  | 0 => .int
  | 1 => .array .int
  | 2 => .array .int
  | 3 => .array .int
  | 4 => .array .int
  | _ => .array .int
abbrev wsX30 : List Cond := u_ws RX3 TX3 6
theorem nmX3 : ∀ a, a < 6 → ∀ b, b < 6 → a ≠ b → (TX3 a).2.1 ≠ (TX3 b).2.1 := by decide +kernel
theorem tyX3_ok : ∀ k, k < 6 → parseFieldDescriptor (TX3 k).2.2.1 = some (tyX3 k) := by decide +kernel
abbrev cX3_init : ByteArray := prog_5_method_1_code
def yX3_init : MethodName := ⟨RX3, "<init>", "()V"⟩
abbrev cX3_clear : ByteArray := prog_5_method_2_code
def yX3_clear : MethodName := ⟨RX3, "clear", "()V"⟩
abbrev cX3_addNode : ByteArray := prog_5_method_3_code
def yX3_addNode : MethodName := ⟨RX3, "addNode", "(I)V"⟩
abbrev cX3_addNumber : ByteArray := prog_5_method_4_code
def yX3_addNumber : MethodName := ⟨RX3, "addNumber", "(I)V"⟩
abbrev cX3_addOption : ByteArray := prog_5_method_5_code
def yX3_addOption : MethodName := ⟨RX3, "addOption", "(III)V"⟩
abbrev cX3_has : ByteArray := prog_5_method_6_code
def yX3_has : MethodName := ⟨RX3, "has", "(I)Z"⟩
abbrev cX3_kindOf : ByteArray := prog_5_method_7_code
def yX3_kindOf : MethodName := ⟨RX3, "kindOf", "(I)I"⟩
abbrev cX3_optionsOf : ByteArray := prog_5_method_8_code
def yX3_optionsOf : MethodName := ⟨RX3, "optionsOf", "(I)I"⟩
abbrev cX3_numberOf : ByteArray := prog_5_method_9_code
def yX3_numberOf : MethodName := ⟨RX3, "numberOf", "(II)I"⟩
abbrev cX3_optionPart : ByteArray := prog_5_method_10_code
def yX3_optionPart : MethodName := ⟨RX3, "optionPart", "(III)I"⟩
abbrev cX3_isOpen : ByteArray := prog_5_method_11_code
def yX3_isOpen : MethodName := ⟨RX3, "isOpen", "(III)Z"⟩
abbrev cX3_openOptions : ByteArray := prog_5_method_12_code
def yX3_openOptions : MethodName := ⟨RX3, "openOptions", "(II)I"⟩
abbrev cX3_isShown : ByteArray := prog_5_method_13_code
def yX3_isShown : MethodName := ⟨RX3, "isShown", "(I)Z"⟩
abbrev cX3_shownKind : ByteArray := prog_5_method_14_code
def yX3_shownKind : MethodName := ⟨RX3, "shownKind", "(I)I"⟩
abbrev cX3_shownNumber : ByteArray := prog_5_method_15_code
def yX3_shownNumber : MethodName := ⟨RX3, "shownNumber", "(I)I"⟩
def RX4 : String := "PictureScript$Text"
def TX4 : u_T := fun k => match k with
  | 0 => ("PictureScript$Text", "length", "I", false)
  | 1 => ("PictureScript$Text", "bytes", "[B", true)
  | 2 => ("PictureScript$Text", "draft", "LPictureScript$Script;", false)
  | 3 => ("PictureScript$Text", "at", "I", false)
  | _ => ("PictureScript$Text", "number", "I", false)
def tyX4 : Nat → FieldType := fun k => match k with
  | 0 => .int
  | 1 => .array .byte
  | 2 => .object "PictureScript$Script"
  | 3 => .int
  | _ => .int
abbrev wsX40 : List Cond := u_ws RX4 TX4 5
theorem nmX4 : ∀ a, a < 5 → ∀ b, b < 5 → a ≠ b → (TX4 a).2.1 ≠ (TX4 b).2.1 := by decide +kernel
theorem tyX4_ok : ∀ k, k < 5 → parseFieldDescriptor (TX4 k).2.2.1 = some (tyX4 k) := by decide +kernel
abbrev cX4_init : ByteArray := prog_6_method_1_code
def yX4_init : MethodName := ⟨RX4, "<init>", "()V"⟩
abbrev cX4_append : ByteArray := prog_6_method_2_code
def yX4_append : MethodName := ⟨RX4, "append", "(B)Z"⟩
abbrev cX4_byteAt : ByteArray := prog_6_method_3_code
def yX4_byteAt : MethodName := ⟨RX4, "byteAt", "(I)I"⟩
abbrev cX4_findFault : ByteArray := prog_6_method_4_code
def yX4_findFault : MethodName := ⟨RX4, "findFault", "()I"⟩
abbrev cX4_takeNode : ByteArray := prog_6_method_5_code
def yX4_takeNode : MethodName := ⟨RX4, "takeNode", "()Z"⟩
abbrev cX4_takeOptions : ByteArray := prog_6_method_6_code
def yX4_takeOptions : MethodName := ⟨RX4, "takeOptions", "()Z"⟩
abbrev cX4_takeOption : ByteArray := prog_6_method_7_code
def yX4_takeOption : MethodName := ⟨RX4, "takeOption", "()Z"⟩
abbrev cX4_addVoice : ByteArray := prog_6_method_8_code
def yX4_addVoice : MethodName := ⟨RX4, "addVoice", "()Z"⟩
abbrev cX4_addPlusOrMinus : ByteArray := prog_6_method_9_code
def yX4_addPlusOrMinus : MethodName := ⟨RX4, "addPlusOrMinus", "()Z"⟩
abbrev cX4_addDigit : ByteArray := prog_6_method_10_code
def yX4_addDigit : MethodName := ⟨RX4, "addDigit", "(I)Z"⟩
abbrev cX4_addNumber : ByteArray := prog_6_method_11_code
def yX4_addNumber : MethodName := ⟨RX4, "addNumber", "(I)Z"⟩
abbrev cX4_takeDigit : ByteArray := prog_6_method_12_code
def yX4_takeDigit : MethodName := ⟨RX4, "takeDigit", "(I)Z"⟩
abbrev cX4_takeNumber : ByteArray := prog_6_method_13_code
def yX4_takeNumber : MethodName := ⟨RX4, "takeNumber", "(I)Z"⟩
abbrev cX4_takeSign : ByteArray := prog_6_method_14_code
def yX4_takeSign : MethodName := ⟨RX4, "takeSign", "(C)Z"⟩
abbrev cX4_skipBlanks : ByteArray := prog_6_method_15_code
def yX4_skipBlanks : MethodName := ⟨RX4, "skipBlanks", "()V"⟩
abbrev cX4_isAtDigit : ByteArray := prog_6_method_16_code
def yX4_isAtDigit : MethodName := ⟨RX4, "isAtDigit", "()Z"⟩
abbrev cX4_isAtEnd : ByteArray := prog_6_method_17_code
def yX4_isAtEnd : MethodName := ⟨RX4, "isAtEnd", "()Z"⟩
abbrev cX4_here : ByteArray := prog_6_method_18_code
def yX4_here : MethodName := ⟨RX4, "here", "()I"⟩
def RX5 : String := "PictureScript"
def TX5 : u_T := fun k => match k with
  | 0 => ("PictureScript", "text", "LPictureScript$Text;", true)
  | 1 => ("PictureScript", "script", "LPictureScript$Script;", false)
  | 2 => ("PictureScript", "play", "LPictureScript$Play;", true)
  | _ => ("PictureScript", "chart", "LPictureScript$Chart;", true)
def tyX5 : Nat → FieldType := fun k => match k with
  | 0 => .object "PictureScript$Text"
  | 1 => .object "PictureScript$Script"
  | 2 => .object "PictureScript$Play"
  | _ => .object "PictureScript$Chart"
abbrev wsX50 : List Cond := u_ws RX5 TX5 4
theorem nmX5 : ∀ a, a < 4 → ∀ b, b < 4 → a ≠ b → (TX5 a).2.1 ≠ (TX5 b).2.1 := by decide +kernel
theorem tyX5_ok : ∀ k, k < 4 → parseFieldDescriptor (TX5 k).2.2.1 = some (tyX5 k) := by decide +kernel
abbrev cX5_init : ByteArray := prog_1_method_1_code
def yX5_init : MethodName := ⟨RX5, "<init>", "()V"⟩
abbrev cX5_type : ByteArray := prog_1_method_2_code
def yX5_type : MethodName := ⟨RX5, "type", "(I)I"⟩
abbrev cX5_clearText : ByteArray := prog_1_method_3_code
def yX5_clearText : MethodName := ⟨RX5, "clearText", "()I"⟩
abbrev cX5_fault : ByteArray := prog_1_method_4_code
def yX5_fault : MethodName := ⟨RX5, "fault", "()I"⟩
abbrev cX5_read : ByteArray := prog_1_method_5_code
def yX5_read : MethodName := ⟨RX5, "read", "()I"⟩
abbrev cX5_begin : ByteArray := prog_1_method_6_code
def yX5_begin : MethodName := ⟨RX5, "begin", "()I"⟩
abbrev cX5_go : ByteArray := prog_1_method_7_code
def yX5_go : MethodName := ⟨RX5, "go", "()I"⟩
abbrev cX5_choose : ByteArray := prog_1_method_8_code
def yX5_choose : MethodName := ⟨RX5, "choose", "(I)I"⟩
abbrev cX5_skip : ByteArray := prog_1_method_9_code
def yX5_skip : MethodName := ⟨RX5, "skip", "()I"⟩
abbrev cX5_back : ByteArray := prog_1_method_10_code
def yX5_back : MethodName := ⟨RX5, "back", "(I)I"⟩
abbrev cX5_again : ByteArray := prog_1_method_11_code
def yX5_again : MethodName := ⟨RX5, "again", "()I"⟩
abbrev cX5_save : ByteArray := prog_1_method_12_code
def yX5_save : MethodName := ⟨RX5, "save", "(I)I"⟩
abbrev cX5_restore : ByteArray := prog_1_method_13_code
def yX5_restore : MethodName := ⟨RX5, "restore", "(I)I"⟩
abbrev cX5_shown : ByteArray := prog_1_method_14_code
def yX5_shown : MethodName := ⟨RX5, "shown", "(I)I"⟩
abbrev cX5_portrait : ByteArray := prog_1_method_15_code
def yX5_portrait : MethodName := ⟨RX5, "portrait", "(IZ)I"⟩
abbrev cX5_node : ByteArray := prog_1_method_16_code
def yX5_node : MethodName := ⟨RX5, "node", "(II)I"⟩
abbrev cX5_option : ByteArray := prog_1_method_17_code
def yX5_option : MethodName := ⟨RX5, "option", "(III)I"⟩
abbrev cX5_situations : ByteArray := prog_1_method_18_code
def yX5_situations : MethodName := ⟨RX5, "situations", "(I)I"⟩
abbrev cX5_choicesTo : ByteArray := prog_1_method_19_code
def yX5_choicesTo : MethodName := ⟨RX5, "choicesTo", "(I)I"⟩
abbrev cX5_wayTo : ByteArray := prog_1_method_20_code
def yX5_wayTo : MethodName := ⟨RX5, "wayTo", "(II)I"⟩
abbrev cX5_usable : ByteArray := prog_1_method_21_code
def yX5_usable : MethodName := ⟨RX5, "usable", "(II)I"⟩
abbrev cX5_count : ByteArray := prog_1_method_22_code
def yX5_count : MethodName := ⟨RX5, "count", "(I)I"⟩
abbrev cX5_digest : ByteArray := prog_1_method_23_code
def yX5_digest : MethodName := ⟨RX5, "digest", "()J"⟩
abbrev cX5_digestNode : ByteArray := prog_1_method_24_code
def yX5_digestNode : MethodName := ⟨RX5, "digestNode", "(JI)J"⟩
abbrev cX5_isLineShown : ByteArray := prog_1_method_25_code
def yX5_isLineShown : MethodName := ⟨RX5, "isLineShown", "()Z"⟩
abbrev cX5_goOnFromLine : ByteArray := prog_1_method_26_code
def yX5_goOnFromLine : MethodName := ⟨RX5, "goOnFromLine", "()Z"⟩
abbrev cX5_endIndex : ByteArray := prog_1_method_27_code
def yX5_endIndex : MethodName := ⟨RX5, "endIndex", "(I)I"⟩
def RX6 : String := "PictureScriptModel"
def TX6 : u_T := fun k => match k with
  | 0 => ("PictureScriptModel", "script", "[I", true)
  | 1 => ("PictureScriptModel", "nodes", "I", false)
  | 2 => ("PictureScriptModel", "read", "[I", true)
  | 3 => ("PictureScriptModel", "reads", "I", false)
  | 4 => ("PictureScriptModel", "moments", "[I", true)
  | 5 => ("PictureScriptModel", "first", "I", false)
  | 6 => ("PictureScriptModel", "count", "I", false)
  | 7 => ("PictureScriptModel", "ahead", "I", false)
  | 8 => ("PictureScriptModel", "saved", "[I", true)
  | 9 => ("PictureScriptModel", "isSaved", "[Z", true)
  | 10 => ("PictureScriptModel", "seen", "I", false)
  | 11 => ("PictureScriptModel", "text", "[I", true)
  | 12 => ("PictureScriptModel", "textLength", "I", false)
  | 13 => ("PictureScriptModel", "at", "I", false)
  | 14 => ("PictureScriptModel", "fault", "I", false)
  | 15 => ("PictureScriptModel", "flags", "I", false)
  | 16 => ("PictureScriptModel", "voiceAt", "[I", true)
  | 17 => ("PictureScriptModel", "faceAt", "[I", true)
  | 18 => ("PictureScriptModel", "isReached", "[Z", true)
  | 19 => ("PictureScriptModel", "choice", "[I", true)
  | 20 => ("PictureScriptModel", "from", "[I", true)
  | 21 => ("PictureScriptModel", "by", "[I", true)
  | 22 => ("PictureScriptModel", "choices", "I", false)
  | 23 => ("PictureScriptModel", "isEnd", "[Z", true)
  | 24 => ("PictureScriptModel", "endFrom", "[I", true)
  | 25 => ("PictureScriptModel", "endBy", "[I", true)
  | _ => ("PictureScriptModel", "hash", "J", false)
def tyX6 : Nat → FieldType := fun k => match k with
  | 0 => .array .int
  | 1 => .int
  | 2 => .array .int
  | 3 => .int
  | 4 => .array .int
  | 5 => .int
  | 6 => .int
  | 7 => .int
  | 8 => .array .int
  | 9 => .array .boolean
  | 10 => .int
  | 11 => .array .int
  | 12 => .int
  | 13 => .int
  | 14 => .int
  | 15 => .int
  | 16 => .array .int
  | 17 => .array .int
  | 18 => .array .boolean
  | 19 => .array .int
  | 20 => .array .int
  | 21 => .array .int
  | 22 => .int
  | 23 => .array .boolean
  | 24 => .array .int
  | 25 => .array .int
  | _ => .long
abbrev wsX60 : List Cond := u_ws RX6 TX6 27
theorem nmX6 : ∀ a, a < 27 → ∀ b, b < 27 → a ≠ b → (TX6 a).2.1 ≠ (TX6 b).2.1 := by decide +kernel
theorem tyX6_ok : ∀ k, k < 27 → parseFieldDescriptor (TX6 k).2.2.1 = some (tyX6 k) := by decide +kernel
abbrev cX6_init : ByteArray := prog_8_method_1_code
def yX6_init : MethodName := ⟨RX6, "<init>", "()V"⟩
abbrev cX6_in : ByteArray := prog_8_method_2_code
def yX6_in : MethodName := ⟨RX6, "in", "(III)Z"⟩
abbrev cX6_type : ByteArray := prog_8_method_3_code
def yX6_type : MethodName := ⟨RX6, "type", "(I)I"⟩
abbrev cX6_clearText : ByteArray := prog_8_method_4_code
def yX6_clearText : MethodName := ⟨RX6, "clearText", "()I"⟩
abbrev cX6_next : ByteArray := prog_8_method_5_code
def yX6_next : MethodName := ⟨RX6, "next", "()I"⟩
abbrev cX6_isDigit : ByteArray := prog_8_method_6_code
def yX6_isDigit : MethodName := ⟨RX6, "isDigit", "()Z"⟩
abbrev cX6_blanks : ByteArray := prog_8_method_7_code
def yX6_blanks : MethodName := ⟨RX6, "blanks", "()V"⟩
abbrev cX6_fails : ByteArray := prog_8_method_8_code
def yX6_fails : MethodName := ⟨RX6, "fails", "(I)V"⟩
abbrev cX6_take : ByteArray := prog_8_method_9_code
def yX6_take : MethodName := ⟨RX6, "take", "(Z)I"⟩
abbrev cX6_voice : ByteArray := prog_8_method_10_code
def yX6_voice : MethodName := ⟨RX6, "voice", "()I"⟩
abbrev cX6_digit : ByteArray := prog_8_method_11_code
def yX6_digit : MethodName := ⟨RX6, "digit", "(I)I"⟩
abbrev cX6_number : ByteArray := prog_8_method_12_code
def yX6_number : MethodName := ⟨RX6, "number", "(I)I"⟩
abbrev cX6_kindOf : ByteArray := prog_8_method_13_code
def yX6_kindOf : MethodName := ⟨RX6, "kindOf", "(I)I"⟩
abbrev cX6_readsOptions : ByteArray := prog_8_method_14_code
def yX6_readsOptions : MethodName := ⟨RX6, "readsOptions", "(I)V"⟩
abbrev cX6_readsNode : ByteArray := prog_8_method_15_code
def yX6_readsNode : MethodName := ⟨RX6, "readsNode", "()V"⟩
abbrev cX6_reads : ByteArray := prog_8_method_16_code
def yX6_reads : MethodName := ⟨RX6, "reads", "()V"⟩
abbrev cX6_fault : ByteArray := prog_8_method_17_code
def yX6_fault : MethodName := ⟨RX6, "fault", "()I"⟩
abbrev cX6_of : ByteArray := prog_8_method_18_code
def yX6_of : MethodName := ⟨RX6, "of", "(II)I"⟩
abbrev cX6_shownKind : ByteArray := prog_8_method_19_code
def yX6_shownKind : MethodName := ⟨RX6, "shownKind", "(I)I"⟩
abbrev cX6_endOf : ByteArray := prog_8_method_20_code
def yX6_endOf : MethodName := ⟨RX6, "endOf", "(I)I"⟩
abbrev cX6_leaves : ByteArray := prog_8_method_21_code
def yX6_leaves : MethodName := ⟨RX6, "leaves", "(I)V"⟩
abbrev cX6_does : ByteArray := prog_8_method_22_code
def yX6_does : MethodName := ⟨RX6, "does", "(I)I"⟩
abbrev cX6_carries : ByteArray := prog_8_method_23_code
def yX6_carries : MethodName := ⟨RX6, "carries", "(I)I"⟩
abbrev cX6_isLocked : ByteArray := prog_8_method_24_code
def yX6_isLocked : MethodName := ⟨RX6, "isLocked", "(III)Z"⟩
abbrev cX6_placeOf : ByteArray := prog_8_method_25_code
def yX6_placeOf : MethodName := ⟨RX6, "placeOf", "(I)I"⟩
abbrev cX6_present : ByteArray := prog_8_method_26_code
def yX6_present : MethodName := ⟨RX6, "present", "(I)I"⟩
abbrev cX6_puts : ByteArray := prog_8_method_27_code
def yX6_puts : MethodName := ⟨RX6, "puts", "(I)V"⟩
abbrev cX6_takes : ByteArray := prog_8_method_28_code
def yX6_takes : MethodName := ⟨RX6, "takes", "()V"⟩
abbrev cX6_starts : ByteArray := prog_8_method_29_code
def yX6_starts : MethodName := ⟨RX6, "starts", "()V"⟩
abbrev cX6_goesOn : ByteArray := prog_8_method_30_code
def yX6_goesOn : MethodName := ⟨RX6, "goesOn", "(I)V"⟩
abbrev cX6_read : ByteArray := prog_8_method_31_code
def yX6_read : MethodName := ⟨RX6, "read", "()I"⟩
abbrev cX6_begin : ByteArray := prog_8_method_32_code
def yX6_begin : MethodName := ⟨RX6, "begin", "()I"⟩
abbrev cX6_go : ByteArray := prog_8_method_33_code
def yX6_go : MethodName := ⟨RX6, "go", "()I"⟩
abbrev cX6_choose : ByteArray := prog_8_method_34_code
def yX6_choose : MethodName := ⟨RX6, "choose", "(I)I"⟩
abbrev cX6_skip : ByteArray := prog_8_method_35_code
def yX6_skip : MethodName := ⟨RX6, "skip", "()I"⟩
abbrev cX6_back : ByteArray := prog_8_method_36_code
def yX6_back : MethodName := ⟨RX6, "back", "(I)I"⟩
abbrev cX6_again : ByteArray := prog_8_method_37_code
def yX6_again : MethodName := ⟨RX6, "again", "()I"⟩
abbrev cX6_save : ByteArray := prog_8_method_38_code
def yX6_save : MethodName := ⟨RX6, "save", "(I)I"⟩
abbrev cX6_restore : ByteArray := prog_8_method_39_code
def yX6_restore : MethodName := ⟨RX6, "restore", "(I)I"⟩
abbrev cX6_open : ByteArray := prog_8_method_40_code
def yX6_open : MethodName := ⟨RX6, "open", "()I"⟩
abbrev cX6_shown : ByteArray := prog_8_method_41_code
def yX6_shown : MethodName := ⟨RX6, "shown", "(I)I"⟩
abbrev cX6_portrait : ByteArray := prog_8_method_42_code
def yX6_portrait : MethodName := ⟨RX6, "portrait", "(IZ)I"⟩
abbrev cX6_isNode : ByteArray := prog_8_method_43_code
def yX6_isNode : MethodName := ⟨RX6, "isNode", "(I)Z"⟩
abbrev cX6_node : ByteArray := prog_8_method_44_code
def yX6_node : MethodName := ⟨RX6, "node", "(II)I"⟩
abbrev cX6_isChoice : ByteArray := prog_8_method_45_code
def yX6_isChoice : MethodName := ⟨RX6, "isChoice", "(I)Z"⟩
abbrev cX6_option : ByteArray := prog_8_method_46_code
def yX6_option : MethodName := ⟨RX6, "option", "(III)I"⟩
abbrev cX6_follows : ByteArray := prog_8_method_47_code
def yX6_follows : MethodName := ⟨RX6, "follows", "(III)V"⟩
abbrev cX6_charts : ByteArray := prog_8_method_48_code
def yX6_charts : MethodName := ⟨RX6, "charts", "()V"⟩
abbrev cX6_situationsOf : ByteArray := prog_8_method_49_code
def yX6_situationsOf : MethodName := ⟨RX6, "situationsOf", "(I)I"⟩
abbrev cX6_situations : ByteArray := prog_8_method_50_code
def yX6_situations : MethodName := ⟨RX6, "situations", "(I)I"⟩
abbrev cX6_isEndNumber : ByteArray := prog_8_method_51_code
def yX6_isEndNumber : MethodName := ⟨RX6, "isEndNumber", "(I)Z"⟩
abbrev cX6_stepsTo : ByteArray := prog_8_method_52_code
def yX6_stepsTo : MethodName := ⟨RX6, "stepsTo", "(I)I"⟩
abbrev cX6_choicesTo : ByteArray := prog_8_method_53_code
def yX6_choicesTo : MethodName := ⟨RX6, "choicesTo", "(I)I"⟩
abbrev cX6_wayTo : ByteArray := prog_8_method_54_code
def yX6_wayTo : MethodName := ⟨RX6, "wayTo", "(II)I"⟩
abbrev cX6_isUsable : ByteArray := prog_8_method_55_code
def yX6_isUsable : MethodName := ⟨RX6, "isUsable", "(II)I"⟩
abbrev cX6_usable : ByteArray := prog_8_method_56_code
def yX6_usable : MethodName := ⟨RX6, "usable", "(II)I"⟩
abbrev cX6_seenNodes : ByteArray := prog_8_method_57_code
def yX6_seenNodes : MethodName := ⟨RX6, "seenNodes", "()I"⟩
abbrev cX6_savedMoments : ByteArray := prog_8_method_58_code
def yX6_savedMoments : MethodName := ⟨RX6, "savedMoments", "()I"⟩
abbrev cX6_ends : ByteArray := prog_8_method_59_code
def yX6_ends : MethodName := ⟨RX6, "ends", "()I"⟩
abbrev cX6_count : ByteArray := prog_8_method_60_code
def yX6_count : MethodName := ⟨RX6, "count", "(I)I"⟩
abbrev cX6_mixes : ByteArray := prog_8_method_61_code
def yX6_mixes : MethodName := ⟨RX6, "mixes", "(I)V"⟩
abbrev cX6_mixesNode : ByteArray := prog_8_method_62_code
def yX6_mixesNode : MethodName := ⟨RX6, "mixesNode", "(I)V"⟩
abbrev cX6_digest : ByteArray := prog_8_method_63_code
def yX6_digest : MethodName := ⟨RX6, "digest", "()J"⟩
def RJx145de : String := "java/io/Serializable"
def TJx145de : u_T := fun k => match k with
  | _ => ("", "", "", false)
def tyJx145de : Nat → FieldType := fun k => match k with
  | _ => .int
abbrev wsJx145de0 : List Cond := u_ws RJx145de TJx145de 0
theorem nmJx145de : ∀ a, a < 0 → ∀ b, b < 0 → a ≠ b → (TJx145de a).2.1 ≠ (TJx145de b).2.1 := by decide +kernel
theorem tyJx145de_ok : ∀ k, k < 0 → parseFieldDescriptor (TJx145de k).2.2.1 = some (tyJx145de k) := by decide +kernel
def RJx9f9b0 : String := "java/lang/CharSequence"
def TJx9f9b0 : u_T := fun k => match k with
  | _ => ("", "", "", false)
def tyJx9f9b0 : Nat → FieldType := fun k => match k with
  | _ => .int
abbrev wsJx9f9b00 : List Cond := u_ws RJx9f9b0 TJx9f9b0 0
theorem nmJx9f9b0 : ∀ a, a < 0 → ∀ b, b < 0 → a ≠ b → (TJx9f9b0 a).2.1 ≠ (TJx9f9b0 b).2.1 := by decide +kernel
theorem tyJx9f9b0_ok : ∀ k, k < 0 → parseFieldDescriptor (TJx9f9b0 k).2.2.1 = some (tyJx9f9b0 k) := by decide +kernel
def RJ11 : String := "java/lang/Character"
def TJ11 : u_T := fun k => match k with
  | _ => ("", "", "", false)
def tyJ11 : Nat → FieldType := fun k => match k with
  | _ => .int
abbrev wsJ110 : List Cond := u_ws RJ11 TJ11 0
theorem nmJ11 : ∀ a, a < 0 → ∀ b, b < 0 → a ≠ b → (TJ11 a).2.1 ≠ (TJ11 b).2.1 := by decide +kernel
theorem tyJ11_ok : ∀ k, k < 0 → parseFieldDescriptor (TJ11 k).2.2.1 = some (tyJ11 k) := by decide +kernel
abbrev cJ11_isValidCodePoint_9a6ad : ByteArray := prog_9_method_11_code
def yJ11_isValidCodePoint_9a6ad : MethodName := ⟨RJ11, "isValidCodePoint", "(I)Z"⟩
abbrev cJ11_highSurrogate_5068e : ByteArray := prog_9_method_28_code
def yJ11_highSurrogate_5068e : MethodName := ⟨RJ11, "highSurrogate", "(I)C"⟩
abbrev cJ11_lowSurrogate_5068e : ByteArray := prog_9_method_29_code
def yJ11_lowSurrogate_5068e : MethodName := ⟨RJ11, "lowSurrogate", "(I)C"⟩
def RJxb160c : String := "java/lang/Comparable"
def TJxb160c : u_T := fun k => match k with
  | _ => ("", "", "", false)
def tyJxb160c : Nat → FieldType := fun k => match k with
  | _ => .int
abbrev wsJxb160c0 : List Cond := u_ws RJxb160c TJxb160c 0
theorem nmJxb160c : ∀ a, a < 0 → ∀ b, b < 0 → a ≠ b → (TJxb160c a).2.1 ≠ (TJxb160c b).2.1 := by decide +kernel
theorem tyJxb160c_ok : ∀ k, k < 0 → parseFieldDescriptor (TJxb160c k).2.2.1 = some (tyJxb160c k) := by decide +kernel
def RJ9 : String := "java/lang/Math"
def TJ9 : u_T := fun k => match k with
  | _ => ("", "", "", false)
def tyJ9 : Nat → FieldType := fun k => match k with
  | _ => .int
abbrev wsJ90 : List Cond := u_ws RJ9 TJ9 0
theorem nmJ9 : ∀ a, a < 0 → ∀ b, b < 0 → a ≠ b → (TJ9 a).2.1 ≠ (TJ9 b).2.1 := by decide +kernel
theorem tyJ9_ok : ∀ k, k < 0 → parseFieldDescriptor (TJ9 k).2.2.1 = some (tyJ9 k) := by decide +kernel
abbrev cJ9_max_7cf53 : ByteArray := prog_10_method_65_code
def yJ9_max_7cf53 : MethodName := ⟨RJ9, "max", "(II)I"⟩
abbrev cJ9_min_7cf53 : ByteArray := prog_10_method_69_code
def yJ9_min_7cf53 : MethodName := ⟨RJ9, "min", "(II)I"⟩
def RJ0 : String := "java/lang/String"
def TJ0 : u_T := fun k => match k with
  | _ => ("", "", "", false)
def tyJ0 : Nat → FieldType := fun k => match k with
  | _ => .int
abbrev wsJ00 : List Cond := u_ws RJ0 TJ0 0
theorem nmJ0 : ∀ a, a < 0 → ∀ b, b < 0 → a ≠ b → (TJ0 a).2.1 ≠ (TJ0 b).2.1 := by decide +kernel
theorem tyJ0_ok : ∀ k, k < 0 → parseFieldDescriptor (TJ0 k).2.2.1 = some (tyJ0 k) := by decide +kernel
abbrev cJ0_length_8abf5 : ByteArray := prog_11_method_54_code
def yJ0_length_8abf5 : MethodName := ⟨RJ0, "length", "()I"⟩
abbrev cJ0_indexOf_0f7a4 : ByteArray := prog_11_method_79_code
def yJ0_indexOf_0f7a4 : MethodName := ⟨RJ0, "indexOf", "(I)I"⟩
abbrev cJ0_indexOf_7cf53 : ByteArray := prog_11_method_80_code
def yJ0_indexOf_7cf53 : MethodName := ⟨RJ0, "indexOf", "(II)I"⟩
abbrev cJ0_coder_7d493 : ByteArray := prog_11_method_152_code
def yJ0_coder_7d493 : MethodName := ⟨RJ0, "coder", "()B"⟩
abbrev cJ0_isLatin1_aae02 : ByteArray := prog_11_method_154_code
def yJ0_isLatin1_aae02 : MethodName := ⟨RJ0, "isLatin1", "()Z"⟩
abbrev cJ0_checkBoundsBeginEnd_23922 : ByteArray := prog_11_method_158_code
def yJ0_checkBoundsBeginEnd_23922 : MethodName := ⟨RJ0, "checkBoundsBeginEnd", "(III)V"⟩
def RJ1 : String := "java/lang/StringLatin1"
def TJ1 : u_T := fun k => match k with
  | _ => ("", "", "", false)
def tyJ1 : Nat → FieldType := fun k => match k with
  | _ => .int
abbrev wsJ10 : List Cond := u_ws RJ1 TJ1 0
theorem nmJ1 : ∀ a, a < 0 → ∀ b, b < 0 → a ≠ b → (TJ1 a).2.1 ≠ (TJ1 b).2.1 := by decide +kernel
theorem tyJ1_ok : ∀ k, k < 0 → parseFieldDescriptor (TJ1 k).2.2.1 = some (tyJ1 k) := by decide +kernel
abbrev cJ1_canEncode_9a6ad : ByteArray := prog_12_method_4_code
def yJ1_canEncode_9a6ad : MethodName := ⟨RJ1, "canEncode", "(I)Z"⟩
abbrev cJ1_indexOf_4cfef : ByteArray := prog_12_method_22_code
def yJ1_indexOf_4cfef : MethodName := ⟨RJ1, "indexOf", "([BIII)I"⟩
abbrev cJ1_indexOfChar_4cfef : ByteArray := prog_12_method_23_code
def yJ1_indexOfChar_4cfef : MethodName := ⟨RJ1, "indexOfChar", "([BIII)I"⟩
def RJ2 : String := "java/lang/StringUTF16"
def TJ2 : u_T := fun k => match k with
  | _ => ("", "", "", false)
def tyJ2 : Nat → FieldType := fun k => match k with
  | _ => .int
abbrev wsJ20 : List Cond := u_ws RJ2 TJ2 0
theorem nmJ2 : ∀ a, a < 0 → ∀ b, b < 0 → a ≠ b → (TJ2 a).2.1 ≠ (TJ2 b).2.1 := by decide +kernel
theorem tyJ2_ok : ∀ k, k < 0 → parseFieldDescriptor (TJ2 k).2.2.1 = some (tyJ2 k) := by decide +kernel
abbrev cJ2_getChar_3b067 : ByteArray := prog_13_method_5_code
def yJ2_getChar_3b067 : MethodName := ⟨RJ2, "getChar", "([BI)C"⟩
abbrev cJ2_length_9d52b : ByteArray := prog_13_method_6_code
def yJ2_length_9d52b : MethodName := ⟨RJ2, "length", "([B)I"⟩
abbrev cJ2_indexOf_4cfef : ByteArray := prog_13_method_40_code
def yJ2_indexOf_4cfef : MethodName := ⟨RJ2, "indexOf", "([BIII)I"⟩
abbrev cJ2_indexOfChar_4cfef : ByteArray := prog_13_method_47_code
def yJ2_indexOfChar_4cfef : MethodName := ⟨RJ2, "indexOfChar", "([BIII)I"⟩
abbrev cJ2_indexOfCharUnsafe_4cfef : ByteArray := prog_13_method_48_code
def yJ2_indexOfCharUnsafe_4cfef : MethodName := ⟨RJ2, "indexOfCharUnsafe", "([BIII)I"⟩
abbrev cJ2_indexOfSupplementary_4cfef : ByteArray := prog_13_method_49_code
def yJ2_indexOfSupplementary_4cfef : MethodName := ⟨RJ2, "indexOfSupplementary", "([BIII)I"⟩
abbrev cJ2_checkBoundsBeginEnd_d044e : ByteArray := prog_13_method_93_code
def yJ2_checkBoundsBeginEnd_d044e : MethodName := ⟨RJ2, "checkBoundsBeginEnd", "(II[B)V"⟩
def RJ10 : String := "java/lang/System"
def TJ10 : u_T := fun k => match k with
  | _ => ("", "", "", false)
def tyJ10 : Nat → FieldType := fun k => match k with
  | _ => .int
abbrev wsJ100 : List Cond := u_ws RJ10 TJ10 0
theorem nmJ10 : ∀ a, a < 0 → ∀ b, b < 0 → a ≠ b → (TJ10 a).2.1 ≠ (TJ10 b).2.1 := by decide +kernel
theorem tyJ10_ok : ∀ k, k < 0 → parseFieldDescriptor (TJ10 k).2.2.1 = some (tyJ10 k) := by decide +kernel
def RJxfd54e : String := "java/lang/constant/Constable"
def TJxfd54e : u_T := fun k => match k with
  | _ => ("", "", "", false)
def tyJxfd54e : Nat → FieldType := fun k => match k with
  | _ => .int
abbrev wsJxfd54e0 : List Cond := u_ws RJxfd54e TJxfd54e 0
theorem nmJxfd54e : ∀ a, a < 0 → ∀ b, b < 0 → a ≠ b → (TJxfd54e a).2.1 ≠ (TJxfd54e b).2.1 := by decide +kernel
theorem tyJxfd54e_ok : ∀ k, k < 0 → parseFieldDescriptor (TJxfd54e k).2.2.1 = some (tyJxfd54e k) := by decide +kernel
def RJx3cf43 : String := "java/lang/constant/ConstantDesc"
def TJx3cf43 : u_T := fun k => match k with
  | _ => ("", "", "", false)
def tyJx3cf43 : Nat → FieldType := fun k => match k with
  | _ => .int
abbrev wsJx3cf430 : List Cond := u_ws RJx3cf43 TJx3cf43 0
theorem nmJx3cf43 : ∀ a, a < 0 → ∀ b, b < 0 → a ≠ b → (TJx3cf43 a).2.1 ≠ (TJx3cf43 b).2.1 := by decide +kernel
theorem tyJx3cf43_ok : ∀ k, k < 0 → parseFieldDescriptor (TJx3cf43 k).2.2.1 = some (tyJx3cf43 k) := by decide +kernel
def RJ7 : String := "java/util/Arrays"
def TJ7 : u_T := fun k => match k with
  | _ => ("", "", "", false)
def tyJ7 : Nat → FieldType := fun k => match k with
  | _ => .int
abbrev wsJ70 : List Cond := u_ws RJ7 TJ7 0
theorem nmJ7 : ∀ a, a < 0 → ∀ b, b < 0 → a ≠ b → (TJ7 a).2.1 ≠ (TJ7 b).2.1 := by decide +kernel
theorem tyJ7_ok : ∀ k, k < 0 → parseFieldDescriptor (TJ7 k).2.2.1 = some (tyJ7 k) := by decide +kernel
abbrev cJ7_fill_53178 : ByteArray := prog_15_method_103_code
def yJ7_fill_53178 : MethodName := ⟨RJ7, "fill", "([II)V"⟩
def RJ3 : String := "jdk/internal/util/Preconditions"
def TJ3 : u_T := fun k => match k with
  | _ => ("", "", "", false)
def tyJ3 : Nat → FieldType := fun k => match k with
  | _ => .int
abbrev wsJ30 : List Cond := u_ws RJ3 TJ3 0
theorem nmJ3 : ∀ a, a < 0 → ∀ b, b < 0 → a ≠ b → (TJ3 a).2.1 ≠ (TJ3 b).2.1 := by decide +kernel
theorem tyJ3_ok : ∀ k, k < 0 → parseFieldDescriptor (TJ3 k).2.2.1 = some (tyJ3 k) := by decide +kernel
abbrev cJ3_checkFromToIndex_8c36e : ByteArray := prog_16_method_12_code
def yJ3_checkFromToIndex_8c36e : MethodName := ⟨RJ3, "checkFromToIndex", "(IIILjava/util/function/BiFunction;)I"⟩
def RL : String := "PictureScriptLaw"
abbrev cL_law : ByteArray := code
def yL_law : MethodName := ⟨RL, "law", "([I)Z"⟩
abbrev vwCl : List vw_C := [(RX0, TX0, 8), (RX1, TX1, 4), (RX2, TX2, 6), (RX3, TX3, 6), (RX4, TX4, 5), (RX5, TX5, 4), (RX6, TX6, 27)]
set_option maxRecDepth 20000 in
theorem inX0 : ∀ w ∈ wsX00, w ∈ lw_tbl := by decide +kernel
set_option maxRecDepth 20000 in
theorem inX1 : ∀ w ∈ wsX10, w ∈ lw_tbl := by decide +kernel
set_option maxRecDepth 20000 in
theorem inX2 : ∀ w ∈ wsX20, w ∈ lw_tbl := by decide +kernel
set_option maxRecDepth 20000 in
theorem inX3 : ∀ w ∈ wsX30, w ∈ lw_tbl := by decide +kernel
set_option maxRecDepth 20000 in
theorem inX4 : ∀ w ∈ wsX40, w ∈ lw_tbl := by decide +kernel
set_option maxRecDepth 20000 in
theorem inX5 : ∀ w ∈ wsX50, w ∈ lw_tbl := by decide +kernel
set_option maxRecDepth 20000 in
theorem inX6 : ∀ w ∈ wsX60, w ∈ lw_tbl := by decide +kernel
end
section
/-! ===== THE ABSTRACT MACHINE: values, cells, heaps; what a frame of it says of the machine ===== -/
def tG : List Cond := lw_tbl.filter goodWord
theorem tG_of {w : Cond} (h : w ∈ lw_tbl) (g : goodWord w = true) : w ∈ tG := List.mem_filter.mpr ⟨h, g⟩
theorem tG_t {w : Cond} (h : w ∈ tables_1) (g : goodWord w = true) : w ∈ tG := tG_of (List.mem_append_right _ h) g
theorem tG_good {w : Cond} (h : w ∈ tG) : (w.onTables && w.keeps) = true ∨ ∃ ty, w = .arrayClass ty := good_of_word (List.mem_filter.mp h).2
/-- a value: an int, a reference (or null), a long, the constant of the letters (true) or the script (false) -/
abbrev AV : Type := Int ⊕ (Option Nat ⊕ (Int64 ⊕ Bool))
abbrev vI (z : Int) : AV := Sum.inl z
abbrev vQ (r : Option Nat) : AV := Sum.inr (Sum.inl r)
abbrev vR (a : Nat) : AV := Sum.inr (Sum.inl (some a))
abbrev vN : AV := Sum.inr (Sum.inl none)
abbrev vL (x : Int64) : AV := Sum.inr (Sum.inr (Sum.inl x))
abbrev vS : AV := Sum.inr (Sum.inr (Sum.inr true))
abbrev vX : AV := Sum.inr (Sum.inr (Sum.inr false))
/-- a cell: an object (its class's place, its fields); an array of ints, bytes, booleans (0, 1, 2); an array of references -/
abbrev AC : Type := (Nat × List AV) ⊕ ((Nat × Nat × (Int → Int)) ⊕ (Nat × (Int → Option Nat)))
abbrev kO (ci : Nat) (fs : List AV) : AC := Sum.inl (ci, fs)
abbrev kA (ty n : Nat) (f : Int → Int) : AC := Sum.inr (Sum.inl (ty, n, f))
abbrev kQ (n : Nat) (g : Int → Option Nat) : AC := Sum.inr (Sum.inr (n, g))
/-- a heap: its size, the script's length and ints; its cells -/
abbrev AH : Type := (Nat × Nat × (Int → Int)) × (Nat → Option AC)
def hput (h : AH) (a : Nat) (c : AC) : AH := (h.1, fun q => if q = a then some c else h.2 q)
def Fr (h h' : AH) (a n : Nat) : Prop := h'.1 = h.1 ∧ ∀ q, ¬ (a ≤ q ∧ q < a + n) → h'.2 q = h.2 q
def fset (f : Int → Int) (i v : Int) : Int → Int := fun j => if j = i then v else f j
def gset (f : Int → Option Nat) (i : Int) (v : Option Nat) : Int → Option Nat := fun j => if j = i then v else f j
/-- what is the same all through: the classes; the four array classes; where the world begins; the letters, their bytes, the script -/
abbrev GD : Type := va_G × (ClassId × ClassId × ClassId × ClassId) × (Nat × Nat × Nat × Nat)
def gB (G : GD) : Nat := G.2.2.1
def gS (G : GD) : Nat := G.2.2.2.1
def gV (G : GD) : Nat := G.2.2.2.2.1
def gX (G : GD) : Nat := G.2.2.2.2.2
def gA (G : GD) : Nat → Prop := fun q => gB G ≤ q
def gC (G : GD) (ty : Nat) : ClassId := match ty with
  | 0 => G.2.1.1
  | 1 => G.2.1.2.1
  | _ => G.2.1.2.2.1
def gQ (G : GD) : ClassId := G.2.1.2.2.2
def tyF (ty : Nat) : FieldType := match ty with
  | 0 => .int
  | 1 => .byte
  | _ => .boolean
def gT (G : GD) : List (ClassId × FieldType) := [(gC G 0, .int), (gC G 1, .byte), (gC G 2, .boolean), (gQ G, .object RX1)]
def cv (G : GD) (v : AV) : Value := match v with
  | .inl z => .int (Int32.ofInt z)
  | .inr (.inl r) => va_rf r
  | .inr (.inr (.inl x)) => .long x
  | .inr (.inr (.inr b)) => .ref (if b = true then gS G else gX G)
def isL (v : AV) : Bool := match v with
  | .inr (.inr (.inl _)) => true
  | _ => false
def vin (ty : Nat) (z : Int) : Prop := match ty with
  | 0 => -2147483648 ≤ z ∧ z ≤ 2147483647
  | 1 => -128 ≤ z ∧ z ≤ 127
  | _ => 0 ≤ z ∧ z ≤ 1
def vok (v : AV) : Prop := match v with
  | .inl z => -2147483648 ≤ z ∧ z ≤ 2147483647
  | _ => True
def enc (G : GD) (c : AC) : va_E := match c with
  | .inl (ci, fs) => .inr (ci, fs.map (cv G))
  | .inr (.inl (ty, n, f)) => .inl (gC G ty, n, .inl (fun j => Int32.ofInt (f j)))
  | .inr (.inr (n, g)) => .inl (gQ G, n, .inr (.inr (.inr (.inr (fun j => g j)))))
def cok (c : AC) : Prop := match c with
  | .inl (_, fs) => ∀ v ∈ fs, vok v
  | .inr (.inl (ty, n, f)) => n ≤ 2147483647 ∧ ∀ i : Nat, i < n → vin ty (f i)
  | .inr (.inr (n, _)) => n ≤ 2147483647
def klB : List Int32 := [115, 112, 104, 102, 106, 116, 99, 101]
/-- the heap is as the abstract one says -/
def HR (G : GD) (h : AH) (U : State) (H : Heap) : Prop :=
  (H.size = h.1.1 ∧ gB G ≤ H.size) ∧ (∀ (a : Nat) (c : AC), h.2 a = some c → va_at G.1 vwCl (a, enc G c) H ∧ cok c ∧ gB G ≤ a) ∧
  (va_X (gX G) h.1.2.1 (fun j => Int32.ofInt (h.1.2.2 j)) U H ∧ gX G < gB G ∧ h.1.2.1 ≤ 2147483647 ∧ ∀ j : Nat, j < h.1.2.1 → vin 0 (h.1.2.2 j)) ∧
  (vk_S 1 [8] [klB] (fun _ => gS G) (fun _ => gV G) (gA G) U H ∧ va_Z "java/lang/String" "COMPACT_STRINGS" "Z" (.int 1) (gA G) U H)
def nestW : List Cond := [.methodLinkNest RX5 11 yX4_init RX5, .methodLinkNest RX4 17 yX3_init RX5, .methodLinkNest RX5 18 yX3_init RX5, .methodLinkNest RX2 27 yX1_init RX5, .methodLinkNest RX5 32 yX0_init RX5, .methodLinkNest RX0 29 yX1_init RX5, .methodLinkNest RX0 101 yX5_endIndex RX5]
/-- the tables are as the world needs them -/
def GK (G : GD) (U : State) : Prop := va_K G.1 vwCl (gT G) U ∧ (∀ w ∈ nestW, va_Nw w U) ∧ vk_R RX4 46 "sphfjtce" (gS G) U ∧ va_AO RX1 U
theorem HR.moved {G : GD} {h : AH} {u U : State} {H : Heap} (hvm : u.vm.Alike U.vm) (a : HR G h u H) : HR G h U H :=
  ⟨a.1, a.2.1, ⟨va_X.moved hvm a.2.2.1.1, a.2.2.1.2⟩, vk_S.moved hvm a.2.2.2.1, va_Z.moved hvm a.2.2.2.2⟩
theorem GK.warm {G : GD} {s U : State} (hW : s.WarmedH U.vm) (h : GK G s) : GK G U := by
  refine ⟨va_K.moved hW.alike h.1, fun w hw => ?_, vk_R.warm hW h.2.2.1, va_AO.moved hW.alike h.2.2.2⟩
  have h1 := h.2.1 w hw
  simp only [nestW, List.mem_cons, List.not_mem_nil, or_false] at hw
  rcases hw with rfl | rfl | rfl | rfl | rfl | rfl | rfl <;> exact va_Nw.warmM hW h1
theorem GK.same {G : GD} {s U : State} (hv : U.vm = s.vm) (h : GK G s) : GK G U := by
  have ha : s.vm.Alike U.vm := by rw [hv]; exact Vm.Alike.refl _
  refine ⟨va_K.moved ha h.1, fun w hw => ?_, vk_R.same hv h.2.2.1, va_AO.moved ha h.2.2.2⟩
  have h1 := h.2.1 w hw
  simp only [nestW, List.mem_cons, List.not_mem_nil, or_false] at hw
  rcases hw with rfl | rfl | rfl | rfl | rfl | rfl | rfl <;> exact va_Nw.same rfl hv.symm h1
/-- behind a store in one cell of the world -/
theorem HR.store {G : GD} {h : AH} {U : State} {H H1 : Heap} {a : Nat} {c c' : AC} (hH : HR G h U H) (hc : h.2 a = some c) (z : H1.size = H.size) (oq : ∀ q : Nat, q ≠ a → H1[q]? = H[q]?) (he : va_at G.1 vwCl (a, enc G c') H1) (hk : cok c') : HR G (hput h a c') U H1 := by
  obtain ⟨h1, h2, ⟨h3, h4⟩, h5, h6⟩ := hH
  have hb : gB G ≤ a := (h2 a c hc).2.2
  have hq : ∀ q : Nat, q < H.size → ¬ gA G q → H1[q]? = H[q]? := fun q _ hn => oq q (fun e => hn (by rw [e]; exact hb))
  refine ⟨⟨by rw [z]; exact h1.1, by rw [z]; exact h1.2⟩, fun b d hd => ?_, ⟨va_X.kept h3 (oq _ (by have := h4.1; omega)), h4⟩, vk_S.kept h5 hq, va_Z.kept h6 hq⟩
  by_cases e : b = a
  · subst e
    have hd' : some c' = some d := by simpa [hput] using hd
    cases hd'
    exact ⟨he, hk, hb⟩
  · have hd' : h.2 b = some d := by simpa [hput, e] using hd
    obtain ⟨g1, g2, g3⟩ := h2 b d hd'
    exact ⟨g1.kept (oq b e), g2, g3⟩
/-- behind a new cell -/
theorem HR.push {G : GD} {h : AH} {U : State} {H H1 : Heap} {c' : AC} (hH : HR G h U H) (z : H1.size = H.size + 1) (oq : ∀ q : Nat, q < H.size → H1[q]? = H[q]?) (he : va_at G.1 vwCl (H.size, enc G c') H1) (hk : cok c') : HR G ((h.1.1 + 1, h.1.2), fun q => if q = h.1.1 then some c' else h.2 q) U H1 := by
  obtain ⟨h1, h2, ⟨h3, h4⟩, h5, h6⟩ := hH
  have hq : ∀ q : Nat, q < H.size → ¬ gA G q → H1[q]? = H[q]? := fun q hl _ => oq q hl
  refine ⟨⟨by rw [z, h1.1], by omega⟩, fun b d hd => ?_, ⟨va_X.kept h3 (oq _ (by have := h4.1; omega)), h4⟩, vk_S.kept h5 hq, va_Z.kept h6 hq⟩
  by_cases e : b = h.1.1
  · subst e
    have hd' : some c' = some d := by simpa using hd
    cases hd'
    rw [← h1.1]
    exact ⟨he, hk, h1.2⟩
  · have hd' : h.2 b = some d := by simpa [e] using hd
    obtain ⟨g1, g2, g3⟩ := h2 b d hd'
    exact ⟨g1.kept (oq b g1.lt), g2, g3⟩
/-! the locals -/
def aLs (G : GD) : Nat → List (Option AV) → List (Nat × Value)
  | _, [] => []
  | i, none :: L => aLs G (i + 1) L
  | i, some v :: L => (i, cv G v) :: aLs G (i + 1) L
theorem aLs_in {G : GD} : ∀ (L : List (Option AV)) (i j : Nat) (w : Value), (j, w) ∈ aLs G i L ↔ ∃ v : AV, i ≤ j ∧ L[j - i]? = some (some v) ∧ w = cv G v := by
  intro L
  induction L with
  | nil => intro i j w; simp [aLs]
  | cons x L ih =>
    intro i j w
    have hcons : ∀ v : AV, (i + 1 ≤ j ∧ L[j - (i + 1)]? = some (some v)) ↔ (i + 1 ≤ j ∧ (x :: L)[j - i]? = some (some v)) := by
      intro v
      constructor
      · rintro ⟨h1, h2⟩
        refine ⟨h1, ?_⟩
        rw [show j - i = (j - (i + 1)) + 1 by omega, List.getElem?_cons_succ]
        exact h2
      · rintro ⟨h1, h2⟩
        refine ⟨h1, ?_⟩
        rw [show j - i = (j - (i + 1)) + 1 by omega, List.getElem?_cons_succ] at h2
        exact h2
    cases x with
    | none =>
      show (j, w) ∈ aLs G (i + 1) L ↔ _
      rw [ih]
      constructor
      · rintro ⟨v, h1, h2, h3⟩
        exact ⟨v, by omega, ((hcons v).mp ⟨h1, h2⟩).2, h3⟩
      · rintro ⟨v, h1, h2, h3⟩
        have hne : j ≠ i := by
          intro e
          subst e
          simp at h2
        obtain ⟨q1, q2⟩ := (hcons v).mpr ⟨by omega, h2⟩
        exact ⟨v, q1, q2, h3⟩
    | some y =>
      show (j, w) ∈ (i, cv G y) :: aLs G (i + 1) L ↔ _
      rw [List.mem_cons, ih]
      constructor
      · rintro (e | ⟨v, h1, h2, h3⟩)
        · cases e
          exact ⟨y, Nat.le_refl _, by simp, rfl⟩
        · exact ⟨v, by omega, ((hcons v).mp ⟨h1, h2⟩).2, h3⟩
      · rintro ⟨v, h1, h2, h3⟩
        by_cases e : j = i
        · subst e
          left
          have : y = v := by simpa using h2
          rw [this, h3]
        · right
          obtain ⟨q1, q2⟩ := (hcons v).mpr ⟨by omega, h2⟩
          exact ⟨v, q1, q2, h3⟩
def LR (G : GD) (L : List (Option AV)) (ls : Array Slot) (n : Nat) : Prop := lv_has ls n (aLs G 0 L) ∧ L.length = n ∧ ∀ (i : Nat) (v : AV), L[i]? = some (some v) → vok v
theorem LR.get {G : GD} {L : List (Option AV)} {ls : Array Slot} {n i : Nat} {v : AV} (h : LR G L ls n) (hi : L[i]? = some (some v)) : ls[i]? = some (.val (cv G v)) ∧ vok v :=
  ⟨h.1.2.2 (i, cv G v) ((aLs_in L 0 i _).mpr ⟨v, Nat.zero_le _, by simpa using hi, rfl⟩), h.2.2 i v hi⟩
def nlong (x : Option AV) : Option AV := match x with
  | some v => if isL v = true then none else some v
  | none => none
def lset : List (Option AV) → Nat → AV → List (Option AV)
  | [], _, _ => []
  | _ :: l, 0, v => some v :: l
  | x :: l, 1, v => nlong x :: lset l 0 v
  | x :: l, i + 2, v => x :: lset l (i + 1) v
def lset2 : List (Option AV) → Nat → AV → List (Option AV)
  | _ :: _ :: l, 0, v => some v :: none :: l
  | x :: l, 1, v => nlong x :: lset2 l 0 v
  | x :: l, i + 2, v => x :: lset2 l (i + 1) v
  | l, _, _ => l
theorem isL_cat (G : GD) (v : AV) : (cv G v).category = 2 ↔ isL v = true := by
  rcases v with z | (_ | a) | x | b <;> simp [cv, isL, va_rf, Value.category]
theorem lset_len : ∀ (L : List (Option AV)) (i : Nat) (v : AV), (lset L i v).length = L.length := by
  intro L
  induction L with
  | nil => intro i v; rfl
  | cons x l ih =>
    intro i v
    match i with
    | 0 => rfl
    | 1 => show (lset l 0 v).length + 1 = _; rw [ih]; rfl
    | i + 2 => show (lset l (i + 1) v).length + 1 = _; rw [ih]; rfl
theorem nlong_some {x : Option AV} {w : AV} (h : nlong x = some w) : x = some w ∧ isL w = false := by
  cases x with
  | none => cases h
  | some v =>
    simp only [nlong] at h
    by_cases e : isL v = true
    · rw [if_pos e] at h; cases h
    · rw [if_neg e] at h
      cases h
      exact ⟨rfl, by simpa using e⟩
theorem lset_get : ∀ (L : List (Option AV)) (i j : Nat) (v w : AV), (lset L i v)[j]? = some (some w) → (j = i ∧ w = v) ∨ (j ≠ i ∧ L[j]? = some (some w) ∧ ¬ (j + 1 = i ∧ isL w = true)) := by
  intro L
  induction L with
  | nil => intro i j v w h; simp [lset] at h
  | cons x l ih =>
    intro i j v w h
    match i, j with
    | 0, 0 =>
      left
      simp [lset] at h
      exact ⟨rfl, h.symm⟩
    | 0, j + 1 =>
      right
      refine ⟨by omega, by simpa [lset] using h, by omega⟩
    | 1, 0 =>
      right
      have h2 : nlong x = some w := by simpa [lset] using h
      obtain ⟨h3, h4⟩ := nlong_some h2
      refine ⟨by omega, by simp [h3], fun q => by rw [h4] at q; exact absurd q.2 (by decide)⟩
    | 1, j + 1 =>
      have h2 : (lset l 0 v)[j]? = some (some w) := by simpa [lset] using h
      rcases ih 0 j v w h2 with ⟨q1, q2⟩ | ⟨q1, q2, q3⟩
      · left; exact ⟨by omega, q2⟩
      · right; exact ⟨by omega, by simpa using q2, by omega⟩
    | i + 2, 0 =>
      right
      refine ⟨by omega, by simpa [lset] using h, by omega⟩
    | i + 2, j + 1 =>
      have h2 : (lset l (i + 1) v)[j]? = some (some w) := by simpa [lset] using h
      rcases ih (i + 1) j v w h2 with ⟨q1, q2⟩ | ⟨q1, q2, q3⟩
      · left; exact ⟨by omega, q2⟩
      · right; exact ⟨by omega, by simpa using q2, fun q => q3 ⟨by omega, q.2⟩⟩
theorem LR.set {G : GD} {L : List (Option AV)} {ls ls' : Array Slot} {n i : Nat} {v : AV} (h : LR G L ls n) (hv : vok v)
    (h' : lv_has ls' n ((i, cv G v) :: (aLs G 0 L).filter (fun q => !(q.1 == i) && !(q.1 + 1 == i && q.2.category == 2)))) : LR G (lset L i v) ls' n := by
  refine ⟨⟨h'.1, h'.2.1, fun q hq => ?_⟩, by rw [lset_len]; exact h.2.1, fun j w hj => ?_⟩
  · obtain ⟨j, x⟩ := q
    obtain ⟨w, -, h2, rfl⟩ := (aLs_in _ 0 j x).mp hq
    rw [Nat.sub_zero] at h2
    rcases lset_get L i j v w h2 with ⟨rfl, rfl⟩ | ⟨q1, q2, q3⟩
    · exact h'.2.2 _ List.mem_cons_self
    · refine h'.2.2 _ (List.mem_cons_of_mem _ (List.mem_filter.mpr ⟨(aLs_in L 0 j _).mpr ⟨w, Nat.zero_le _, by simpa using q2, rfl⟩, ?_⟩))
      simp only [Bool.and_eq_true, Bool.not_eq_true', beq_eq_false_iff_ne, ne_eq, Bool.and_eq_false_iff]
      refine ⟨q1, ?_⟩
      by_cases e : j + 1 = i
      · right
        intro z
        exact q3 ⟨e, (isL_cat G w).mp z⟩
      · left; exact e
  · rcases lset_get L i j v w hj with ⟨rfl, rfl⟩ | ⟨q1, q2, q3⟩
    · exact hv
    · exact h.2.2 j w q2
end
section
/-! ===== a frame of the abstract machine, and a method's contract ===== -/
/-- a method: name, code, locals, answer, whether it makes an object, the cells and slots that it makes -/
abbrev MT : Type := MethodName × ByteArray × Nat × Option FieldType × Bool × Nat × Nat
def mY (M : MT) : MethodName := M.1
def mB (M : MT) : ByteArray := M.2.1
def mL (M : MT) : Nat := M.2.2.1
def mR (M : MT) : Option FieldType := M.2.2.2.1
def mI (M : MT) : Bool := M.2.2.2.2.1
def mC (M : MT) : Nat := M.2.2.2.2.2.1
def mS (M : MT) : Nat := M.2.2.2.2.2.2
abbrev RP : Type := Option AV → AH → Prop
def RetAt (M : MT) (v : Option AV) (pc : Nat) : Prop := match v with
  | none => mR M = none ∧ decode (mB M) pc = .ok (.return_, 1)
  | some (.inl z) => (mR M = some .int ∧ decode (mB M) pc = .ok (.ireturn, 1)) ∨ (mR M = some .boolean ∧ decode (mB M) pc = .ok (.ireturn, 1) ∧ 0 ≤ z ∧ z ≤ 1)
  | some (.inr (.inl _)) => (∃ n, mR M = some (.object n)) ∧ decode (mB M) pc = .ok (.areturn, 1)
  | some (.inr (.inr (.inl _))) => mR M = some .long ∧ decode (mB M) pc = .ok (.lreturn, 1)
  | some (.inr (.inr (.inr _))) => False
def rst (G : GD) (v : Option AV) : List Value := match v with
  | none => []
  | some x => [cv G x]
def Cx (M : MT) (fr : Nat) (p : Program) (l : Launch) (e : Env) (R : Room) (s : State) (m : MethodId) (args : Array Value) (below : List Frame) (meth : Method) (c : Code) (Q : State → Prop) (G : GD) (Rp : RP) : Prop :=
  (p.tables.exec = Jvm.exec ∧ c.code = mB M ∧ c.maxLocals = mL M ∧ s.vm.findClass (mY M).cls = some m.cls ∧ (∀ w ∈ tG, w.before args s = true)) ∧
  (GK G s ∧ meth.locks = false ∧ (mI M = true → meth.name = "<init>") ∧ R.frames = fr ∧ 36 * fr ≤ R.locals ∧ gB G ≤ s.heap.size) ∧
  ∀ (v : Option AV) (h' : AH) (H : Heap) (locs : List Loc) (cells slots pc : Nat) (ls : Array Slot), Rp v h' → (∀ x, v = some x → vok x) → HR G h' s H → va_S (gA G) s.heap H locs → cells ≤ R.cells → slots ≤ R.slots → RetAt M v pc →
    W p l e R s m args below meth c H locs cells slots Q (F0 m pc ls (rst G v))
/-- from here, with these locals, this stack and this heap, the method comes to an end of which Rp holds -/
def AW (M : MT) (fr : Nat) (kb : Nat × Nat) (pc : Nat) (L : List (Option AV)) (S : List AV) (h : AH) (Rp : RP) : Prop :=
  ∀ (p : Program) (l : Launch) (e : Env) (R : Room) (s : State) (m : MethodId) (args : Array Value) (below : List Frame) (meth : Method) (c : Code) (Q : State → Prop) (G : GD), Cx M fr p l e R s m args below meth c Q G Rp →
  ∀ (H : Heap) (locs : List Loc) (cells slots : Nat) (ls : Array Slot), HR G h s H → va_S (gA G) s.heap H locs → LR G L ls (mL M) → (∀ v ∈ S, vok v) → cells + kb.1 ≤ R.cells → slots + kb.2 ≤ R.slots →
  W p l e R s m args below meth c H locs cells slots Q (F0 m pc ls (S.map (cv G)))
/-- a call of M, d frames deep at most, at this heap with these arguments, comes to an end of which Rp holds -/
def AM (M : MT) (d : Nat) (h : AH) (as : List AV) (Rp : RP) : Prop := (∀ v ∈ as, vok v) → ∀ (l : Launch) (G : GD),
  Met l (mY M) (.code (mY M) (mB M) (mL M) (mR M) :: tG) { frames := d, cells := mC M, slots := mS M, locals := 36 * d } (va_Pc (as.map (cv G)) (fun U => HR G h U U.heap ∧ GK G U))
    (fun _ st o t => (∃ (v : Option AV) (h' : AH), o = .returned (v.map (cv G)) ∧ Rp v h' ∧ (∀ x, v = some x → vok x) ∧ HR G h' t t.heap) ∧ va_F (gA G) st t) (mC M) (mS M) (gA G)
/-- a method of the tables: its code is there -/
def MOK (M : MT) : Prop := plainName (mY M).cls = true ∧ Cond.code (mY M) (mB M) (mL M) (mR M) ∈ tG ∧ Cond.initialized (mY M).cls ∈ tG ∧ ((mY M).cls ≠ "java/lang/invoke/MethodHandle" ∧ (mY M).cls ≠ "java/lang/invoke/VarHandle")
def alocs : Nat → List AV → List (Nat × AV)
  | _, [] => []
  | i, v :: vs => (i, v) :: alocs (if isL v = true then i + 2 else i + 1) vs
def entL (n : Nat) (as : List AV) : List (Option AV) := (List.range n).map (fun i => (alocs 0 as).lookup i)
theorem alocs_cv (G : GD) : ∀ (as : List AV) (i : Nat), lv_args i (as.map (cv G)) = (alocs i as).map (fun q => (q.1, cv G q.2)) := by
  intro as
  induction as with
  | nil => intro i; rfl
  | cons v vs ih =>
    intro i
    show (i, cv G v) :: lv_args (if (cv G v).category = 2 then i + 2 else i + 1) (vs.map (cv G)) = (i, cv G v) :: (alocs (if isL v = true then i + 2 else i + 1) vs).map _
    have e : (if (cv G v).category = 2 then i + 2 else i + 1) = (if isL v = true then i + 2 else i + 1) := by
      by_cases q : isL v = true
      · rw [if_pos q, if_pos ((isL_cat G v).mpr q)]
      · rw [if_neg q, if_neg (fun z => q ((isL_cat G v).mp z))]
    rw [e, ih]
theorem lookup_in {as : List (Nat × AV)} {i : Nat} {v : AV} (h : as.lookup i = some v) : (i, v) ∈ as := by
  induction as with
  | nil => simp at h
  | cons q as ih =>
    obtain ⟨j, w⟩ := q
    by_cases e : i = j
    · subst e
      rw [List.lookup_cons_self] at h
      cases h
      exact List.mem_cons_self
    · have : (i == j) = false := by simpa using e
      rw [List.lookup_cons, this] at h
      exact List.mem_cons_of_mem _ (ih h)
theorem alocs_ok : ∀ (as : List AV) (i : Nat), (∀ v ∈ as, vok v) → ∀ q ∈ alocs i as, vok q.2 := by
  intro as
  induction as with
  | nil => intro i _ q hq; cases hq
  | cons v vs ih =>
    intro i h q hq
    rcases List.mem_cons.mp hq with rfl | hq
    · exact h v List.mem_cons_self
    · exact ih _ (fun w hw => h w (List.mem_cons_of_mem _ hw)) q hq
theorem LR.entry {G : GD} {as : List AV} {n : Nat} {L : List (Option AV)} (hn : (lg_sl (as.map (cv G))).length ≤ n) (hok : ∀ v ∈ as, vok v) (hL : entL n as = L) : LR G L ((lg_sl (as.map (cv G)) ++ List.replicate (n - (lg_sl (as.map (cv G))).length) Slot.unset).toArray) n := by
  have h0 := lv_entry (as.map (cv G)) hn
  subst hL
  refine ⟨⟨h0.1, h0.2.1, fun q hq => ?_⟩, by simp [entL], fun i v hi => ?_⟩
  · obtain ⟨j, x⟩ := q
    obtain ⟨w, -, h2, rfl⟩ := (aLs_in _ 0 j x).mp hq
    rw [Nat.sub_zero] at h2
    simp only [entL, List.getElem?_map, Option.map_eq_some_iff] at h2
    obtain ⟨k, hk, h3⟩ := h2
    obtain ⟨hk1, hk2⟩ := List.getElem?_eq_some_iff.mp hk
    have hkj : k = j := by simpa using hk2.symm
    subst hkj
    refine h0.2.2 _ ?_
    rw [alocs_cv]
    exact List.mem_map.mpr ⟨(k, w), lookup_in h3, rfl⟩
  · simp only [entL, List.getElem?_map, Option.map_eq_some_iff] at hi
    obtain ⟨k, -, h3⟩ := hi
    exact alocs_ok as 0 hok _ (lookup_in h3)
theorem tG_in {M : MT} (hM : MOK M) : GoodIn tG (.code (mY M) (mB M) (mL M) (mR M) :: tG) := fun w h => by
  rcases List.mem_cons.mp h with rfl | h
  · exact ⟨hM.2.1, tG_good hM.2.1⟩
  · exact ⟨h, tG_good h⟩
/-- the contract out of the walk of the body -/
theorem AM.of {M : MT} {d : Nat} {h : AH} {as : List AV} {Rp : RP} {L : List (Option AV)} (hM : MOK M) (hI : mI M = true → (mY M).name = "<init>") (hn : ∀ G : GD, (lg_sl (as.map (cv G))).length ≤ mL M) (hL : entL (mL M) as = L) (k : AW M d (mC M, mS M) 0 L [] h Rp) : AM M d h as Rp := by
  intro hok l G
  refine Met.ofW (cc := mB M) (maxL := mL M) (ret := mR M) hM.1 rfl ?_
  intro p e s m args below meth c s₁ B hml hv
  obtain ⟨rfl, hH, hK⟩ := hv
  have hts := atoms_spec (ws := Cond.code (mY M) (mB M) (mL M) (mR M) :: tG) B.pre
  have hown : s.vm.findClass (mY M).cls = some m.cls := findClass_of_methodNamed B.named
  have hlocks := B.notSynchronized
  have hname : meth.name = (mY M).name := (name_of_methodNamed B.named B.method).1
  have hr := B.returns
  have hx := B.exec
  have hb := B.bytes
  rw [lg_entry_eq]
  refine k p l e _ s m _ below meth c _ G ⟨⟨hx, hb, hml, hown, fun w hw => hts w (List.mem_cons_of_mem _ hw)⟩, ⟨hK, hlocks, fun q => by rw [hname]; exact hI q, rfl, Nat.le_refl _, hH.1.2⟩, ?_⟩ s.heap [] 0 0 _ hH va_S.rf (LR.entry (hn G) hok hL) (fun _ h => by cases h) (by rw [Nat.zero_add]; exact Nat.le_refl _) (by rw [Nat.zero_add]; exact Nat.le_refl _)
  intro v h' H locs cells slots pc ls hRp hvok hH' hS hc hs hret
  refine W.widen hc hs ?_
  have hq : ∀ t : State, t.heap = H → s.WarmedH t.vm → ∀ (w : Option AV), w = v → ((∃ (v : Option AV) (h' : AH), Outcome.returned (w.map (cv G)) = .returned (v.map (cv G)) ∧ Rp v h' ∧ (∀ x, v = some x → vok x) ∧ HR G h' t t.heap) ∧ va_F (gA G) s t) := fun t ht hW w e => ⟨⟨v, h', by rw [e], hRp, hvok, by rw [ht]; exact hH'.moved hW.alike⟩, hS.F ht⟩
  match v, hret with
  | none, hret =>
    obtain ⟨h1, h2⟩ := hret
    exact W.vret hx hb (by rw [hr]; exact h1) (fun t ht hW => hq t ht hW none rfl) hS.2.2 h2
  | some (.inl z), hret =>
    rcases hret with ⟨h1, h2⟩ | ⟨h1, h2, h3, h4⟩
    · exact W.iret hx hb (by rw [hr]; exact h1) (fun t ht hW => hq t ht hW (some (.inl z)) rfl) hS.2.2 h2
    · refine W.zret (ty := .boolean) hx hb (by rw [hr]; exact h1) ?_ (fun t ht hW => hq t ht hW (some (.inl z)) rfl) hS.2.2 h2
      rcases (by omega : z = 0 ∨ z = 1) with rfl | rfl <;> rfl
  | some (.inr (.inl r)), hret =>
    obtain ⟨⟨n, h1⟩, h2⟩ := hret
    exact W.aret (rt := .object n) hx hb (by rw [hr]; exact h1) (Or.inl ⟨n, rfl⟩) (by cases r with | none => exact Or.inl rfl | some a => exact Or.inr ⟨a, rfl⟩) (fun t ht hW => hq t ht hW (some (.inr (.inl r))) rfl) hS.2.2 h2
  | some (.inr (.inr (.inl x))), hret =>
    obtain ⟨h1, h2⟩ := hret
    exact W.lret hx hb (by rw [hr]; exact h1) (fun t ht hW => hq t ht hW (some (.inr (.inr (.inl x)))) rfl) hS.2.2 h2
  | some (.inr (.inr (.inr b))), hret => exact absurd hret (fun q => q)
end
section
/-! ===== the abstract machine's rows: stack, locals, numbers, branches ===== -/
def Dc (M : MT) (pc : Nat) (i : Instr) (len n : Nat) : Prop := decode (mB M) pc = .ok (i, len) ∧ pc + len = n
theorem of_i32 {z : Int} (h : -2147483648 ≤ z ∧ z ≤ 2147483647) : (Int32.ofInt z).toInt = z := Int32.toInt_ofInt_of_le (by omega) (by omega)
theorem i32_eq {a b : Int} (ha : -2147483648 ≤ a ∧ a ≤ 2147483647) (hb : -2147483648 ≤ b ∧ b ≤ 2147483647) : Int32.ofInt a = Int32.ofInt b ↔ a = b := by
  rw [← Int32.toInt_inj, of_i32 ha, of_i32 hb]
theorem i32_lt {a b : Int} (ha : -2147483648 ≤ a ∧ a ≤ 2147483647) (hb : -2147483648 ≤ b ∧ b ≤ 2147483647) : Int32.ofInt a < Int32.ofInt b ↔ a < b := by
  rw [Int32.lt_iff_toInt_lt, of_i32 ha, of_i32 hb]
theorem i32_le {a b : Int} (ha : -2147483648 ≤ a ∧ a ≤ 2147483647) (hb : -2147483648 ≤ b ∧ b ≤ 2147483647) : Int32.ofInt a ≤ Int32.ofInt b ↔ a ≤ b := by
  rw [Int32.le_iff_toInt_le, of_i32 ha, of_i32 hb]
theorem i32_0 : (0 : Int32) = Int32.ofInt 0 := rfl
theorem i32_cl {z : Int} (h : -2147483648 ≤ z ∧ z ≤ 2147483647) : (Int32.ofInt z).toNatClampNeg = z.toNat := by
  show (Int32.ofInt z).toInt.toNat = z.toNat
  rw [of_i32 h]
theorem i32_in {z : Int} {N : Nat} (h0 : 0 ≤ z) (h1 : z < N) (hN : N ≤ 2147483647) : vp_in (Int32.ofInt z) N := by
  have hz : -2147483648 ≤ z ∧ z ≤ 2147483647 := by omega
  intro q
  rcases q with q | q
  · rw [i32_0, i32_lt hz (by omega)] at q
    omega
  · rw [i32_cl hz] at q
    omega
section ROWS
variable {M : MT} {fr : Nat} {kb : Nat × Nat} {pc n : Nat} {L : List (Option AV)} {S S' : List AV} {h : AH} {Rp : RP}
theorem AW.go {L' : List (Option AV)} (hv : (∀ v ∈ S, vok v) → (∀ (i : Nat) (v : AV), L[i]? = some (some v) → vok v) → ∀ v ∈ S', vok v)
    (st : ∀ (p : Program) (l : Launch) (e : Env) (R : Room) (s : State) (m : MethodId) (args : Array Value) (below : List Frame) (meth : Method) (c : Code) (Q : State → Prop) (G : GD) (H : Heap) (locs : List Loc) (cells slots : Nat) (ls : Array Slot), p.tables.exec = Jvm.exec → c.code = mB M → s.vm.findClass (mY M).cls = some m.cls → (∀ w ∈ tG, w.before args s = true) → GK G s → (∀ v ∈ S, vok v) → LR G L ls (mL M) →
      (∀ ls' : Array Slot, LR G L' ls' (mL M) → W p l e R s m args below meth c H locs cells slots Q (F0 m n ls' (S'.map (cv G)))) → W p l e R s m args below meth c H locs cells slots Q (F0 m pc ls (S.map (cv G))))
    (k : AW M fr kb n L' S' h Rp) : AW M fr kb pc L S h Rp := by
  intro p l e R s m args below meth c Q G X H locs cells slots ls hH hS hL hV hc hs
  refine st p l e R s m args below meth c Q G H locs cells slots ls X.1.1 X.1.2.1 X.1.2.2.2.1 X.1.2.2.2.2 X.2.1.1 hV hL fun ls' hL' => ?_
  exact k p l e R s m args below meth c Q G X H locs cells slots ls' hH hS hL' (hv hV hL.2.2) hc hs
theorem vok_c {v : AV} {S : List AV} (h : vok v) (hS : ∀ w ∈ S, vok w) : ∀ w ∈ v :: S, vok w := fun w hw => by
  rcases List.mem_cons.mp hw with rfl | hw
  · exact h
  · exact hS w hw
theorem vok_ci {z : Int} {S : List AV} (h : -2147483648 ≤ z ∧ z ≤ 2147483647) (hS : ∀ w ∈ S, vok w) : ∀ w ∈ vI z :: S, vok w := vok_c h hS
theorem vok_cl {x : Int64} {S : List AV} (hS : ∀ w ∈ S, vok w) : ∀ w ∈ vL x :: S, vok w := vok_c trivial hS
theorem vok_t {v : AV} {S : List AV} (hS : ∀ w ∈ v :: S, vok w) : ∀ w ∈ S, vok w := fun w hw => hS w (List.mem_cons_of_mem _ hw)
theorem vok_h {v : AV} {S : List AV} (hS : ∀ w ∈ v :: S, vok w) : vok v := hS v List.mem_cons_self
theorem A.iconst {z : Int} (hd : Dc M pc (.iconst z) 1 n) (k : AW M fr kb n L (vI z :: S) h Rp) (hz : -2147483648 ≤ z ∧ z ≤ 2147483647 := by decide) : AW M fr kb pc L S h Rp :=
  AW.go (fun hV _ => vok_ci hz hV) (fun p l e R s m args below meth c Q G H locs cells slots ls hx hb _ _ _ _ hL kk => by
    obtain ⟨hd, rfl⟩ := hd
    exact lv_iconst hx hb hd rfl (kk ls hL)) k
theorem A.bipush {z : Int} (hd : Dc M pc (.bipush z) 2 n) (k : AW M fr kb n L (vI z :: S) h Rp) (hz : -2147483648 ≤ z ∧ z ≤ 2147483647 := by decide) (hv : (Int8.ofInt z).toInt32 = Int32.ofInt z := by decide) : AW M fr kb pc L S h Rp :=
  AW.go (fun hV _ => vok_ci hz hV) (fun p l e R s m args below meth c Q G H locs cells slots ls hx hb _ _ _ _ hL kk => by
    obtain ⟨hd, rfl⟩ := hd
    exact lv_bipush hx hb hd hv (kk ls hL)) k
theorem A.sipush {z : Int} (hd : Dc M pc (.sipush z) 3 n) (k : AW M fr kb n L (vI z :: S) h Rp) (hz : -2147483648 ≤ z ∧ z ≤ 2147483647 := by decide) (hv : (Int16.ofInt z).toInt32 = Int32.ofInt z := by decide) : AW M fr kb pc L S h Rp :=
  AW.go (fun hV _ => vok_ci hz hV) (fun p l e R s m args below meth c Q G H locs cells slots ls hx hb _ _ _ _ hL kk => by
    obtain ⟨hd, rfl⟩ := hd
    exact lv_sipush hx hb hd hv (kk ls hL)) k
/-! loads and stores: in either form -/
def Dil (M : MT) (pc i n : Nat) : Prop := (∃ k : Fin 4, decode (mB M) pc = .ok (.iload_n k, 1) ∧ (k : Nat) = i ∧ pc + 1 = n) ∨ (decode (mB M) pc = .ok (.iload i, 2) ∧ pc + 2 = n)
def Dal (M : MT) (pc i n : Nat) : Prop := (∃ k : Fin 4, decode (mB M) pc = .ok (.aload_n k, 1) ∧ (k : Nat) = i ∧ pc + 1 = n) ∨ (decode (mB M) pc = .ok (.aload i, 2) ∧ pc + 2 = n)
def Dll (M : MT) (pc i n : Nat) : Prop := (∃ k : Fin 4, decode (mB M) pc = .ok (.lload_n k, 1) ∧ (k : Nat) = i ∧ pc + 1 = n) ∨ (decode (mB M) pc = .ok (.lload i, 2) ∧ pc + 2 = n)
def Dis (M : MT) (pc i n : Nat) : Prop := (∃ k : Fin 4, decode (mB M) pc = .ok (.istore_n k, 1) ∧ (k : Nat) = i ∧ pc + 1 = n) ∨ (decode (mB M) pc = .ok (.istore i, 2) ∧ pc + 2 = n)
def Das (M : MT) (pc i n : Nat) : Prop := (∃ k : Fin 4, decode (mB M) pc = .ok (.astore_n k, 1) ∧ (k : Nat) = i ∧ pc + 1 = n) ∨ (decode (mB M) pc = .ok (.astore i, 2) ∧ pc + 2 = n)
def Dls (M : MT) (pc i n : Nat) : Prop := (∃ k : Fin 4, decode (mB M) pc = .ok (.lstore_n k, 1) ∧ (k : Nat) = i ∧ pc + 1 = n) ∨ (decode (mB M) pc = .ok (.lstore i, 2) ∧ pc + 2 = n)
theorem A.iload {i : Nat} {z : Int} (hd : Dil M pc i n) (hl : L[i]? = some (some (vI z))) (k : AW M fr kb n L (vI z :: S) h Rp) : AW M fr kb pc L S h Rp :=
  AW.go (fun hV hv => vok_c (hv i _ hl) hV) (fun p l e R s m args below meth c Q G H locs cells slots ls hx hb _ _ _ _ hL kk => by
    rcases hd with ⟨q, hd, hq, rfl⟩ | ⟨hd, rfl⟩
    · exact lv_iload_n hx hb hd hq (hL.get hl).1 (kk ls hL)
    · exact lv_iload hx hb hd (hL.get hl).1 (kk ls hL)) k
theorem A.aload {i a : Nat} (hd : Dal M pc i n) (hl : L[i]? = some (some (vR a))) (k : AW M fr kb n L (vR a :: S) h Rp) : AW M fr kb pc L S h Rp :=
  AW.go (fun hV hv => vok_c (hv i _ hl) hV) (fun p l e R s m args below meth c Q G H locs cells slots ls hx hb _ _ _ _ hL kk => by
    rcases hd with ⟨q, hd, hq, rfl⟩ | ⟨hd, rfl⟩
    · exact lv_aload_n hx hb hd hq (hL.get hl).1 (kk ls hL)
    · exact lv_aload hx hb hd (hL.get hl).1 (kk ls hL)) k
theorem A.aloadX {i : Nat} {b : Bool} (hd : Dal M pc i n) (hl : L[i]? = some (some (.inr (.inr (.inr b))))) (k : AW M fr kb n L ((.inr (.inr (.inr b))) :: S) h Rp) : AW M fr kb pc L S h Rp :=
  AW.go (fun hV hv => vok_c (hv i _ hl) hV) (fun p l e R s m args below meth c Q G H locs cells slots ls hx hb _ _ _ _ hL kk => by
    rcases hd with ⟨q, hd, hq, rfl⟩ | ⟨hd, rfl⟩
    · exact lv_aload_n hx hb hd hq (hL.get hl).1 (kk ls hL)
    · exact lv_aload hx hb hd (hL.get hl).1 (kk ls hL)) k
theorem A.lload {i : Nat} {x : Int64} (hd : Dll M pc i n) (hl : L[i]? = some (some (vL x))) (k : AW M fr kb n L (vL x :: S) h Rp) : AW M fr kb pc L S h Rp :=
  AW.go (fun hV hv => vok_c (hv i _ hl) hV) (fun p l e R s m args below meth c Q G H locs cells slots ls hx hb _ _ _ _ hL kk => by
    rcases hd with ⟨q, hd, hq, rfl⟩ | ⟨hd, rfl⟩
    · exact lv_lload_n hx hb hd hq (hL.get hl).1 (kk ls hL)
    · exact lv_lload hx hb hd (hL.get hl).1 (kk ls hL)) k
theorem A.istore {i : Nat} {z : Int} {L' : List (Option AV)} (hd : Dis M pc i n) (hi : i < L.length) (hl : lset L i (vI z) = L') (k : AW M fr kb n L' S h Rp) : AW M fr kb pc L (vI z :: S) h Rp := by
  subst hl
  exact AW.go (fun hV _ => vok_t hV) (fun p l e R s m args below meth c Q G H locs cells slots ls hx hb _ _ _ hV hL kk => by
    have hi' : i < mL M := by rw [← hL.2.1]; exact hi
    rcases hd with ⟨q, hd, hq, rfl⟩ | ⟨hd, rfl⟩
    · exact lv_istore_n hx hb hd hq hL.1 hi' rfl (fun ls' h' => kk ls' (hL.set (v := vI z) (vok_h hV) h'))
    · exact lv_istore hx hb hd hL.1 hi' rfl (fun ls' h' => kk ls' (hL.set (v := vI z) (vok_h hV) h'))) k
theorem A.astore {i a : Nat} {L' : List (Option AV)} (hd : Das M pc i n) (hi : i < L.length) (hl : lset L i (vR a) = L') (k : AW M fr kb n L' S h Rp) : AW M fr kb pc L (vR a :: S) h Rp := by
  subst hl
  exact AW.go (fun hV _ => vok_t hV) (fun p l e R s m args below meth c Q G H locs cells slots ls hx hb _ _ _ hV hL kk => by
    have hi' : i < mL M := by rw [← hL.2.1]; exact hi
    rcases hd with ⟨q, hd, hq, rfl⟩ | ⟨hd, rfl⟩
    · exact lv_astore_n hx hb hd hq hL.1 hi' rfl (fun ls' h' => kk ls' (hL.set (v := vR a) (vok_h hV) h'))
    · exact lv_astore hx hb hd hL.1 hi' rfl (fun ls' h' => kk ls' (hL.set (v := vR a) (vok_h hV) h'))) k
theorem A.iinc {i : Nat} {z d : Int} {L' : List (Option AV)} (hd : Dc M pc (.iinc i d) 3 n) (hg : L[i]? = some (some (vI z))) (hl : lset L i (vI (z + d)) = L') (hr : -2147483648 ≤ z + d ∧ z + d ≤ 2147483647) (k : AW M fr kb n L' S h Rp) : AW M fr kb pc L S h Rp := by
  subst hl
  exact AW.go (fun hV _ => hV) (fun p l e R s m args below meth c Q G H locs cells slots ls hx hb _ _ _ hV hL kk => by
    obtain ⟨hd, rfl⟩ := hd
    have hi' : i < mL M := by rw [← hL.2.1]; exact (List.getElem?_eq_some_iff.mp hg).1
    have hm : (i, cv G (vI z)) ∈ aLs G 0 L := (aLs_in L 0 i _).mpr ⟨vI z, Nat.zero_le _, by simpa using hg, rfl⟩
    obtain ⟨q, hq⟩ := List.getElem?_of_mem hm
    exact lv_iinc hx hb hd hL.1 hq (Int32.ofInt_add z d).symm hi' rfl (fun ls' h' => kk ls' (hL.set (v := vI (z + d)) hr h'))) k
/-! numbers -/
theorem A.iadd {x y : Int} (hd : Dc M pc .iadd 1 n) (k : AW M fr kb n L (vI (x + y) :: S) h Rp) (hr : -2147483648 ≤ x + y ∧ x + y ≤ 2147483647 := by omega) : AW M fr kb pc L (vI y :: vI x :: S) h Rp :=
  AW.go (fun hV _ => vok_ci hr (vok_t (vok_t hV))) (fun p l e R s m args below meth c Q G H locs cells slots ls hx hb _ _ _ _ hL kk => by
    obtain ⟨hd, rfl⟩ := hd
    have h1 := kk ls hL
    simp only [List.map_cons, cv, Int32.ofInt_add] at h1
    exact lv_iadd hx hb hd h1) k
theorem A.isub {x y : Int} (hd : Dc M pc .isub 1 n) (k : AW M fr kb n L (vI (x - y) :: S) h Rp) (hr : -2147483648 ≤ x - y ∧ x - y ≤ 2147483647 := by omega) : AW M fr kb pc L (vI y :: vI x :: S) h Rp :=
  AW.go (fun hV _ => vok_ci hr (vok_t (vok_t hV))) (fun p l e R s m args below meth c Q G H locs cells slots ls hx hb _ _ _ _ hL kk => by
    obtain ⟨hd, rfl⟩ := hd
    have h1 := kk ls hL
    simp only [List.map_cons, cv, Int32.ofInt_sub] at h1
    exact lv_isub hx hb hd h1) k
theorem A.imul {x y : Int} (hd : Dc M pc .imul 1 n) (k : AW M fr kb n L (vI (x * y) :: S) h Rp) (hr : -2147483648 ≤ x * y ∧ x * y ≤ 2147483647 := by omega) : AW M fr kb pc L (vI y :: vI x :: S) h Rp :=
  AW.go (fun hV _ => vok_ci hr (vok_t (vok_t hV))) (fun p l e R s m args below meth c Q G H locs cells slots ls hx hb _ _ _ _ hL kk => by
    obtain ⟨hd, rfl⟩ := hd
    have h1 := kk ls hL
    simp only [List.map_cons, cv, Int32.ofInt_mul] at h1
    exact lv_imul hx hb hd h1) k
/-- an int of the machine, read back -/
theorem i32_back (w : Int32) : Int32.ofInt w.toInt = w := Int32.ofInt_toInt w
theorem i32_rng (w : Int32) : -2147483648 ≤ w.toInt ∧ w.toInt ≤ 2147483647 := by
  have h1 := Int32.le_toInt w
  have h2 := Int32.toInt_lt w
  omega
def bAnd (x y : Int) : Int := (Int32.ofInt x &&& Int32.ofInt y).toInt
def bOr (x y : Int) : Int := (Int32.ofInt x ||| Int32.ofInt y).toInt
def bXor (x y : Int) : Int := (Int32.ofInt x ^^^ Int32.ofInt y).toInt
def bShl (x y : Int) : Int := (Int32.ofInt x <<< (Int32.ofInt y &&& 31)).toInt
def bShr (x y : Int) : Int := (Int32.ofInt x >>> (Int32.ofInt y &&& 31)).toInt
theorem A.iand {x y : Int} (hd : Dc M pc .iand 1 n) (k : AW M fr kb n L (vI (bAnd x y) :: S) h Rp) : AW M fr kb pc L (vI y :: vI x :: S) h Rp :=
  AW.go (fun hV _ => vok_ci (i32_rng _) (vok_t (vok_t hV))) (fun p l e R s m args below meth c Q G H locs cells slots ls hx hb _ _ _ _ hL kk => by
    obtain ⟨hd, rfl⟩ := hd
    have h1 := kk ls hL
    simp only [List.map_cons, cv, bAnd, i32_back] at h1
    exact lv_iand hx hb hd h1) k
theorem A.ior {x y : Int} (hd : Dc M pc .ior 1 n) (k : AW M fr kb n L (vI (bOr x y) :: S) h Rp) : AW M fr kb pc L (vI y :: vI x :: S) h Rp :=
  AW.go (fun hV _ => vok_ci (i32_rng _) (vok_t (vok_t hV))) (fun p l e R s m args below meth c Q G H locs cells slots ls hx hb _ _ _ _ hL kk => by
    obtain ⟨hd, rfl⟩ := hd
    have h1 := kk ls hL
    simp only [List.map_cons, cv, bOr, i32_back] at h1
    exact lv_ior hx hb hd h1) k
theorem A.ixor {x y : Int} (hd : Dc M pc .ixor 1 n) (k : AW M fr kb n L (vI (bXor x y) :: S) h Rp) : AW M fr kb pc L (vI y :: vI x :: S) h Rp :=
  AW.go (fun hV _ => vok_ci (i32_rng _) (vok_t (vok_t hV))) (fun p l e R s m args below meth c Q G H locs cells slots ls hx hb _ _ _ _ hL kk => by
    obtain ⟨hd, rfl⟩ := hd
    have h1 := kk ls hL
    simp only [List.map_cons, cv, bXor, i32_back] at h1
    exact lv_ixor hx hb hd h1) k
theorem A.ishl {x y : Int} (hd : Dc M pc .ishl 1 n) (k : AW M fr kb n L (vI (bShl x y) :: S) h Rp) : AW M fr kb pc L (vI y :: vI x :: S) h Rp :=
  AW.go (fun hV _ => vok_ci (i32_rng _) (vok_t (vok_t hV))) (fun p l e R s m args below meth c Q G H locs cells slots ls hx hb _ _ _ _ hL kk => by
    obtain ⟨hd, rfl⟩ := hd
    have h1 := kk ls hL
    simp only [List.map_cons, cv, bShl, i32_back] at h1
    exact lv_ishl hx hb hd h1) k
theorem A.ishr {x y : Int} (hd : Dc M pc .ishr 1 n) (k : AW M fr kb n L (vI (bShr x y) :: S) h Rp) : AW M fr kb pc L (vI y :: vI x :: S) h Rp :=
  AW.go (fun hV _ => vok_ci (i32_rng _) (vok_t (vok_t hV))) (fun p l e R s m args below meth c Q G H locs cells slots ls hx hb _ _ _ _ hL kk => by
    obtain ⟨hd, rfl⟩ := hd
    have h1 := kk ls hL
    simp only [List.map_cons, cv, bShr, i32_back] at h1
    exact lv_ishr hx hb hd h1) k
/-- division and rest, of what isn't negative by what is positive -/
theorem i32_div {x y : Int} (hx : 0 ≤ x) (hx2 : x ≤ 2147483647) (hy : 0 < y) (hy2 : y ≤ 2147483647) : Int32.ofInt x / Int32.ofInt y = Int32.ofInt (x / y) := by
  have h0 : 0 ≤ x / y := Int.ediv_nonneg hx (by omega)
  have h1 : x / y ≤ x := Int.ediv_le_self y hx
  rw [← Int32.toInt_inj, Int32.toInt_div, of_i32 (by omega), of_i32 (by omega), of_i32 (by omega), Int.tdiv_eq_ediv_of_nonneg hx]
  exact Int.bmod_eq_of_le (by omega) (by omega)
theorem A.idiv {x y : Int} (hd : Dc M pc .idiv 1 n) (k : AW M fr kb n L (vI (x / y) :: S) h Rp) (h0 : 0 ≤ x := by omega) (h1 : 0 < y := by omega) : AW M fr kb pc L (vI y :: vI x :: S) h Rp :=
  AW.go (fun hV _ => vok_ci (by
      have h2 := vok_h (vok_t hV)
      have h3 : 0 ≤ x / y := Int.ediv_nonneg h0 (by omega)
      have h4 : x / y ≤ x := Int.ediv_le_self y h0
      exact ⟨by omega, Int.le_trans h4 h2.2⟩) (vok_t (vok_t hV))) (fun p l e R s m args below meth c Q G H locs cells slots ls hx hb _ _ _ hV hL kk => by
    obtain ⟨hd, rfl⟩ := hd
    have h2 := vok_h (vok_t hV)
    have h3 := vok_h hV
    have h4 := kk ls hL
    simp only [List.map_cons, cv] at h4
    rw [← i32_div h0 h2.2 h1 h3.2] at h4
    exact lv_idiv hx hb hd (by rw [i32_0, i32_eq h3 (by omega)]; omega) h4) k
theorem A.irem {x y : Int} (hd : Dc M pc .irem 1 n) (k : AW M fr kb n L (vI (x % y) :: S) h Rp) (h0 : 0 ≤ x := by omega) (h1 : 0 < y := by omega) : AW M fr kb pc L (vI y :: vI x :: S) h Rp :=
  AW.go (fun hV _ => vok_ci (by
      have h2 := vok_h hV
      have h3 : 0 ≤ x % y := Int.emod_nonneg x (by omega)
      have h4 : x % y < y := Int.emod_lt_of_pos x h1
      exact ⟨by omega, Int.le_trans (Int.le_of_lt h4) h2.2⟩) (vok_t (vok_t hV))) (fun p l e R s m args below meth c Q G H locs cells slots ls hx hb _ _ _ hV hL kk => by
    obtain ⟨hd, rfl⟩ := hd
    have h2 := vok_h (vok_t hV)
    have h3 := vok_h hV
    have h4 := kk ls hL
    simp only [List.map_cons, cv] at h4
    have e : Int32.ofInt (x % y) = Int32.ofInt x - Int32.ofInt x / Int32.ofInt y * Int32.ofInt y := by
      rw [i32_div h0 h2.2 h1 h3.2, ← Int32.ofInt_mul, ← Int32.ofInt_sub]
      congr 1
      rw [Int.emod_def, Int.mul_comm]
    rw [e] at h4
    exact lv_irem hx hb hd (by rw [i32_0, i32_eq h3 (by omega)]; omega) h4) k
theorem A.i2b {x : Int} (hd : Dc M pc .i2b 1 n) (k : AW M fr kb n L (vI x :: S) h Rp) (h0 : -128 ≤ x ∧ x ≤ 127 := by omega) : AW M fr kb pc L (vI x :: S) h Rp :=
  AW.go (fun hV _ => hV) (fun p l e R s m args below meth c Q G H locs cells slots ls hx hb _ _ _ _ hL kk => by
    obtain ⟨hd, rfl⟩ := hd
    refine lv_i2b hx hb hd ?_ (kk ls hL)
    rw [← Int32.toInt_inj]
    rw [Int8.toInt_toInt32, Int32.toInt_toInt8, of_i32 (by omega)]
    exact Int.bmod_eq_of_le (by omega) (by omega)) k
theorem A.i2c {x : Int} (hd : Dc M pc .i2c 1 n) (k : AW M fr kb n L (vI x :: S) h Rp) (h0 : 0 ≤ x ∧ x ≤ 65535 := by omega) : AW M fr kb pc L (vI x :: S) h Rp :=
  AW.go (fun hV _ => hV) (fun p l e R s m args below meth c Q G H locs cells slots ls hx hb _ _ _ _ hL kk => by
    obtain ⟨hd, rfl⟩ := hd
    refine lv_i2c hx hb hd ?_ (kk ls hL)
    obtain ⟨w, rfl⟩ : ∃ w : Nat, x = (w : Int) := ⟨x.toNat, by omega⟩
    have e : Int32.ofInt (w : Int) = nI w := Int32.ofInt_eq_ofNat
    rw [e, pk_char, pk_tn (by omega), Nat.mod_eq_of_lt (by omega)]) k
theorem A.i2l {x : Int} (hd : Dc M pc .i2l 1 n) (k : AW M fr kb n L (vL (Int32.ofInt x).toInt64 :: S) h Rp) : AW M fr kb pc L (vI x :: S) h Rp :=
  AW.go (fun hV _ => vok_cl (vok_t hV)) (fun p l e R s m args below meth c Q G H locs cells slots ls hx hb _ _ _ _ hL kk => by
    obtain ⟨hd, rfl⟩ := hd
    exact lv_i2l hx hb hd rfl (kk ls hL)) k
theorem A.ladd {x y : Int64} (hd : Dc M pc .ladd 1 n) (k : AW M fr kb n L (vL (x + y) :: S) h Rp) : AW M fr kb pc L (vL y :: vL x :: S) h Rp :=
  AW.go (fun hV _ => vok_cl (vok_t (vok_t hV))) (fun p l e R s m args below meth c Q G H locs cells slots ls hx hb _ _ _ _ hL kk => by
    obtain ⟨hd, rfl⟩ := hd
    exact lv_ladd hx hb hd (kk ls hL)) k
theorem A.lmul {x y : Int64} (hd : Dc M pc .lmul 1 n) (k : AW M fr kb n L (vL (x * y) :: S) h Rp) : AW M fr kb pc L (vL y :: vL x :: S) h Rp :=
  AW.go (fun hV _ => vok_cl (vok_t (vok_t hV))) (fun p l e R s m args below meth c Q G H locs cells slots ls hx hb _ _ _ _ hL kk => by
    obtain ⟨hd, rfl⟩ := hd
    exact lv_lmul hx hb hd (kk ls hL)) k
theorem A.dup {v : AV} (hd : Dc M pc .dup 1 n) (k : AW M fr kb n L (v :: v :: S) h Rp) (hv : isL v = false := by rfl) : AW M fr kb pc L (v :: S) h Rp :=
  AW.go (fun hV _ => vok_c (vok_h hV) hV) (fun p l e R s m args below meth c Q G H locs cells slots ls hx hb _ _ _ _ hL kk => by
    obtain ⟨hd, rfl⟩ := hd
    have hc : (cv G v).category = 1 := by
      rcases lv_cat (cv G v) with q | q
      · exact q
      · rw [(isL_cat G v).mp q] at hv; cases hv
    exact lv_dup hx hb hd hc (kk ls hL)) k
theorem A.dup2 {v w : AV} (hd : Dc M pc .dup2 1 n) (k : AW M fr kb n L (v :: w :: v :: w :: S) h Rp) (hv : isL v = false := by rfl) (hw : isL w = false := by rfl) : AW M fr kb pc L (v :: w :: S) h Rp :=
  AW.go (fun hV _ => vok_c (vok_h hV) (vok_c (vok_h (vok_t hV)) hV)) (fun p l e R s m args below meth c Q G H locs cells slots ls hx hb _ _ _ _ hL kk => by
    obtain ⟨hd, rfl⟩ := hd
    have hc : ∀ v : AV, isL v = false → (cv G v).category = 1 := fun v hv => by
      rcases lv_cat (cv G v) with q | q
      · exact q
      · rw [(isL_cat G v).mp q] at hv; cases hv
    exact lv_dup2_11 hx hb hd (hc v hv) (hc w hw) (kk ls hL)) k
theorem A.pop {v : AV} (hd : Dc M pc .pop 1 n) (k : AW M fr kb n L S h Rp) (hv : isL v = false := by rfl) : AW M fr kb pc L (v :: S) h Rp :=
  AW.go (fun hV _ => vok_t hV) (fun p l e R s m args below meth c Q G H locs cells slots ls hx hb _ _ _ _ hL kk => by
    obtain ⟨hd, rfl⟩ := hd
    have hc : (cv G v).category = 1 := by
      rcases lv_cat (cv G v) with q | q
      · exact q
      · rw [(isL_cat G v).mp q] at hv; cases hv
    exact lv_pop hx hb hd hc (kk ls hL)) k
/-! jumps and branches -/
def Dgo (M : MT) (pc t : Nat) : Prop := ∃ off : Int, decode (mB M) pc = .ok (.goto off, 3) ∧ (pc : Int) + off = (t : Int)
def Dif (M : MT) (pc : Nat) (cd : ClassFile.Cond) (t n : Nat) : Prop := ∃ off : Int, decode (mB M) pc = .ok (.ifCond cd off, 3) ∧ (pc : Int) + off = (t : Int) ∧ pc + 3 = n
def Dic (M : MT) (pc : Nat) (cd : ClassFile.Cond) (t n : Nat) : Prop := ∃ off : Int, decode (mB M) pc = .ok (.if_icmp cd off, 3) ∧ (pc : Int) + off = (t : Int) ∧ pc + 3 = n
theorem A.if_eq {x : Int} {t : Nat} (hd : Dif M pc .eq t n) (kt : x = 0 → AW M fr kb t L S h Rp) (kf : ¬ x = 0 → AW M fr kb n L S h Rp) : AW M fr kb pc L (vI x :: S) h Rp := by
  intro p l e R s m args below meth c Q G X H locs cells slots ls hH hS hL hV hc hs
  obtain ⟨off, hd, ht, rfl⟩ := hd
  have r1 := vok_h hV
  exact lv_if_eq X.1.1 X.1.2.1 hd ht (fun q => kt (by rw [i32_0] at q; (first | rw [i32_eq r1 (by omega)] at q | rw [i32_lt r1 (by omega)] at q | rw [i32_lt (by omega) r1] at q | rw [i32_le r1 (by omega)] at q | rw [i32_le (by omega) r1] at q); omega) p l e R s m args below meth c Q G X H locs cells slots ls hH hS hL (vok_t hV) hc hs)
    (fun q => kf (by rw [i32_0] at q; (first | rw [i32_eq r1 (by omega)] at q | rw [i32_lt r1 (by omega)] at q | rw [i32_lt (by omega) r1] at q | rw [i32_le r1 (by omega)] at q | rw [i32_le (by omega) r1] at q); omega) p l e R s m args below meth c Q G X H locs cells slots ls hH hS hL (vok_t hV) hc hs)
theorem A.ic_eq {x y : Int} {t : Nat} (hd : Dic M pc .eq t n) (kt : x = y → AW M fr kb t L S h Rp) (kf : ¬ x = y → AW M fr kb n L S h Rp) : AW M fr kb pc L (vI y :: vI x :: S) h Rp := by
  intro p l e R s m args below meth c Q G X H locs cells slots ls hH hS hL hV hc hs
  obtain ⟨off, hd, ht, rfl⟩ := hd
  have r1 := vok_h hV
  have r2 := vok_h (vok_t hV)
  exact lv_icmp_eq X.1.1 X.1.2.1 hd ht (fun q => kt (by (first | rw [i32_eq r2 r1] at q | rw [i32_lt r2 r1] at q | rw [i32_lt r1 r2] at q | rw [i32_le r2 r1] at q | rw [i32_le r1 r2] at q); omega) p l e R s m args below meth c Q G X H locs cells slots ls hH hS hL (vok_t (vok_t hV)) hc hs)
    (fun q => kf (by (first | rw [i32_eq r2 r1] at q | rw [i32_lt r2 r1] at q | rw [i32_lt r1 r2] at q | rw [i32_le r2 r1] at q | rw [i32_le r1 r2] at q); omega) p l e R s m args below meth c Q G X H locs cells slots ls hH hS hL (vok_t (vok_t hV)) hc hs)
theorem A.if_ne {x : Int} {t : Nat} (hd : Dif M pc .ne t n) (kt : ¬ x = 0 → AW M fr kb t L S h Rp) (kf : x = 0 → AW M fr kb n L S h Rp) : AW M fr kb pc L (vI x :: S) h Rp := by
  intro p l e R s m args below meth c Q G X H locs cells slots ls hH hS hL hV hc hs
  obtain ⟨off, hd, ht, rfl⟩ := hd
  have r1 := vok_h hV
  exact lv_if_ne X.1.1 X.1.2.1 hd ht (fun q => kt (by rw [i32_0] at q; (first | rw [i32_eq r1 (by omega)] at q | rw [i32_lt r1 (by omega)] at q | rw [i32_lt (by omega) r1] at q | rw [i32_le r1 (by omega)] at q | rw [i32_le (by omega) r1] at q); omega) p l e R s m args below meth c Q G X H locs cells slots ls hH hS hL (vok_t hV) hc hs)
    (fun q => kf (by rw [i32_0] at q; (first | rw [i32_eq r1 (by omega)] at q | rw [i32_lt r1 (by omega)] at q | rw [i32_lt (by omega) r1] at q | rw [i32_le r1 (by omega)] at q | rw [i32_le (by omega) r1] at q); omega) p l e R s m args below meth c Q G X H locs cells slots ls hH hS hL (vok_t hV) hc hs)
theorem A.ic_ne {x y : Int} {t : Nat} (hd : Dic M pc .ne t n) (kt : ¬ x = y → AW M fr kb t L S h Rp) (kf : x = y → AW M fr kb n L S h Rp) : AW M fr kb pc L (vI y :: vI x :: S) h Rp := by
  intro p l e R s m args below meth c Q G X H locs cells slots ls hH hS hL hV hc hs
  obtain ⟨off, hd, ht, rfl⟩ := hd
  have r1 := vok_h hV
  have r2 := vok_h (vok_t hV)
  exact lv_icmp_ne X.1.1 X.1.2.1 hd ht (fun q => kt (by (first | rw [i32_eq r2 r1] at q | rw [i32_lt r2 r1] at q | rw [i32_lt r1 r2] at q | rw [i32_le r2 r1] at q | rw [i32_le r1 r2] at q); omega) p l e R s m args below meth c Q G X H locs cells slots ls hH hS hL (vok_t (vok_t hV)) hc hs)
    (fun q => kf (by (first | rw [i32_eq r2 r1] at q | rw [i32_lt r2 r1] at q | rw [i32_lt r1 r2] at q | rw [i32_le r2 r1] at q | rw [i32_le r1 r2] at q); omega) p l e R s m args below meth c Q G X H locs cells slots ls hH hS hL (vok_t (vok_t hV)) hc hs)
theorem A.if_lt {x : Int} {t : Nat} (hd : Dif M pc .lt t n) (kt : x < 0 → AW M fr kb t L S h Rp) (kf : 0 ≤ x → AW M fr kb n L S h Rp) : AW M fr kb pc L (vI x :: S) h Rp := by
  intro p l e R s m args below meth c Q G X H locs cells slots ls hH hS hL hV hc hs
  obtain ⟨off, hd, ht, rfl⟩ := hd
  have r1 := vok_h hV
  exact lv_if_lt X.1.1 X.1.2.1 hd ht (fun q => kt (by rw [i32_0] at q; (first | rw [i32_eq r1 (by omega)] at q | rw [i32_lt r1 (by omega)] at q | rw [i32_lt (by omega) r1] at q | rw [i32_le r1 (by omega)] at q | rw [i32_le (by omega) r1] at q); omega) p l e R s m args below meth c Q G X H locs cells slots ls hH hS hL (vok_t hV) hc hs)
    (fun q => kf (by rw [i32_0] at q; (first | rw [i32_eq r1 (by omega)] at q | rw [i32_lt r1 (by omega)] at q | rw [i32_lt (by omega) r1] at q | rw [i32_le r1 (by omega)] at q | rw [i32_le (by omega) r1] at q); omega) p l e R s m args below meth c Q G X H locs cells slots ls hH hS hL (vok_t hV) hc hs)
theorem A.ic_lt {x y : Int} {t : Nat} (hd : Dic M pc .lt t n) (kt : x < y → AW M fr kb t L S h Rp) (kf : y ≤ x → AW M fr kb n L S h Rp) : AW M fr kb pc L (vI y :: vI x :: S) h Rp := by
  intro p l e R s m args below meth c Q G X H locs cells slots ls hH hS hL hV hc hs
  obtain ⟨off, hd, ht, rfl⟩ := hd
  have r1 := vok_h hV
  have r2 := vok_h (vok_t hV)
  exact lv_icmp_lt X.1.1 X.1.2.1 hd ht (fun q => kt (by (first | rw [i32_eq r2 r1] at q | rw [i32_lt r2 r1] at q | rw [i32_lt r1 r2] at q | rw [i32_le r2 r1] at q | rw [i32_le r1 r2] at q); omega) p l e R s m args below meth c Q G X H locs cells slots ls hH hS hL (vok_t (vok_t hV)) hc hs)
    (fun q => kf (by (first | rw [i32_eq r2 r1] at q | rw [i32_lt r2 r1] at q | rw [i32_lt r1 r2] at q | rw [i32_le r2 r1] at q | rw [i32_le r1 r2] at q); omega) p l e R s m args below meth c Q G X H locs cells slots ls hH hS hL (vok_t (vok_t hV)) hc hs)
theorem A.if_ge {x : Int} {t : Nat} (hd : Dif M pc .ge t n) (kt : 0 ≤ x → AW M fr kb t L S h Rp) (kf : x < 0 → AW M fr kb n L S h Rp) : AW M fr kb pc L (vI x :: S) h Rp := by
  intro p l e R s m args below meth c Q G X H locs cells slots ls hH hS hL hV hc hs
  obtain ⟨off, hd, ht, rfl⟩ := hd
  have r1 := vok_h hV
  exact lv_if_ge X.1.1 X.1.2.1 hd ht (fun q => kt (by rw [i32_0] at q; (first | rw [i32_eq r1 (by omega)] at q | rw [i32_lt r1 (by omega)] at q | rw [i32_lt (by omega) r1] at q | rw [i32_le r1 (by omega)] at q | rw [i32_le (by omega) r1] at q); omega) p l e R s m args below meth c Q G X H locs cells slots ls hH hS hL (vok_t hV) hc hs)
    (fun q => kf (by rw [i32_0] at q; (first | rw [i32_eq r1 (by omega)] at q | rw [i32_lt r1 (by omega)] at q | rw [i32_lt (by omega) r1] at q | rw [i32_le r1 (by omega)] at q | rw [i32_le (by omega) r1] at q); omega) p l e R s m args below meth c Q G X H locs cells slots ls hH hS hL (vok_t hV) hc hs)
theorem A.ic_ge {x y : Int} {t : Nat} (hd : Dic M pc .ge t n) (kt : y ≤ x → AW M fr kb t L S h Rp) (kf : x < y → AW M fr kb n L S h Rp) : AW M fr kb pc L (vI y :: vI x :: S) h Rp := by
  intro p l e R s m args below meth c Q G X H locs cells slots ls hH hS hL hV hc hs
  obtain ⟨off, hd, ht, rfl⟩ := hd
  have r1 := vok_h hV
  have r2 := vok_h (vok_t hV)
  exact lv_icmp_ge X.1.1 X.1.2.1 hd ht (fun q => kt (by (first | rw [i32_eq r2 r1] at q | rw [i32_lt r2 r1] at q | rw [i32_lt r1 r2] at q | rw [i32_le r2 r1] at q | rw [i32_le r1 r2] at q); omega) p l e R s m args below meth c Q G X H locs cells slots ls hH hS hL (vok_t (vok_t hV)) hc hs)
    (fun q => kf (by (first | rw [i32_eq r2 r1] at q | rw [i32_lt r2 r1] at q | rw [i32_lt r1 r2] at q | rw [i32_le r2 r1] at q | rw [i32_le r1 r2] at q); omega) p l e R s m args below meth c Q G X H locs cells slots ls hH hS hL (vok_t (vok_t hV)) hc hs)
theorem A.if_gt {x : Int} {t : Nat} (hd : Dif M pc .gt t n) (kt : 0 < x → AW M fr kb t L S h Rp) (kf : x ≤ 0 → AW M fr kb n L S h Rp) : AW M fr kb pc L (vI x :: S) h Rp := by
  intro p l e R s m args below meth c Q G X H locs cells slots ls hH hS hL hV hc hs
  obtain ⟨off, hd, ht, rfl⟩ := hd
  have r1 := vok_h hV
  exact lv_if_gt X.1.1 X.1.2.1 hd ht (fun q => kt (by rw [i32_0] at q; (first | rw [i32_eq r1 (by omega)] at q | rw [i32_lt r1 (by omega)] at q | rw [i32_lt (by omega) r1] at q | rw [i32_le r1 (by omega)] at q | rw [i32_le (by omega) r1] at q); omega) p l e R s m args below meth c Q G X H locs cells slots ls hH hS hL (vok_t hV) hc hs)
    (fun q => kf (by rw [i32_0] at q; (first | rw [i32_eq r1 (by omega)] at q | rw [i32_lt r1 (by omega)] at q | rw [i32_lt (by omega) r1] at q | rw [i32_le r1 (by omega)] at q | rw [i32_le (by omega) r1] at q); omega) p l e R s m args below meth c Q G X H locs cells slots ls hH hS hL (vok_t hV) hc hs)
theorem A.ic_gt {x y : Int} {t : Nat} (hd : Dic M pc .gt t n) (kt : y < x → AW M fr kb t L S h Rp) (kf : x ≤ y → AW M fr kb n L S h Rp) : AW M fr kb pc L (vI y :: vI x :: S) h Rp := by
  intro p l e R s m args below meth c Q G X H locs cells slots ls hH hS hL hV hc hs
  obtain ⟨off, hd, ht, rfl⟩ := hd
  have r1 := vok_h hV
  have r2 := vok_h (vok_t hV)
  exact lv_icmp_gt X.1.1 X.1.2.1 hd ht (fun q => kt (by (first | rw [i32_eq r2 r1] at q | rw [i32_lt r2 r1] at q | rw [i32_lt r1 r2] at q | rw [i32_le r2 r1] at q | rw [i32_le r1 r2] at q); omega) p l e R s m args below meth c Q G X H locs cells slots ls hH hS hL (vok_t (vok_t hV)) hc hs)
    (fun q => kf (by (first | rw [i32_eq r2 r1] at q | rw [i32_lt r2 r1] at q | rw [i32_lt r1 r2] at q | rw [i32_le r2 r1] at q | rw [i32_le r1 r2] at q); omega) p l e R s m args below meth c Q G X H locs cells slots ls hH hS hL (vok_t (vok_t hV)) hc hs)
theorem A.if_le {x : Int} {t : Nat} (hd : Dif M pc .le t n) (kt : x ≤ 0 → AW M fr kb t L S h Rp) (kf : 0 < x → AW M fr kb n L S h Rp) : AW M fr kb pc L (vI x :: S) h Rp := by
  intro p l e R s m args below meth c Q G X H locs cells slots ls hH hS hL hV hc hs
  obtain ⟨off, hd, ht, rfl⟩ := hd
  have r1 := vok_h hV
  exact lv_if_le X.1.1 X.1.2.1 hd ht (fun q => kt (by rw [i32_0] at q; (first | rw [i32_eq r1 (by omega)] at q | rw [i32_lt r1 (by omega)] at q | rw [i32_lt (by omega) r1] at q | rw [i32_le r1 (by omega)] at q | rw [i32_le (by omega) r1] at q); omega) p l e R s m args below meth c Q G X H locs cells slots ls hH hS hL (vok_t hV) hc hs)
    (fun q => kf (by rw [i32_0] at q; (first | rw [i32_eq r1 (by omega)] at q | rw [i32_lt r1 (by omega)] at q | rw [i32_lt (by omega) r1] at q | rw [i32_le r1 (by omega)] at q | rw [i32_le (by omega) r1] at q); omega) p l e R s m args below meth c Q G X H locs cells slots ls hH hS hL (vok_t hV) hc hs)
theorem A.ic_le {x y : Int} {t : Nat} (hd : Dic M pc .le t n) (kt : x ≤ y → AW M fr kb t L S h Rp) (kf : y < x → AW M fr kb n L S h Rp) : AW M fr kb pc L (vI y :: vI x :: S) h Rp := by
  intro p l e R s m args below meth c Q G X H locs cells slots ls hH hS hL hV hc hs
  obtain ⟨off, hd, ht, rfl⟩ := hd
  have r1 := vok_h hV
  have r2 := vok_h (vok_t hV)
  exact lv_icmp_le X.1.1 X.1.2.1 hd ht (fun q => kt (by (first | rw [i32_eq r2 r1] at q | rw [i32_lt r2 r1] at q | rw [i32_lt r1 r2] at q | rw [i32_le r2 r1] at q | rw [i32_le r1 r2] at q); omega) p l e R s m args below meth c Q G X H locs cells slots ls hH hS hL (vok_t (vok_t hV)) hc hs)
    (fun q => kf (by (first | rw [i32_eq r2 r1] at q | rw [i32_lt r2 r1] at q | rw [i32_lt r1 r2] at q | rw [i32_le r2 r1] at q | rw [i32_le r1 r2] at q); omega) p l e R s m args below meth c Q G X H locs cells slots ls hH hS hL (vok_t (vok_t hV)) hc hs)
theorem A.goto {t : Nat} (hd : Dgo M pc t) (k : AW M fr kb t L S h Rp) : AW M fr kb pc L S h Rp := by
  obtain ⟨off, hd, ht⟩ := hd
  exact AW.go (fun hV _ => hV) (fun p l e R s m args below meth c Q G H locs cells slots ls hx hb _ _ _ _ hL kk => lv_goto hx hb hd ht (kk ls hL)) k
/-- a switch over lo, lo + 1 .. : its targets, in their order -/
def TSW (M : MT) (fr : Nat) (kb : Nat × Nat) (L : List (Option AV)) (S : List AV) (h : AH) (Rp : RP) (x : Int) : Int → List Nat → Prop
  | _, [] => True
  | lo, t :: ts => (x = lo → AW M fr kb t L S h Rp) ∧ TSW M fr kb L S h Rp x (lo + 1) ts
theorem TSW.get {x : Int} : ∀ (ts : List Nat) (lo : Int) (i t : Nat), TSW M fr kb L S h Rp x lo ts → ts[i]? = some t → x = lo + i → AW M fr kb t L S h Rp := by
  intro ts
  induction ts with
  | nil => intro lo i t _ h1; simp at h1
  | cons a ts ih =>
    intro lo i t hT h1 h2
    cases i with
    | zero =>
      have : a = t := by simpa using h1
      subst this
      exact hT.1 (by omega)
    | succ i => exact ih (lo + 1) i t hT.2 (by simpa using h1) (by omega)
def Dts (M : MT) (pc : Nat) (lo : Int) (ts : List Nat) (td : Nat) : Prop := ∃ (dflt hi : Int) (offs : Array Int) (len : Nat), decode (mB M) pc = .ok (.tableswitch dflt lo hi offs, len) ∧ (pc : Int) + dflt = (td : Int) ∧ hi + 1 = lo + ts.length ∧ offs.size = ts.length ∧ ∀ i : Fin ts.length, offs[(i : Nat)]?.map (fun o => (pc : Int) + o) = some (ts[i] : Int)
theorem A.tsw {x lo : Int} {ts : List Nat} {td : Nat} (hd : Dts M pc lo ts td) (kt : TSW M fr kb L S h Rp x lo ts) (kd : x < lo ∨ lo + ts.length ≤ x → AW M fr kb td L S h Rp) : AW M fr kb pc L (vI x :: S) h Rp := by
  intro p l e R s m args below meth c Q G X H locs cells slots ls hH hS hL hV hc hs
  obtain ⟨dflt, hi, offs, len, hd, htd, hhi, hsz, hto⟩ := hd
  have r1 : (Int32.ofInt x).toInt = x := of_i32 (vok_h hV)
  by_cases hin : x < lo ∨ hi < x
  · exact lv_tableOut X.1.1 X.1.2.1 hd (by rw [r1]; exact hin) htd (kd (by omega) p l e R s m args below meth c Q G X H locs cells slots ls hH hS hL (vok_t hV) hc hs)
  · have hlt : (x - lo).toNat < ts.length := by omega
    have h1 := hto ⟨(x - lo).toNat, hlt⟩
    obtain ⟨o, ho, hoe⟩ := Option.map_eq_some_iff.mp h1
    exact lv_tableIn X.1.1 X.1.2.1 hd (by rw [r1]; omega) (by rw [r1]; omega) (by rw [r1]; exact ho) hoe (TSW.get ts lo (x - lo).toNat _ kt (by simp [hlt]) (by omega) p l e R s m args below meth c Q G X H locs cells slots ls hH hS hL (vok_t hV) hc hs)
/-! a truth of a call, as an int -/
noncomputable def bi (P : Prop) : Int := @ite Int P (Classical.propDecidable P) 1 0
theorem bi_t {P : Prop} (h : P) : bi P = 1 := @if_pos P (Classical.propDecidable P) h Int 1 0
theorem bi_f {P : Prop} (h : ¬ P) : bi P = 0 := @if_neg P (Classical.propDecidable P) h Int 1 0
theorem bi_1 {P : Prop} : bi P = 1 ↔ P := by
  rcases Classical.em P with h | h
  · rw [bi_t h]; exact ⟨fun _ => h, fun _ => rfl⟩
  · rw [bi_f h]; exact ⟨fun q => absurd q (by decide), fun q => absurd q h⟩
theorem bi_0 {P : Prop} : bi P = 0 ↔ ¬ P := by
  rcases Classical.em P with h | h
  · rw [bi_t h]; exact ⟨fun q => absurd q (by decide), fun q => absurd h q⟩
  · rw [bi_f h]; exact ⟨fun _ => h, fun _ => rfl⟩
theorem bi_rng (P : Prop) : 0 ≤ bi P ∧ bi P ≤ 1 := by
  rcases Classical.em P with h | h
  · rw [bi_t h]; decide
  · rw [bi_f h]; decide
theorem A.bz_eq {P : Prop} {t : Nat} (hd : Dif M pc .eq t n) (kt : ¬ P → AW M fr kb t L S h Rp) (kf : P → AW M fr kb n L S h Rp) : AW M fr kb pc L (vI (bi P) :: S) h Rp :=
  A.if_eq hd (fun q => kt (bi_0.mp q)) (fun q => kf (Classical.byContradiction fun z => q (bi_f z)))
theorem A.bz_ne {P : Prop} {t : Nat} (hd : Dif M pc .ne t n) (kt : P → AW M fr kb t L S h Rp) (kf : ¬ P → AW M fr kb n L S h Rp) : AW M fr kb pc L (vI (bi P) :: S) h Rp :=
  A.if_ne hd (fun q => kt (Classical.byContradiction fun z => q (bi_f z))) (fun q => kf (bi_0.mp q))
end ROWS
end
section
/-! ===== the abstract machine's rows: fields, arrays, new cells, returns ===== -/
def FL (own : String) (idx ci k : Nat) : Prop := ∃ (C : String) (T : u_T) (N : Nat), vwCl[ci]? = some (C, T, N) ∧ k < N ∧ (∀ w ∈ u_ws C T N, w ∈ tG) ∧ Jvm.Cond.fieldLink own idx (T k).1 (T k).2.1 (T k).2.2.1 ∈ tG
/-- what a store needs to know of a field, beside its link: type, final or not, whose it is -/
def FP (own : String) (ci k : Nat) (ty : FieldType) (fin : Bool) : Prop := ∃ (C : String) (T : u_T) (N : Nat) (ty0 : Nat → FieldType), vwCl[ci]? = some (C, T, N) ∧ (∀ j, j < N → parseFieldDescriptor (T j).2.2.1 = some (ty0 j)) ∧ (∀ a, a < N → ∀ b, b < N → a ≠ b → (T a).2.1 ≠ (T b).2.1) ∧ parseFieldDescriptor (T k).2.2.1 = some ty ∧ (T k).2.2.2 = fin ∧ (fin = true → (T k).1 = own)
def tyOK (ty : FieldType) (v : AV) : Prop := match ty, v with
  | .int, .inl _ => True
  | .long, .inr (.inr (.inl _)) => True
  | .object _, .inr (.inl _) => True
  | .array _, .inr (.inl _) => True
  | _, _ => False
theorem tyOK.fits {ty : FieldType} {v : AV} (G : GD) (h : tyOK ty v) : narrow ty (cv G v) = cv G v ∧ fits ty (cv G v) = true := by
  cases ty <;> rcases v with z | r | x | b <;> first | exact absurd h (fun q => q) | exact ⟨rfl, rfl⟩ | (cases r <;> exact ⟨rfl, rfl⟩)
theorem P1 {D : va_G} {q : Nat × va_E} {H : Heap} (h : va_at D vwCl q H) : va_P D vwCl [q] H := fun k x hx => by
  match k, hx with
  | 0, hx => cases hx; exact h
  | k + 1, hx => simp at hx
theorem GK.arr {G : GD} {s : State} (hK : GK G s) (ty : Nat) : ArrOfT s (gC G ty) (tyF ty) ∧ va_RA s (gC G ty) (tyF ty) := by
  match ty with
  | 0 => exact hK.1.2 0 _ rfl
  | 1 => exact hK.1.2 1 _ rfl
  | ty + 2 => exact hK.1.2 2 _ rfl
theorem GK.arq {G : GD} {s : State} (hK : GK G s) : ArrOfT s (gQ G) (.object RX1) ∧ va_RA s (gQ G) (.object RX1) := hK.1.2 3 _ rfl
theorem map_get (G : GD) {fs : List AV} {k : Nat} {v : AV} (h : fs[k]? = some v) : (fs.map (cv G))[k]? = some (cv G v) := by rw [List.getElem?_map, h]; rfl
theorem cell_set (cA : ClassId) (N : Nat) (f : Int → Int) {i v : Int} {x : Value} (h0 : 0 ≤ i) (h1 : i < N) (hi : -2147483648 ≤ i ∧ i ≤ 2147483647) (hx : x = .int (Int32.ofInt v)) :
    (vp_cell cA (N, .inl (fun j : Nat => Int32.ofInt (f j)))).setSlot (Int32.ofInt i).toNatClampNeg x = vp_cell cA (N, .inl (fun j : Nat => Int32.ofInt (fset f i v j))) := by
  subst hx
  rw [vp_cell_i, vp_cell_i, arrV_store, i32_cl hi]
  congr 1
  funext q
  by_cases hq : q = i.toNat
  · have e : (q : Int) = i := by omega
    simp only [updV, fset, if_pos hq, if_pos e]
  · have e : ¬ (q : Int) = i := by omega
    simp [updV, fset, hq, e]
theorem cell_setq (cA : ClassId) (N : Nat) (g : Int → Option Nat) {i : Int} {r : Option Nat} (h0 : 0 ≤ i) (h1 : i < N) (hi : -2147483648 ≤ i ∧ i ≤ 2147483647) :
    (vp_cell cA (N, .inr (.inr (.inr (.inr (fun j : Nat => g j)))))).setSlot (Int32.ofInt i).toNatClampNeg (va_rf r) = vp_cell cA (N, .inr (.inr (.inr (.inr (fun j : Nat => gset g i r j))))) := by
  rw [vp_cell_q, vp_cell_q, arrV_store, i32_cl hi]
  congr 1
  funext q
  by_cases hq : q = i.toNat
  · have e : (q : Int) = i := by omega
    simp only [updV, gset, if_pos hq, if_pos e]
  · have e : ¬ (q : Int) = i := by omega
    simp [updV, gset, hq, e]
theorem Fr.put {h : AH} {a : Nat} {c : AC} : Fr h (hput h a c) a 1 := ⟨rfl, fun q hq => by
  have e : ¬ q = a := fun e => hq ⟨by omega, by omega⟩
  simp [hput, e]⟩
theorem hput_at {h : AH} {a : Nat} {c : AC} : (hput h a c).2 a = some c := by simp [hput]
section CELLS
variable {M : MT} {fr : Nat} {kb : Nat × Nat} {pc n : Nat} {L : List (Option AV)} {S : List AV} {h : AH} {Rp : RP}
def Dgf (M : MT) (pc ci k n : Nat) : Prop := ∃ idx : Nat, decode (mB M) pc = .ok (.getfield idx, 3) ∧ FL (mY M).cls idx ci k ∧ pc + 3 = n
def Dpf (M : MT) (pc ci k : Nat) (ty : FieldType) (fin : Bool) (n : Nat) : Prop := ∃ idx : Nat, decode (mB M) pc = .ok (.putfield idx, 3) ∧ FL (mY M).cls idx ci k ∧ FP (mY M).cls ci k ty fin ∧ pc + 3 = n
theorem A.getf {a ci k : Nat} {fs : List AV} {v : AV} (hd : Dgf M pc ci k n) (kk : AW M fr kb n L (v :: S) h Rp) (hc : h.2 a = some (kO ci fs) := by assumption) (hv : fs[k]? = some v := by rfl) : AW M fr kb pc L (vR a :: S) h Rp := by
  intro p l e R s m args below meth c Q G X H locs cells slots ls hH hS hL hV hcl hsl
  obtain ⟨idx, hd, ⟨C, T, N, h1, h2, h3, h4⟩, rfl⟩ := hd
  obtain ⟨g1, g2, g3⟩ := hH.2.1 a _ hc
  exact va_get (D := G.1) (ci := ci) (v := cv G v) (C := C) (T := T) (N := N) X.1.1 X.1.2.1 X.1.2.2.2.2 h3 X.1.2.2.2.1 X.2.1.1.1 (P1 g1) 0 rfl h1 k h2 (X.1.2.2.2.2 _ h4) (fun _ q => q) (map_get G hv) hd (kk p l e R s m args below meth c Q G X H locs cells slots ls hH hS hL (vok_c (g2 v (List.mem_of_getElem? hv)) (vok_t hV)) hcl hsl)
theorem vok_set {fs : List AV} {k : Nat} {v : AV} (h : ∀ w ∈ fs, vok w) (hv : vok v) : ∀ w ∈ fs.set k v, vok w := fun w hw => by
  rcases List.mem_or_eq_of_mem_set hw with q | q
  · exact h w q
  · rw [q]; exact hv
theorem A.putf {a ci k : Nat} {fs : List AV} {v : AV} {ty : FieldType} (hd : Dpf M pc ci k ty false n) (kk : ∀ h' : AH, h'.2 a = some (kO ci (fs.set k v)) → Fr h h' a 1 → AW M fr kb n L S h' Rp) (hc : h.2 a = some (kO ci fs) := by assumption) (hk : k < fs.length := by decide) (ht : tyOK ty v := by trivial) : AW M fr kb pc L (v :: vR a :: S) h Rp := by
  intro p l e R s m args below meth c Q G X H locs cells slots ls hH hS hL hV hcl hsl
  obtain ⟨idx, hd, ⟨C, T, N, h1, h2, h3, h4⟩, ⟨C', T', N', ty0, f1, f2, f3, f4, f5, -⟩, rfl⟩ := hd
  cases h1.symm.trans f1
  obtain ⟨g1, g2, g3⟩ := hH.2.1 a _ hc
  have hts := X.1.2.2.2.2
  have hap := va_apart (own := (mY M).cls) hts h3 ty0 f2 f3 X.2.1.1.1 h1
  obtain ⟨r, q0, cell, q1, q2, q3, q4⟩ := id g1
  have hr : r = (C, T, N) := Option.some.inj (q0.symm.trans h1)
  subst hr
  obtain ⟨hSl, hfc, kC, hkC, hkind⟩ := X.2.1.1.1.1 ci _ h1
  obtain ⟨cf, kf, fi, f, hi, hsl'⟩ := hSl k h2
  have hlay := hts _ (h3 _ (u_in_lay h2))
  unfold u_lay at hlay
  rw [if_neg (by rw [f5]; decide)] at hlay
  have hst := (u_facts hfc hkC (u_lays hts h3 h2) hi).1
  have h6 := u_store hfc hkC hkind hlay hi f4 (ht.fits G).1 (ht.fits G).2
  refine W.putK X.1.1 X.1.2.1 (f := f) ⟨X.1.2.2.2.1, hts _ h4, ⟨_, _, _, hi⟩, hst⟩ (by rw [q2]; exact h6) q1 q3 (by rw [hsl']; exact k2_hasslot (q4 k h2)) rfl rfl hd fun H' e1 e2 e3 => ?_
  rw [hsl'] at e1 ⊢
  have hat : va_at G.1 vwCl (a, enc G (kO ci (fs.set k v))) H' := by
    refine ⟨_, h1, t_OB.to (V := updV (vp_V (fs.map (cv G))) k (cv G v)) ⟨_, e1, q2, q3, t_set q4 hap h2 _⟩ (fun j _ => ?_)⟩
    rw [vp_updV_set (by simpa using hk)]
    show vp_V ((fs.map (cv G)).set k (cv G v)) j = vp_V ((fs.set k v).map (cv G)) j
    rw [List.map_set]
  exact kk (hput h a (kO ci (fs.set k v))) hput_at Fr.put p l e R s m args below meth c Q G X H' _ cells slots ls (hH.store hc e2 e3 hat (vok_set g2 (vok_h hV))) (hS.put e2 e3 g3) hL (vok_t (vok_t hV)) hcl hsl
theorem A.putF {a ci k : Nat} {fs : List AV} {v : AV} {ty : FieldType} (hd : Dpf M pc ci k ty true n) (kk : ∀ h' : AH, h'.2 a = some (kO ci (fs.set k v)) → Fr h h' a 1 → AW M fr kb n L S h' Rp) (hI : mI M = true := by rfl) (hc : h.2 a = some (kO ci fs) := by assumption) (hk : k < fs.length := by decide) (ht : tyOK ty v := by trivial) : AW M fr kb pc L (v :: vR a :: S) h Rp := by
  intro p l e R s m args below meth c Q G X H locs cells slots ls hH hS hL hV hcl hsl
  obtain ⟨idx, hd, ⟨C, T, N, h1, h2, h3, h4⟩, ⟨C', T', N', ty0, f1, f2, f3, f4, f5, f6⟩, rfl⟩ := hd
  cases h1.symm.trans f1
  obtain ⟨g1, g2, g3⟩ := hH.2.1 a _ hc
  have hts := X.1.2.2.2.2
  have hap := va_apart (own := (mY M).cls) hts h3 ty0 f2 f3 X.2.1.1.1 h1
  obtain ⟨r, q0, cell, q1, q2, q3, q4⟩ := id g1
  have hr : r = (C, T, N) := Option.some.inj (q0.symm.trans h1)
  subst hr
  obtain ⟨hSl, hfc, kC, hkC, hkind⟩ := X.2.1.1.1.1 ci _ h1
  obtain ⟨cf, kf, fi, f, hi, hsl'⟩ := hSl k h2
  have hlay := hts _ (h3 _ (u_in_lay h2))
  unfold u_lay at hlay
  rw [if_pos f5] at hlay
  have hst := (u_facts hfc hkC (u_lays hts h3 h2) hi).1
  have hcf : m.cls = cf := by
    obtain ⟨_, _, c', _, _, _, -, -, hf', -, -, -, hown2, -⟩ := Cond.laysFinal_spec hlay
    have e1 : c' = cf := by have := hi.symm.trans hf'; simp at this; exact this.1.symm
    rw [f6 rfl] at hown2
    rw [← e1]; exact Option.some.inj (X.1.2.2.2.1.symm.trans hown2)
  have h6 := u_fits hfc hkC hkind (Or.inr hlay) hi f4 (ht.fits G).1 (ht.fits G).2
  refine W.putFinK X.1.1 X.1.2.1 X.1.2.2.2.1 (hts _ h4) hi hst hcf (X.2.1.2.2.1 hI) (by rw [q2]; exact h6) q1 q3 (by rw [hsl']; exact k2_hasslot (q4 k h2)) rfl rfl hd fun H' e1 e2 e3 => ?_
  rw [hsl'] at e1 ⊢
  have hat : va_at G.1 vwCl (a, enc G (kO ci (fs.set k v))) H' := by
    refine ⟨_, h1, t_OB.to (V := updV (vp_V (fs.map (cv G))) k (cv G v)) ⟨_, e1, q2, q3, t_set q4 hap h2 _⟩ (fun j _ => ?_)⟩
    rw [vp_updV_set (by simpa using hk)]
    show vp_V ((fs.map (cv G)).set k (cv G v)) j = vp_V ((fs.set k v).map (cv G)) j
    rw [List.map_set]
  exact kk (hput h a (kO ci (fs.set k v))) hput_at Fr.put p l e R s m args below meth c Q G X H' _ cells slots ls (hH.store hc e2 e3 hat (vok_set g2 (vok_h hV))) (hS.put e2 e3 g3) hL (vok_t (vok_t hV)) hcl hsl
/-! arrays -/
theorem i32_idx {i : Int} (h0 : 0 ≤ i) (hi : -2147483648 ≤ i ∧ i ≤ 2147483647) : (((Int32.ofInt i).toNatClampNeg : Nat) : Int) = i := by
  rw [i32_cl hi]; omega
theorem vin_vok {ty : Nat} {z : Int} (h : vin ty z) : vok (vI z) := by
  match ty, h with
  | 0, h => exact h
  | 1, h => exact ⟨by have := h.1; omega, by have := h.2; omega⟩
  | ty + 2, h => exact ⟨by have := h.1; omega, by have := h.2; omega⟩
theorem cok_at {ty N : Nat} {f : Int → Int} {i : Int} (h : cok (kA ty N f)) (h0 : 0 ≤ i) (h1 : i < N) : vok (vI (f i)) := by
  have := h.2 i.toNat (by omega)
  rw [show ((i.toNat : Nat) : Int) = i by omega] at this
  exact vin_vok this
theorem A.iald {a N : Nat} {f : Int → Int} {i : Int} (hd : Dc M pc .iaload 1 n) (kk : AW M fr kb n L (vI (f i) :: S) h Rp) (hc : h.2 a = some (kA 0 N f) := by assumption) (h0 : 0 ≤ i := by omega) (h1 : i < N := by omega) : AW M fr kb pc L (vI i :: vR a :: S) h Rp := by
  intro p l e R s m args below meth c Q G X H locs cells slots ls hH hS hL hV hcl hsl
  obtain ⟨hd, rfl⟩ := hd
  obtain ⟨g1, g2, g3⟩ := hH.2.1 a _ hc
  have k1 := kk p l e R s m args below meth c Q G X H locs cells slots ls hH hS hL (vok_c (cok_at g2 h0 h1) (vok_t (vok_t hV))) hcl hsl
  refine va_iald X.1.1 X.1.2.1 X.2.1.1.1 (P1 g1) 0 0 rfl rfl (i32_in h0 h1 g2.1) hd ?_
  rw [i32_idx h0 (vok_h hV)]
  exact k1
theorem A.bald {a N ty : Nat} {f : Int → Int} {i : Int} (hd : Dc M pc .baload 1 n) (kk : AW M fr kb n L (vI (f i) :: S) h Rp) (hc : h.2 a = some (kA ty N f) := by assumption) (h0 : 0 ≤ i := by omega) (h1 : i < N := by omega) (hty : ty = 1 ∨ ty = 2 := by decide) : AW M fr kb pc L (vI i :: vR a :: S) h Rp := by
  intro p l e R s m args below meth c Q G X H locs cells slots ls hH hS hL hV hcl hsl
  obtain ⟨hd, rfl⟩ := hd
  obtain ⟨g1, g2, g3⟩ := hH.2.1 a _ hc
  have k1 := kk p l e R s m args below meth c Q G X H locs cells slots ls hH hS hL (vok_c (cok_at g2 h0 h1) (vok_t (vok_t hV))) hcl hsl
  rcases hty with rfl | rfl
  · refine va_bald X.1.1 X.1.2.1 X.2.1.1.1 (P1 g1) 0 1 rfl rfl (i32_in h0 h1 g2.1) hd ?_
    rw [i32_idx h0 (vok_h hV)]
    exact k1
  · refine va_zald X.1.1 X.1.2.1 X.2.1.1.1 (P1 g1) 0 2 rfl rfl (i32_in h0 h1 g2.1) hd ?_
    rw [i32_idx h0 (vok_h hV)]
    exact k1
theorem A.qald {a N : Nat} {g : Int → Option Nat} {i : Int} {b : Nat} (hd : Dc M pc .aaload 1 n) (hg : g i = some b) (kk : AW M fr kb n L (vR b :: S) h Rp) (hc : h.2 a = some (kQ N g) := by assumption) (h0 : 0 ≤ i := by omega) (h1 : i < N := by omega) : AW M fr kb pc L (vI i :: vR a :: S) h Rp := by
  intro p l e R s m args below meth c Q G X H locs cells slots ls hH hS hL hV hcl hsl
  obtain ⟨hd, rfl⟩ := hd
  obtain ⟨g1, g2, g3⟩ := hH.2.1 a _ hc
  have k1 := kk p l e R s m args below meth c Q G X H locs cells slots ls hH hS hL (vok_c (v := vR b) trivial (vok_t (vok_t hV))) hcl hsl
  refine va_aldq X.1.1 X.1.2.1 X.2.1.1.1 (P1 g1) 0 3 rfl rfl (i32_in h0 h1 g2) hd ?_
  rw [i32_idx h0 (vok_h hV), hg]
  exact k1
theorem A.alen {a N : Nat} {ty : Nat} {f : Int → Int} (hd : Dc M pc .arraylength 1 n) (kk : AW M fr kb n L (vI N :: S) h Rp) (hc : h.2 a = some (kA ty N f) := by assumption) : AW M fr kb pc L (vR a :: S) h Rp := by
  intro p l e R s m args below meth c Q G X H locs cells slots ls hH hS hL hV hcl hsl
  obtain ⟨hd, rfl⟩ := hd
  obtain ⟨g1, g2, g3⟩ := hH.2.1 a _ hc
  have hN := g2.1
  have k1 := kk p l e R s m args below meth c Q G X H locs cells slots ls hH hS hL (vok_ci (by omega) (vok_t hV)) hcl hsl
  have hv : Int32.ofNat N = Int32.ofInt (N : Int) := Int32.ofInt_eq_ofNat.symm
  match ty, g1 with
  | 0, g1 => exact va_alen X.1.1 X.1.2.1 X.2.1.1.1 (P1 g1) 0 0 rfl rfl hv hd k1
  | 1, g1 => exact va_alen X.1.1 X.1.2.1 X.2.1.1.1 (P1 g1) 0 1 rfl rfl hv hd k1
  | ty + 2, g1 => exact va_alen X.1.1 X.1.2.1 X.2.1.1.1 (P1 g1) 0 2 rfl rfl hv hd k1
theorem fset_in {ty N : Nat} {f : Int → Int} {i v : Int} (h : ∀ j : Nat, j < N → vin ty (f j)) (hv : vin ty v) : ∀ j : Nat, j < N → vin ty (fset f i v j) := fun j hj => by
  unfold fset
  by_cases e : (j : Int) = i
  · rw [if_pos e]; exact hv
  · rw [if_neg e]; exact h j hj
theorem A.iast {a N : Nat} {f : Int → Int} {i v : Int} (hd : Dc M pc .iastore 1 n) (kk : ∀ h' : AH, h'.2 a = some (kA 0 N (fset f i v)) → Fr h h' a 1 → AW M fr kb n L S h' Rp) (hc : h.2 a = some (kA 0 N f) := by assumption) (h0 : 0 ≤ i := by omega) (h1 : i < N := by omega) : AW M fr kb pc L (vI v :: vI i :: vR a :: S) h Rp := by
  intro p l e R s m args below meth c Q G X H locs cells slots ls hH hS hL hV hcl hsl
  obtain ⟨hd, rfl⟩ := hd
  obtain ⟨g1, g2, g3⟩ := hH.2.1 a _ hc
  have hv := vok_h hV
  have hi := vok_h (vok_t hV)
  refine W.iast X.1.1 X.1.2.1 g1 ((X.2.1.1.arr 0).1 N _) (fun q => by cases q) (by show ¬ (_ ∨ (arrV _ _ _).slots.size ≤ _); rw [arrV_size]; exact i32_in h0 h1 g2.1) rfl rfl hd fun H1 e1 z oq => ?_
  exact kk _ hput_at Fr.put p l e R s m args below meth c Q G X H1 _ cells slots ls (hH.store hc z oq (by show H1[a]? = _; rw [e1, cell_set _ _ _ h0 h1 hi rfl]) ⟨g2.1, fset_in g2.2 hv⟩) (hS.put z oq g3) hL (vok_t (vok_t (vok_t hV))) hcl hsl
theorem nar_byte {v : Int} (h : -128 ≤ v ∧ v ≤ 127) : narrow .byte (.int (Int32.ofInt v)) = .int (Int32.ofInt v) := by
  show Value.int (Int32.ofInt v).toInt8.toInt32 = _
  congr 1
  rw [← Int32.toInt_inj, Int8.toInt_toInt32, Int32.toInt_toInt8, of_i32 (by omega)]
  exact Int.bmod_eq_of_le (by omega) (by omega)
theorem nar_bool {v : Int} (h : 0 ≤ v ∧ v ≤ 1) : narrow .boolean (.int (Int32.ofInt v)) = .int (Int32.ofInt v) := by
  rcases (by omega : v = 0 ∨ v = 1) with rfl | rfl <;> rfl
theorem A.bast {a N ty : Nat} {f : Int → Int} {i v : Int} (hd : Dc M pc .bastore 1 n) (kk : ∀ h' : AH, h'.2 a = some (kA ty N (fset f i v)) → Fr h h' a 1 → AW M fr kb n L S h' Rp) (hc : h.2 a = some (kA ty N f) := by assumption) (h0 : 0 ≤ i := by omega) (h1 : i < N := by omega) (hv : (ty = 1 ∧ -128 ≤ v ∧ v ≤ 127) ∨ (ty = 2 ∧ 0 ≤ v ∧ v ≤ 1) := by omega) : AW M fr kb pc L (vI v :: vI i :: vR a :: S) h Rp := by
  intro p l e R s m args below meth c Q G X H locs cells slots ls hH hS hL hV hcl hsl
  obtain ⟨hd, rfl⟩ := hd
  obtain ⟨g1, g2, g3⟩ := hH.2.1 a _ hc
  have hi := vok_h (vok_t hV)
  rcases hv with ⟨rfl, hv⟩ | ⟨rfl, hv⟩
  · refine W.bast X.1.1 X.1.2.1 g1 ((X.2.1.1.arr 1).1 N _) (fun q => by cases q) (by show ¬ (_ ∨ (arrV _ _ _).slots.size ≤ _); rw [arrV_size]; exact i32_in h0 h1 g2.1) rfl rfl hd fun H1 e1 z oq => ?_
    exact kk _ hput_at Fr.put p l e R s m args below meth c Q G X H1 _ cells slots ls (hH.store hc z oq (by show H1[a]? = _; rw [e1, cell_set _ _ _ h0 h1 hi (nar_byte hv)]) ⟨g2.1, fset_in g2.2 hv⟩) (hS.put z oq g3) hL (vok_t (vok_t (vok_t hV))) hcl hsl
  · refine W.zast X.1.1 X.1.2.1 g1 ((X.2.1.1.arr 2).1 N _) (fun q => by cases q) (by show ¬ (_ ∨ (arrV _ _ _).slots.size ≤ _); rw [arrV_size]; exact i32_in h0 h1 g2.1) rfl rfl hd fun H1 e1 z oq => ?_
    exact kk _ hput_at Fr.put p l e R s m args below meth c Q G X H1 _ cells slots ls (hH.store hc z oq (by show H1[a]? = _; rw [e1, cell_set _ _ _ h0 h1 hi (nar_bool hv)]) ⟨g2.1, fset_in g2.2 hv⟩) (hS.put z oq g3) hL (vok_t (vok_t (vok_t hV))) hcl hsl
/-- a Moment is put into an array of Moments -/
theorem A.qast {a b N : Nat} {g : Int → Option Nat} {i : Int} {fs : List AV} (hd : Dc M pc .aastore 1 n) (hb : h.2 b = some (kO 1 fs)) (kk : ∀ h' : AH, h'.2 a = some (kQ N (gset g i (some b))) → Fr h h' a 1 → AW M fr kb n L S h' Rp) (hc : h.2 a = some (kQ N g) := by assumption) (h0 : 0 ≤ i := by omega) (h1 : i < N := by omega) : AW M fr kb pc L (vR b :: vI i :: vR a :: S) h Rp := by
  intro p l e R s m args below meth c Q G X H locs cells slots ls hH hS hL hV hcl hsl
  obtain ⟨hd, rfl⟩ := hd
  obtain ⟨g1, g2, g3⟩ := hH.2.1 a _ hc
  obtain ⟨b1, b2, b3⟩ := hH.2.1 b _ hb
  have hi := vok_h (vok_t hV)
  have hK := X.2.1.1
  obtain ⟨r', hr', cellV, v1, v2, v3, -⟩ := b1
  have hcls := (hK.1.1 1 (RX1, TX1, 4) rfl).2
  obtain ⟨kA, comp, k1, k2, k3, -⟩ := hK.arq.2
  have hcomp : comp = G.1.1 1 := Option.some.inj (k3.symm.trans hcls.1)
  subst hcomp
  obtain ⟨kC, hkC, -⟩ := hcls.2
  have hin := i32_in h0 h1 g2
  refine W.aast X.1.1 X.1.2.1 g1 (fun q h => by cases h) (fun h => by cases h) k1 k2 rfl hkC ⟨fun q => hin (Or.inl q), by show _ < (arrV _ _ _).slots.size; rw [arrV_size]; exact Nat.not_le.mp fun q => hin (Or.inr q)⟩ v1 (fun q h => by rw [v3] at h; cases h) (by rw [v2]; exact hkC) (by rw [v2]; exact va_assign hcls) rfl rfl hd fun H1 e1 z oq => ?_
  exact kk _ hput_at Fr.put p l e R s m args below meth c Q G X H1 _ cells slots ls (hH.store hc z oq (by show H1[a]? = _; rw [e1]; exact congrArg some (cell_setq _ _ _ (r := some b) h0 h1 hi)) g2) (hS.put z oq g3) hL (vok_t (vok_t (vok_t hV))) hcl hsl
/-! the script -/
theorem A.xlen (hd : Dc M pc .arraylength 1 n) (kk : AW M fr kb n L (vI (h.1.2.1 : Int) :: S) h Rp) : AW M fr kb pc L (vX :: S) h Rp := by
  intro p l e R s m args below meth c Q G X H locs cells slots ls hH hS hL hV hcl hsl
  obtain ⟨hd, rfl⟩ := hd
  have hX := hH.2.2.1
  have k1 := kk p l e R s m args below meth c Q G X H locs cells slots ls hH hS hL (vok_ci (by have := hX.2.2.1; omega) (vok_t hV)) hcl hsl
  obtain ⟨scr, x1, x2, x3, x4, x5⟩ := hX.1
  exact W.alen (n := Int32.ofInt (h.1.2.1 : Int)) X.1.1 X.1.2.1 x1 x2 (by rw [x4]; exact Int32.ofInt_eq_ofNat.symm) rfl rfl hd k1
theorem A.xld {i : Int} (hd : Dc M pc .iaload 1 n) (kk : AW M fr kb n L (vI (h.1.2.2 i) :: S) h Rp) (h0 : 0 ≤ i := by omega) (h1 : i < h.1.2.1 := by omega) : AW M fr kb pc L (vI i :: vX :: S) h Rp := by
  intro p l e R s m args below meth c Q G X H locs cells slots ls hH hS hL hV hcl hsl
  obtain ⟨hd, rfl⟩ := hd
  have hX := hH.2.2.1
  have hv : vok (vI (h.1.2.2 i)) := by
    have := hX.2.2.2 i.toNat (by omega)
    rw [show ((i.toNat : Nat) : Int) = i by omega] at this
    exact this
  have k1 := kk p l e R s m args below meth c Q G X H locs cells slots ls hH hS hL (vok_c hv (vok_t (vok_t hV))) hcl hsl
  obtain ⟨scr, x1, x2, x3, x4, x5⟩ := hX.1
  have hi := vok_h hV
  refine W.iald (v := .int (Int32.ofInt (h.1.2.2 i))) X.1.1 X.1.2.1 x1 x2 x3 (by rw [x4]; exact i32_in h0 h1 hX.2.2.1) ?_ rfl rfl hd k1
  rw [i32_cl hi, x5 i.toNat (by omega)]
  show some (Value.int (Int32.ofInt (h.1.2.2 ((i.toNat : Nat) : Int)))) = _
  rw [show ((i.toNat : Nat) : Int) = i by omega]
/-! returns -/
theorem AW.end {v : Option AV} (k : Rp v h) (st : ∀ v', v = some v' → vok v' → True) (hS : S = v.toList) (hr : RetAt M v pc) : AW M fr kb pc L S h Rp := by
  intro p l e R s m args below meth c Q G X H locs cells slots ls hH hS' hL hV hcl hsl
  subst hS
  have h1 := X.2.2 v h H locs cells slots pc ls k (fun x e => hV x (by rw [e]; exact List.mem_cons_self)) hH hS' (by omega) (by omega) hr
  cases v with
  | none => exact h1
  | some x => exact h1
theorem A.iret {z : Int} (hd : mR M = some .int ∧ decode (mB M) pc = .ok (.ireturn, 1)) (k : Rp (some (vI z)) h) : AW M fr kb pc L [vI z] h Rp := AW.end k (fun _ _ _ => trivial) rfl (Or.inl hd)
theorem A.zret {z : Int} (hd : mR M = some .boolean ∧ decode (mB M) pc = .ok (.ireturn, 1)) (k : Rp (some (vI z)) h) (hz : 0 ≤ z ∧ z ≤ 1 := by first | decide | exact bi_rng _ | omega) : AW M fr kb pc L [vI z] h Rp := AW.end k (fun _ _ _ => trivial) rfl (Or.inr ⟨hd.1, hd.2, hz⟩)
theorem A.vret (hd : mR M = none ∧ decode (mB M) pc = .ok (.return_, 1)) (k : Rp none h) : AW M fr kb pc L [] h Rp := AW.end k (fun _ _ _ => trivial) rfl hd
theorem A.lret {x : Int64} (hd : mR M = some .long ∧ decode (mB M) pc = .ok (.lreturn, 1)) (k : Rp (some (vL x)) h) : AW M fr kb pc L [vL x] h Rp := AW.end k (fun _ _ _ => trivial) rfl hd
theorem A.aret {a : Nat} (hd : (∃ n, mR M = some (.object n)) ∧ decode (mB M) pc = .ok (.areturn, 1)) (k : Rp (some (vR a)) h) : AW M fr kb pc L [vR a] h Rp := AW.end k (fun _ _ _ => trivial) rfl hd
end CELLS
end
section
/-! ===== the abstract machine's rows: calls, new cells, constants, a copy ===== -/
theorem blt_ok {k n : Nat} (h : Nat.ble (k + 1) n = true) : k < n := Nat.le_of_ble_eq_true h
def kont (M : MT) (fr : Nat) (kb : Nat × Nat) (n : Nat) (L : List (Option AV)) (S : List AV) (Rp : RP) : RP := fun v h' => match v with
  | some x => AW M fr kb n L (x :: S) h' Rp
  | none => AW M fr kb n L S h' Rp
section CALLS
variable {M M' : MT} {fr d : Nat} {kb : Nat × Nat} {pc n : Nat} {L : List (Option AV)} {S : List AV} {h : AH} {Rp : RP}
theorem kS {x : AV} (k : AW M fr kb n L (x :: S) h Rp) : kont M fr kb n L S Rp (some x) h := k
theorem kN (k : AW M fr kb n L S h Rp) : kont M fr kb n L S Rp none h := k
def qM (G : GD) (Rp' : RP) : State → Outcome → State → Prop := fun st o t => (∃ (v : Option AV) (h' : AH), o = .returned (v.map (cv G)) ∧ Rp' v h' ∧ (∀ x, v = some x → vok x) ∧ HR G h' t t.heap) ∧ va_F (gA G) st t
theorem AW.called {kb' : Nat × Nat} {mc ms : Nat} (h1 : kb'.1 + mc = kb.1) (h2 : kb'.2 + ms = kb.2) {p : Program} {l : Launch} {e : Env} {R : Room} {s : State} {m : MethodId} {args : Array Value} {below : List Frame} {meth : Method} {c : Code} {Q : State → Prop} {G : GD} (X : Cx M fr p l e R s m args below meth c Q G Rp) {H : Heap} {locs : List Loc} {cells slots : Nat} {ls : Array Slot} {st0 : List Value}
    (hS : va_S (gA G) s.heap H locs) (hL : LR G L ls (mL M)) (hV : ∀ v ∈ S, vok v) (hc : cells + kb.1 ≤ R.cells) (hs : slots + kb.2 ≤ R.slots)
    (hr : va_Run p l e R s m args below meth c H locs cells slots mc ms (F0 m pc ls st0) (S.map (cv G)) (qM G (kont M fr kb' (pc + 3) L S Rp)) (gA G)) : W p l e R s m args below meth c H locs cells slots Q (F0 m pc ls st0) := by
  intro T hT X0
  obtain ⟨v, st₀, t, T', Lc, e0, X', hLc, e1, e2, ⟨⟨v', h', hv, hp, hvk, hHt⟩, hz, hk⟩, st⟩ := hr T hT X0
  have hv' : v = v'.map (cv G) := Outcome.returned.inj hv
  subst hv'
  rw [e0] at hz hk
  have hal : t.vm.Alike s.vm := by rw [← e2]; exact X'.warmed.alike.symm
  have hH1 : HR G h' s T'.heap := by rw [e1]; exact hHt.moved hal
  have hS1 : va_S (gA G) s.heap T'.heap (locs ++ Lc) := ⟨Nat.le_trans hS.1 (by rw [e1]; exact hz), fun q g1 g2 => by rw [e1, hk q (Nat.lt_of_lt_of_le g1 hS.1) g2]; exact hS.2.1 q g1 g2, fun q hq => by
      rcases List.mem_append.mp hq with z | z
      · exact hS.2.2 q z
      · exact hLc q z⟩
  cases v' with
  | none =>
    obtain ⟨t2, a1, b1⟩ := hp p l e R s m args below meth c Q G X T'.heap _ (cells + mc) (slots + ms) ls hH1 hS1 hL hV (by omega) (by omega) T' rfl X'
    exact ⟨t2, st t2 a1, b1⟩
  | some x =>
    obtain ⟨t2, a1, b1⟩ := hp p l e R s m args below meth c Q G X T'.heap _ (cells + mc) (slots + ms) ls hH1 hS1 hL (vok_c (hvk x rfl) hV) (by omega) (by omega) T' rfl X'
    exact ⟨t2, st t2 a1, b1⟩
theorem pc_blind {G : GD} {as : List AV} : FrameBlind (va_Pc (as.map (cv G)) (fun U => HR G h U U.heap ∧ GK G U)) := fun a U g mk q => ⟨q.1, HR.moved (u := U) (U := U.calling g mk a) (Vm.Alike.refl U.vm) q.2.1, GK.same (s := U) (U := U.calling g mk a) rfl q.2.2⟩
theorem pc_here {G : GD} {as : List AV} {s : State} {H : Heap} (hH : HR G h s H) (hK : GK G s) (U : State) (hU : U.heap = H) (hW : s.WarmedH U.vm) : va_Pc (as.map (cv G)) (fun U => HR G h U U.heap ∧ GK G U) (as.map (cv G)).toArray U := ⟨rfl, by rw [hU]; exact hH.moved hW.alike, hK.warm hW⟩
theorem cat_sum (G : GD) : ∀ S : List AV, ((S.map (cv G)).map fun v => v.category).sum ≤ 2 * S.length := by
  intro S
  induction S with
  | nil => exact Nat.le_refl _
  | cons v S ih =>
    have h1 : (cv G v).category ≤ 2 := by rcases lv_cat (cv G v) with q | q <;> omega
    simp only [List.map_cons, List.sum_cons, List.length_cons]
    omega
/-- what a call of M' needs of the tables -/
def Lk (own : String) (idx : Nat) (M' : MT) (na : Nat) : Prop := MOK M' ∧ Jvm.Cond.methodLink own idx (mY M') ∈ tG ∧ (parseMethodDescriptor (mY M').desc).map (fun d => d.parameters.length) = some na ∧ mL M' ≤ 17
def Div (M : MT) (pc : Nat) (M' : MT) (na n : Nat) : Prop := ∃ idx : Nat, decode (mB M) pc = .ok (.invokevirtual idx, 3) ∧ Lk (mY M).cls idx M' na ∧ (Jvm.Cond.instanceMethod (mY M') ∈ tG ∧ Jvm.Cond.selects (mY M').cls (mY M') (mY M') ∈ tG) ∧ pc + 3 = n
def Dis' (M : MT) (pc : Nat) (M' : MT) (na n : Nat) : Prop := ∃ idx : Nat, decode (mB M) pc = .ok (.invokestatic idx, 3) ∧ Lk (mY M).cls idx M' na ∧ Jvm.Cond.static (mY M') ∈ tG ∧ pc + 3 = n
theorem A.invV {as : List AV} {a ci na : Nat} {fs : List AV} {S0 : List AV} {C : String} {T : u_T} {N : Nat} (hd : Div M pc M' na n) (hM : AM M' d h (vR a :: as) (kont M fr kb n L S Rp)) (hst : S0 = as.reverse ++ vR a :: S) (hna : as.length = na) (hc : h.2 a = some (kO ci fs)) (hcl : vwCl[ci]? = some (C, T, N)) (hC : C = (mY M').cls) (hz : mC M' = 0 ∧ mS M' = 0) (hdf : d + 1 ≤ fr) (hS4 : S.length ≤ 4) : AW M fr kb pc L S0 h Rp := by
  subst hst
  intro p l e R s m args below meth c Q G X H locs cells slots ls hH hS hL hV hcl' hsl
  obtain ⟨idx, hd, ⟨hOK, hlk, hpa, hml⟩, ⟨hin, hsel⟩, rfl⟩ := hd
  obtain ⟨g1, g2, g3⟩ := hH.2.1 a _ hc
  have hVa : ∀ v ∈ vR a :: as, vok v := fun v hv => by
    rcases List.mem_cons.mp hv with rfl | hv
    · trivial
    · exact hV v (List.mem_append_left _ (List.mem_reverse.mpr hv))
  have hVs : ∀ v ∈ S, vok v := fun v hv => hV v (List.mem_append_right _ (List.mem_cons_of_mem _ hv))
  obtain ⟨cellB, r1, r2, r3⟩ := va_recv (q0 := 0) (ci := ci) X.2.1.1.1 (P1 g1) hcl rfl
  have hgood : GoodIn tG (wsV (mY M).cls idx (mY M').cls (mY M') (.code (mY M') (mB M') (mL M') (mR M') :: tG)) := fun w hw => by
    simp only [wsV, List.mem_append, List.mem_cons, List.not_mem_nil, or_false] at hw
    rcases hw with (rfl | rfl | rfl | rfl) | rfl | hw
    · exact ⟨hlk, tG_good hlk⟩
    · exact ⟨hin, tG_good hin⟩
    · exact ⟨hsel, tG_good hsel⟩
    · exact ⟨hOK.2.2.1, tG_good hOK.2.2.1⟩
    · exact ⟨hOK.2.1, tG_good hOK.2.1⟩
    · exact ⟨hw, tG_good hw⟩
  have hcs := cat_sum G S
  have hrun := va_runV (S := ⟨X.1.1, X.1.2.1, X.1.2.2.1, X.1.2.2.2.1, X.1.2.2.2.2⟩) (hM hVa l G)
    (cwV (C := (mY M').cls) na X.1.2.2.2.2 hgood rfl rfl rfl ⟨rfl, hOK.2.2.2.1, hOK.2.2.2.2, hpa⟩ ⟨by rw [X.2.1.2.2.2.1]; exact hdf, by have := X.2.1.2.2.2.2.1; show 8 + (mL M' + 11) + 36 * d ≤ R.locals; omega⟩)
    ⟨pc_blind, ⟨cellB, r1, r2, by rw [← hC]; exact r3⟩, pc_here hH X.2.1.1⟩
    (g := F0 m pc ls ((as.reverse ++ vR a :: S).map (cv G))) (As := as.map (cv G)) (rest := S.map (cv G)) (locs := locs) (cells := cells) (slots := slots) (p := p) (e := e) (below := below) (meth := meth) rfl (by rw [List.length_map]; exact hna) hL.1.1 (by show List.map (cv G) (as.reverse ++ vR a :: S) = _; rw [List.map_append, List.map_reverse]; rfl) (by show 2 * 0 + _ ≤ 8; omega) hd ⟨by rw [hz.1]; omega, by rw [hz.2]; omega⟩
  exact AW.called (by rw [hz.1]; rfl) (by rw [hz.2]; rfl) X hS hL hVs hcl' hsl hrun
theorem A.invS {as : List AV} {na : Nat} {S0 : List AV} (hd : Dis' M pc M' na n) (hM : AM M' d h as (kont M fr kb n L S Rp)) (hst : S0 = as.reverse ++ S) (hna : as.length = na) (hz : mC M' = 0 ∧ mS M' = 0) (hdf : d + 1 ≤ fr) (hS4 : S.length ≤ 4) : AW M fr kb pc L S0 h Rp := by
  subst hst
  intro p l e R s m args below meth c Q G X H locs cells slots ls hH hS hL hV hcl' hsl
  obtain ⟨idx, hd, ⟨hOK, hlk, hpa, hml⟩, hsta, rfl⟩ := hd
  have hVa : ∀ v ∈ as, vok v := fun v hv => hV v (List.mem_append_left _ (List.mem_reverse.mpr hv))
  have hVs : ∀ v ∈ S, vok v := fun v hv => hV v (List.mem_append_right _ hv)
  have hcs := cat_sum G S
  have hts := X.1.2.2.2.2
  have hrun := va_runS (S := ⟨X.1.1, X.1.2.1, X.1.2.2.1, X.1.2.2.2.1, hts⟩) (hM hVa l G)
    ⟨callB_of na hts (tG_in hOK) rfl rfl rfl (hts _ hOK.2.2.1) (hts _ hlk) ⟨hOK.2.2.2.1, hOK.2.2.2.2, hpa⟩ ⟨by rw [X.2.1.2.2.2.1]; exact hdf, by have := X.2.1.2.2.2.2.1; show 8 + (mL M' + 11) + 36 * d ≤ R.locals; omega⟩, hts _ hsta⟩
    ⟨pc_blind, pc_here hH X.2.1.1⟩
    (g := F0 m pc ls ((as.reverse ++ S).map (cv G))) (As := as.map (cv G)) (rest := S.map (cv G)) (locs := locs) (cells := cells) (slots := slots) (p := p) (e := e) (below := below) (meth := meth) rfl (by rw [List.length_map]; exact hna) hL.1.1 (by show List.map (cv G) (as.reverse ++ S) = _; rw [List.map_append, List.map_reverse]) (by show 2 * 0 + _ ≤ 8; omega) hd ⟨by rw [hz.1]; omega, by rw [hz.2]; omega⟩
  exact AW.called (by rw [hz.1]; rfl) (by rw [hz.2]; rfl) X hS hL hVs hcl' hsl hrun
/-- a static method of a nest mate, by a link of the nest's -/
def DisN (M : MT) (pc : Nat) (M' : MT) (na n : Nat) : Prop := ∃ (idx : Nat) (host : String), decode (mB M) pc = .ok (.invokestatic idx, 3) ∧ MOK M' ∧ Jvm.Cond.methodLinkNest (mY M).cls idx (mY M') host ∈ nestW ∧ (parseMethodDescriptor (mY M').desc).map (fun d => d.parameters.length) = some na ∧ mL M' ≤ 17 ∧ Jvm.Cond.static (mY M') ∈ tG ∧ pc + 3 = n
theorem A.invSN {as : List AV} {na : Nat} {S0 : List AV} (hd : DisN M pc M' na n) (hM : AM M' d h as (kont M fr kb n L S Rp)) (hst : S0 = as.reverse ++ S) (hna : as.length = na) (hz : mC M' = 0 ∧ mS M' = 0) (hdf : d + 1 ≤ fr) (hS4 : S.length ≤ 4) : AW M fr kb pc L S0 h Rp := by
  subst hst
  intro p l e R s m args below meth c Q G X H locs cells slots ls hH hS hL hV hcl' hsl
  obtain ⟨idx, host, hd, hOK, hlk, hpa, hml, hsta, rfl⟩ := hd
  have hVa : ∀ v ∈ as, vok v := fun v hv => hV v (List.mem_append_left _ (List.mem_reverse.mpr hv))
  have hVs : ∀ v ∈ S, vok v := fun v hv => hV v (List.mem_append_right _ hv)
  have hcs := cat_sum G S
  have hts := X.1.2.2.2.2
  have hrun := va_runSN (S := ⟨X.1.1, X.1.2.1, X.1.2.2.1, X.1.2.2.2.1, hts⟩) (hM hVa l G)
    ⟨va_cnB na hts (tG_in hOK) rfl rfl rfl (X.2.1.1.2.1 _ hlk) (hts _ hOK.2.2.1) ⟨hOK.2.2.2.1, hOK.2.2.2.2, hpa⟩ ⟨by rw [X.2.1.2.2.2.1]; exact hdf, by have := X.2.1.2.2.2.2.1; show 8 + (mL M' + 11) + 36 * d ≤ R.locals; omega⟩, hts _ hsta, trivial⟩
    ⟨pc_blind, pc_here hH X.2.1.1⟩
    (g := F0 m pc ls ((as.reverse ++ S).map (cv G))) (As := as.map (cv G)) (rest := S.map (cv G)) (locs := locs) (cells := cells) (slots := slots) (p := p) (e := e) (below := below) (meth := meth) rfl (by rw [List.length_map]; exact hna) hL.1.1 (by show List.map (cv G) (as.reverse ++ S) = _; rw [List.map_append, List.map_reverse]) (by show 2 * 0 + _ ≤ 8; omega) hd ⟨by rw [hz.1]; omega, by rw [hz.2]; omega⟩
  exact AW.called (by rw [hz.1]; rfl) (by rw [hz.2]; rfl) X hS hL hVs hcl' hsl hrun
/-- a constructor without arguments: by an ordinary link, or by one of the nest's -/
def Dii (M : MT) (pc : Nat) (M' : MT) (n : Nat) : Prop := ∃ idx : Nat, decode (mB M) pc = .ok (.invokespecial idx, 3) ∧ MOK M' ∧ (Jvm.Cond.methodLink (mY M).cls idx (mY M') ∈ tG ∨ ∃ host : String, Jvm.Cond.methodLinkNest (mY M).cls idx (mY M') host ∈ nestW) ∧ (parseMethodDescriptor (mY M').desc).map (fun d => d.parameters.length) = some 0 ∧ mL M' ≤ 17 ∧ (mY M').name = "<init>" ∧ Jvm.Cond.instanceMethod (mY M') ∈ tG ∧ mR M' = none ∧ pc + 3 = n
theorem A.invI {kb' : Nat × Nat} {a : Nat} (hd : Dii M pc M' n) (hM : AM M' d h [vR a] (kont M fr kb' n L S Rp)) (hz : kb'.1 + mC M' = kb.1 ∧ kb'.2 + mS M' = kb.2) (hdf : d + 1 ≤ fr) (hS4 : S.length ≤ 4) : AW M fr kb pc L (vR a :: S) h Rp := by
  intro p l e R s m args below meth c Q G X H locs cells slots ls hH hS hL hV hcl' hsl
  obtain ⟨idx, hd, hOK, hlk, hpa, hml, hnm, hins, hret, rfl⟩ := hd
  have hcs := cat_sum G S
  have hts := X.1.2.2.2.2
  have hM' := hM (fun v hv => by rw [List.mem_singleton.mp hv]; trivial) l G
  have hGI := tG_in hOK
  rw [hret] at hM' hGI
  have hrun : va_Run p l e R s m args below meth c H locs cells slots (mC M') (mS M') (F0 m pc ls ((vR a :: S).map (cv G))) (S.map (cv G)) (qM G (kont M fr kb' (pc + 3) L S Rp)) (gA G) := by
    rcases hlk with hlk | ⟨host, hlk⟩
    · exact va_runI (As := []) (n := 0) (S := ⟨X.1.1, X.1.2.1, X.1.2.2.1, X.1.2.2.2.1, hts⟩) hM'
        (cwI 0 hts hGI rfl rfl rfl (hts _ hOK.2.2.1) (hts _ hlk) (hts _ hins) hnm ⟨hOK.2.2.2.1, hOK.2.2.2.2, hpa⟩ ⟨by rw [X.2.1.2.2.2.1]; exact hdf, by have := X.2.1.2.2.2.2.1; show 8 + (mL M' + 11) + 36 * d ≤ R.locals; omega⟩)
        ⟨pc_blind, pc_here (as := [vR a]) hH X.2.1.1⟩
        (g := F0 m pc ls ((vR a :: S).map (cv G))) (rest := S.map (cv G)) rfl rfl hL.1.1 rfl (by show 2 * 0 + _ ≤ 8; omega) hd ⟨by omega, by omega⟩
    · exact va_runIN (As := []) (n := 0) (S := ⟨X.1.1, X.1.2.1, X.1.2.2.1, X.1.2.2.2.1, hts⟩) hM'
        ⟨va_cnB 0 hts hGI rfl rfl rfl (X.2.1.1.2.1 _ hlk) (hts _ hOK.2.2.1) ⟨hOK.2.2.2.1, hOK.2.2.2.2, hpa⟩ ⟨by rw [X.2.1.2.2.2.1]; exact hdf, by have := X.2.1.2.2.2.2.1; show 8 + (mL M' + 11) + 36 * d ≤ R.locals; omega⟩, hnm, hts _ hins⟩
        ⟨pc_blind, pc_here (as := [vR a]) hH X.2.1.1⟩
        (g := F0 m pc ls ((vR a :: S).map (cv G))) (rest := S.map (cv G)) rfl rfl hL.1.1 rfl (by show 2 * 0 + _ ≤ 8; omega) hd ⟨by omega, by omega⟩
  exact AW.called hz.1 hz.2 X hS hL (vok_t hV) hcl' hsl hrun
/-- Object's constructor -/
def Doi (M : MT) (pc n : Nat) : Prop := ∃ idx : Nat, decode (mB M) pc = .ok (.invokespecial idx, 3) ∧ Jvm.Cond.methodLink (mY M).cls idx objectInit ∈ tG ∧ Jvm.Cond.instanceMethod objectInit ∈ tG ∧ Jvm.Cond.code objectInit ⟨#[0xb1]⟩ 1 none ∈ tG ∧ pc + 3 = n
theorem A.oinit {a : Nat} (hd : Doi M pc n) (k : AW M fr kb n L S h Rp) (hf : 1 ≤ fr) (hS4 : S.length ≤ 4) : AW M fr kb pc L (vR a :: S) h Rp := by
  intro p l e R s m args below meth c Q G X H locs cells slots ls hH hS hL hV hcl hsl
  obtain ⟨idx, hd, h1, h2, h3, rfl⟩ := hd
  have hts := X.1.2.2.2.2
  have hcs := cat_sum G S
  have hlo := X.2.1.2.2.2.2.1
  have hfr := X.2.1.2.2.2.1
  refine W.objInit X.1.1 X.1.2.1 X.1.2.2.2.1 (hts _ h1) (hts _ h2) (hts _ h3) rfl (by rw [X.1.2.2.1]; exact hL.1.1) (rest := S.map (cv G)) rfl hd (by rw [hfr]; exact hf) (by show 2 * 0 + _ + 12 ≤ _; omega) ?_
  exact k p l e R s m args below meth c Q G X H locs cells slots ls hH hS hL (vok_t hV) hcl hsl
/-! new cells -/
def dfv (ty : FieldType) : AV := match ty with
  | .int => vI 0
  | .long => vL 0
  | _ => vN
def Dnew (M : MT) (pc ci N : Nat) (fs : List AV) (n : Nat) : Prop := ∃ (idx : Nat) (C : String) (T : u_T) (ty : Nat → FieldType), decode (mB M) pc = .ok (.new idx, 3) ∧ vwCl[ci]? = some (C, T, N) ∧ (∀ w ∈ u_ws C T N, w ∈ tG) ∧ (∀ k, k < N → parseFieldDescriptor (T k).2.2.1 = some (ty k)) ∧ Jvm.Cond.classLink (mY M).cls idx C ∈ tG ∧ Jvm.Cond.instantiable C N ∈ tG ∧ Jvm.Cond.initialized C ∈ tG ∧ (∀ j, j < N → fs[j]? = some (dfv (ty j)) ∧ ∀ G : GD, cv G (dfv (ty j)) = defaultValue (ty j)) ∧ (∀ v ∈ fs, vok v) ∧ pc + 3 = n
theorem A.new {ci N c s' : Nat} {fs : List AV} (hd : Dnew M pc ci N fs n) (kk : ∀ h' : AH, h'.1 = (h.1.1 + 1, h.1.2) → h'.2 h.1.1 = some (kO ci fs) → (∀ q, q ≠ h.1.1 → h'.2 q = h.2 q) → AW M fr (c, s') n L (vR h.1.1 :: S) h' Rp) : AW M fr (c + 1, s' + N) pc L S h Rp := by
  intro p l e R s m args below meth c0 Q G X H locs cells slots ls hH hS hL hV hcl hsl
  obtain ⟨idx, C, T, ty, hd, h1, h2, h3, h4, h5, h6, h7, h8, rfl⟩ := hd
  have hts := X.1.2.2.2.2
  have hKn := X.2.1.1.1.1 ci _ h1
  simp only at hcl hsl
  refine W.newcK X.1.1 X.1.2.1 X.1.2.2.2.1 (hts _ h4) (hts _ h5) (hts _ h6) rfl hd (by omega) (by omega) hKn.2.1 rfl fun H1 kC hkC e1 z1 o1 => ?_
  have hat : va_at G.1 vwCl (H.size, enc G (kO ci fs)) H1 := by
    refine ⟨_, h1, (u_born ty hts h2 hKn hkC e1 h3).to fun j hj => ?_⟩
    show defaultValue (ty j) = (fs.map (cv G)).getD j .null
    rw [List.getD_eq_getElem?_getD, List.getElem?_map, (h7 j hj).1]
    exact ((h7 j hj).2 G).symm
  have hb : gB G ≤ H.size := hH.1.2
  have hsz : H.size = h.1.1 := hH.1.1
  have k1 := kk ((h.1.1 + 1, h.1.2), fun q => if q = h.1.1 then some (kO ci fs) else h.2 q) rfl (by simp) (fun q hq => by simp [hq]) p l e R s m args below meth c0 Q G X H1 locs (cells + 1) (slots + N) ls (hH.push z1 o1 hat h8) ⟨Nat.le_trans hS.1 (by omega), fun x g1 g2 => (o1 x (Nat.lt_of_lt_of_le g1 hS.1)).trans (hS.2.1 x g1 g2), hS.2.2⟩ hL (vok_c (v := vR h.1.1) trivial hV) (by simp only; omega) (by simp only; omega)
  rw [← hsz] at k1
  exact k1
def Dna (M : MT) (pc ty n : Nat) : Prop := ∃ atype : ArrayType, decode (mB M) pc = .ok (.newarray atype, 2) ∧ newarray.typeOf atype = tyF ty ∧ Jvm.Cond.arrayClass (tyF ty) ∈ tG ∧ defaultValue (tyF ty) = .int (Int32.ofInt 0) ∧ componentBytes (tyF ty) ≤ 4 ∧ vin ty 0 ∧ pc + 2 = n
theorem A.newa {ty N c s' : Nat} {z : Int} (hd : Dna M pc ty n) (kk : ∀ h' : AH, h'.1 = (h.1.1 + 1, h.1.2) → h'.2 h.1.1 = some (kA ty N (fun _ => 0)) → (∀ q, q ≠ h.1.1 → h'.2 q = h.2 q) → AW M fr (c, s') n L (vR h.1.1 :: S) h' Rp) (hz : z = N := by rfl) (hN : N ≤ 100000 := by decide) : AW M fr (c + 1, s' + N) pc L (vI z :: S) h Rp := by
  subst hz
  intro p l e R s m args below meth c0 Q G X H locs cells slots ls hH hS hL hV hcl hsl
  obtain ⟨aty, hd, h1, h2, h3, h4, h5, rfl⟩ := hd
  have hts := X.1.2.2.2.2
  simp only at hcl hsl
  have hr : (-2147483648 : Int) ≤ (N : Int) ∧ (N : Int) ≤ 2147483647 := by omega
  refine va_newaK X.1.1 X.1.2.1 (by rw [h1]; exact hts _ h2) rfl hd rfl (N := N) (by rw [i32_0, i32_lt hr (by omega)]; omega) (by rw [i32_cl hr]; omega) (by rw [h1]; calc N * componentBytes (tyF ty) ≤ N * 4 := Nat.mul_le_mul_left _ h4
      _ ≤ 536870912 := by omega) (by omega) (by omega) rfl fun H1 cA e1 z1 o1 hAr hNm => ?_
  rw [h1] at e1 hNm
  have hcA : cA = gC G ty := by
    have hRA := (X.2.1.1.arr ty).2
    have : s.vm.findClass ("[" ++ (tyF ty).toString) = some (gC G ty) := by
      match ty, hRA with
      | 0, hRA => exact hRA
      | 1, hRA => exact hRA
      | ty + 2, hRA => exact hRA
    exact Option.some.inj (hNm.symm.trans this)
  subst hcA
  have hat : va_at G.1 vwCl (H.size, enc G (kA ty N (fun _ => 0))) H1 := by
    show H1[H.size]? = some (vp_cell _ _)
    rw [e1, h3]
    rfl
  have hsz : H.size = h.1.1 := hH.1.1
  have k1 := kk ((h.1.1 + 1, h.1.2), fun q => if q = h.1.1 then some (kA ty N (fun _ => 0)) else h.2 q) rfl (by simp) (fun q hq => by simp [hq]) p l e R s m args below meth c0 Q G X H1 locs (cells + 1) (slots + N) ls (hH.push z1 o1 hat ⟨by omega, fun _ _ => h5⟩) ⟨Nat.le_trans hS.1 (by omega), fun x g1 g2 => (o1 x (Nat.lt_of_lt_of_le g1 hS.1)).trans (hS.2.1 x g1 g2), hS.2.2⟩ hL (vok_c (v := vR h.1.1) trivial (vok_t hV)) (by simp only; omega) (by simp only; omega)
  rw [← hsz] at k1
  exact k1
def Dnq (M : MT) (pc n : Nat) : Prop := ∃ idx : Nat, decode (mB M) pc = .ok (.anewarray idx, 3) ∧ Jvm.Cond.classLink (mY M).cls idx RX1 ∈ tG ∧ pc + 3 = n
theorem A.newq {N c s' : Nat} {z : Int} (hd : Dnq M pc n) (kk : ∀ h' : AH, h'.1 = (h.1.1 + 1, h.1.2) → h'.2 h.1.1 = some (kQ N (fun _ => none)) → (∀ q, q ≠ h.1.1 → h'.2 q = h.2 q) → AW M fr (c, s') n L (vR h.1.1 :: S) h' Rp) (hz : z = N := by rfl) (hN : N ≤ 100000 := by decide) : AW M fr (c + 1, s' + N) pc L (vI z :: S) h Rp := by
  subst hz
  intro p l e R s m args below meth c0 Q G X H locs cells slots ls hH hS hL hV hcl hsl
  obtain ⟨idx, hd, h1, rfl⟩ := hd
  have hts := X.1.2.2.2.2
  simp only at hcl hsl
  have hr : (-2147483648 : Int) ≤ (N : Int) ∧ (N : Int) ≤ 2147483647 := by omega
  have hcl3 : (Int32.ofInt (N : Int)).toNatClampNeg = N := by rw [i32_cl hr]; omega
  refine W.anew X.1.1 X.1.2.1 X.1.2.2.2.1 (hts _ h1) (va_AO.use X.2.1.1.2.2.2) rfl hd rfl (by rw [i32_0, i32_lt hr (by omega)]; omega) (by rw [hcl3]; omega) (by omega) (by rw [hcl3]; omega) fun cA kA comp f1 f2 f3 f4 => ?_
  rw [hcl3]
  generalize hH1 : H.push ({ cls := cA, slots := Array.replicate N .null, vm := .none } : Cell) = H1
  have z1 : H1.size = H.size + 1 := by rw [← hH1, Array.size_push]
  have e1 : H1[H.size]? = some (arrV cA N (fun _ => .null)) := by rw [← hH1, Array.getElem?_push_size, ← arrV_new]
  have o1 : ∀ q : Nat, q < H.size → H1[q]? = H[q]? := fun q hq => by rw [← hH1, Array.getElem?_push, if_neg (Nat.ne_of_lt hq)]
  have hcA : cA = gQ G := by
    obtain ⟨kA', comp', g1, g2, g3, g4⟩ := X.2.1.1.arq.2
    exact Option.some.inj (f1.symm.trans g4)
  subst hcA
  have hat : va_at G.1 vwCl (H.size, enc G (kQ N (fun _ => none))) H1 := by
    show H1[H.size]? = some (vp_cell _ _)
    rw [e1]
    rfl
  have hsz : H.size = h.1.1 := hH.1.1
  have k1 := kk ((h.1.1 + 1, h.1.2), fun q => if q = h.1.1 then some (kQ N (fun _ => none)) else h.2 q) rfl (by simp) (fun q hq => by simp [hq]) p l e R s m args below meth c0 Q G X H1 locs (cells + 1) (slots + N) ls (hH.push z1 o1 hat (show N ≤ 2147483647 by omega)) ⟨Nat.le_trans hS.1 (by omega), fun x g1 g2 => (o1 x (Nat.lt_of_lt_of_le g1 hS.1)).trans (hS.2.1 x g1 g2), hS.2.2⟩ hL (vok_c (v := vR h.1.1) trivial (vok_t hV)) (by simp only; omega) (by simp only; omega)
  rw [← hsz] at k1
  exact k1
/-! constants -/
def Dl2 (M : MT) (pc : Nat) (x : Int64) (n : Nat) : Prop := ∃ idx : Nat, decode (mB M) pc = .ok (.ldc2_w idx, 3) ∧ Jvm.Cond.constantLong (mY M).cls idx x ∈ tG ∧ pc + 3 = n
theorem A.ldc2 {x : Int64} (hd : Dl2 M pc x n) (k : AW M fr kb n L (vL x :: S) h Rp) : AW M fr kb pc L S h Rp :=
  AW.go (fun hV _ => vok_cl hV) (fun p l e R s m args below meth c Q G H locs cells slots ls hx hb hown hts _ _ hL kk => by
    obtain ⟨idx, hd, h1, rfl⟩ := hd
    exact lv_ldc2 hx hb hown (hts _ h1) hd (kk ls hL)) k
theorem A.lcmp_ne {x y : Int64} {t n2 : Nat} (hd : Dc M pc .lcmp 1 n) (hd2 : Dif M n .ne t n2) (kt : x ≠ y → AW M fr kb t L S h Rp) (kf : x = y → AW M fr kb n2 L S h Rp) : AW M fr kb pc L (vL y :: vL x :: S) h Rp := by
  intro p l e R s m args below meth c Q G X H locs cells slots ls hH hS hL hV hcl hsl
  obtain ⟨hd, rfl⟩ := hd
  obtain ⟨off, hd2, ht, rfl⟩ := hd2
  have k1 := fun q => kt q p l e R s m args below meth c Q G X H locs cells slots ls hH hS hL (vok_t (vok_t hV)) hcl hsl
  have k2 := fun q => kf q p l e R s m args below meth c Q G X H locs cells slots ls hH hS hL (vok_t (vok_t hV)) hcl hsl
  refine W.lcmp X.1.1 X.1.2.1 hd ?_
  have h0 : lg_cmp x y = 0 ↔ x = y := by
    constructor
    · intro q
      by_cases h1 : y < x
      · simp [lg_cmp, h1] at q
      · by_cases h2 : x = y
        · exact h2
        · simp [lg_cmp, h1, h2] at q
    · intro q
      subst q
      have h1 : ¬ x < x := by rw [Int64.lt_iff_toInt_lt]; omega
      simp [lg_cmp]
  exact lv_if_ne X.1.1 X.1.2.1 hd2 ht (fun q => k1 fun e => q (h0.mpr e)) (fun q => k2 (h0.mp q))
/-! a copy of an array of ints into another of the same length -/
theorem arrV_congr (c : ClassId) {N : Nat} {f g : Nat → Value} (h : ∀ j, j < N → f j = g j) : arrV c N f = arrV c N g := by
  show ({ cls := c, slots := Array.ofFn (n := N) fun j => f j.val, vm := .none } : Cell) = { cls := c, slots := Array.ofFn (n := N) fun j => g j.val, vm := .none }
  congr 1
  congr 1
  funext j
  exact h j.val j.isLt
def Dac (M : MT) (pc n : Nat) : Prop := ∃ idx : Nat, decode (mB M) pc = .ok (.invokestatic idx, 3) ∧ Jvm.Cond.methodLink (mY M).cls idx arraycopyName ∈ tG ∧ Jvm.Cond.native arraycopyName ∈ tG ∧ Jvm.Cond.static arraycopyName ∈ tG ∧ Jvm.Cond.initialized "java/lang/System" ∈ tG ∧ pc + 3 = n
theorem A.acopy {a a0 N : Nat} {f g : Int → Int} {N' : Int} (hd : Dac M pc n) (hc0 : h.2 a0 = some (kA 0 N f)) (hc : h.2 a = some (kA 0 N g)) (kk : ∀ h' : AH, h'.2 a = some (kA 0 N f) → Fr h h' a 1 → AW M fr kb n L S h' Rp) (hN : N' = N) (hfr : 1 ≤ fr) (hS4 : S.length ≤ 4) : AW M fr kb pc L (vI N' :: vI 0 :: vR a :: vI 0 :: vR a0 :: S) h Rp := by
  subst hN
  intro p l e R s m args below meth c Q G X H locs cells slots ls hH hS hL hV hcl hsl
  obtain ⟨idx, hd, d1, d2, d3, d4, rfl⟩ := hd
  have hts := X.1.2.2.2.2
  have hcs := cat_sum G S
  obtain ⟨g1, g2, g3⟩ := hH.2.1 a _ hc
  obtain ⟨b1, b2, b3⟩ := hH.2.1 a0 _ hc0
  have hN1 := g2.1
  have hr : (-2147483648 : Int) ≤ (N : Int) ∧ (N : Int) ≤ 2147483647 := by omega
  have hcN : (Int32.ofInt (N : Int)).toNatClampNeg = N := by rw [i32_cl hr]; omega
  have hc00 : (Int32.ofInt (0 : Int)).toNatClampNeg = 0 := rfl
  obtain ⟨-, k0, hk0, cm0, hkk0⟩ := (X.2.1.1.arr 0).1 N (fun j => .int (Int32.ofInt (f j)))
  intro T hT X0
  obtain ⟨vm', X', step⟩ := X0.arraycopy X.1.1 X.1.2.2.2.1 (hts _ d1) (hts _ d2) (hts _ d3) (hts _ d4) (src := a0) (dst := a) (cs := vp_cell (gC G 0) (N, .inl (fun j : Nat => Int32.ofInt (f j)))) (cd := vp_cell (gC G 0) (N, .inl (fun j : Nat => Int32.ofInt (g j)))) (srcPos := Int32.ofInt 0) (destPos := Int32.ofInt 0) (n := Int32.ofInt (N : Int)) (by rw [hT]; exact b1) (by rw [hT]; exact g1)
    (fun _ h => by cases h) (fun _ h => by cases h) (fun h => by cases h) (fun h => by cases h) hk0 hk0 hkk0 hkk0 (by simp [tyF, refKind]) (by decide) (by decide) (by rw [i32_0, i32_lt hr (by omega)]; omega)
    (by rw [of_i32 hr]; show ¬ _ > ((arrV (gC G 0) N _).slots.size : Int); rw [arrV_size]; show ¬ (0 : Int) + (N : Int) > (N : Int); omega)
    (by rw [of_i32 hr]; show ¬ _ > ((arrV (gC G 0) N _).slots.size : Int); rw [arrV_size]; show ¬ (0 : Int) + (N : Int) > (N : Int); omega)
    (fun vm₁ _ i hi => by
      rw [hcN] at hi
      have e : (vp_cell (gC G 0) (N, .inl (fun j : Nat => Int32.ofInt (f j)))).slots.getD ((Int32.ofInt 0).toNatClampNeg + i) .null = .int (Int32.ofInt (f i)) := by
        show (arrV (gC G 0) N _).slots.getD _ _ = _
        rw [hc00, Nat.zero_add, Array.getD_eq_getD_getElem?, arrV_read _ _ hi]
        rfl
      rw [e]
      exact ⟨rfl, trivial⟩)
    (g := F0 m pc ls ((vI (N : Int) :: vI 0 :: vR a :: vI 0 :: vR a0 :: S).map (cv G))) rfl (by rw [X.1.2.2.1]; exact hL.1.1) (rest := S.map (cv G)) rfl (by rw [X.1.2.1]; exact hd) (by rw [X.2.1.2.2.2.1]; exact hfr) (by
      have h1 := X.2.1.2.2.2.2.1
      show 2 * 0 + _ + (nativeFrameWords "java/lang/System" "arraycopy" 5 + 11) ≤ _
      have h2 : nativeFrameWords "java/lang/System" "arraycopy" 5 = 7 := by decide
      rw [h2]
      omega)
  have e1 : copied (vp_cell (gC G 0) (N, .inl (fun j : Nat => Int32.ofInt (f j)))) (vp_cell (gC G 0) (N, .inl (fun j : Nat => Int32.ofInt (g j)))) (Int32.ofInt 0) (Int32.ofInt 0) (Int32.ofInt (N : Int)) = vp_cell (gC G 0) (N, .inl (fun j : Nat => Int32.ofInt (f j))) := by
    have := va_copied (fun z => Value.int z) (gC G 0) (gC G 0) (n0 := N) (n1 := N) (sp := 0) (dp := 0) (n := N) (fun j : Nat => Int32.ofInt (f j)) (fun j : Nat => Int32.ofInt (g j)) (by omega)
    show (vp_cell _ _).storeRun (Int32.ofInt 0).toNatClampNeg ((vp_cell _ _).stretch (Int32.ofInt 0).toNatClampNeg (Int32.ofInt (N : Int)).toNatClampNeg) = _
    rw [hcN, hc00, vp_cell_i, vp_cell_i, this]
    refine arrV_congr _ fun j hj => ?_
    simp [va_cpy, hj]
  rw [e1] at X' step
  have hl : a < H.size := (Array.getElem?_eq_some_iff.mp g1).1
  have hheap : ((T.setVm vm').setCell a (vp_cell (gC G 0) (N, .inl (fun j : Nat => Int32.ofInt (f j))))).heap = H.setIfInBounds a (vp_cell (gC G 0) (N, .inl (fun j : Nat => Int32.ofInt (f j)))) := by rw [← hT]; rfl
  have oq : ∀ q : Nat, q ≠ a → (H.setIfInBounds a (vp_cell (gC G 0) (N, .inl (fun j : Nat => Int32.ofInt (f j)))))[q]? = H[q]? := fun q hq => by simp [Array.getElem?_setIfInBounds, Ne.symm hq]
  obtain ⟨t, a1, w1⟩ := kk _ hput_at Fr.put p l e R s m args below meth c Q G X _ _ cells slots ls (hH.store hc (H1 := H.setIfInBounds a (vp_cell (gC G 0) (N, .inl (fun j : Nat => Int32.ofInt (f j))))) (by simp) oq (show (H.setIfInBounds a _)[a]? = some _ by simp [Array.getElem?_setIfInBounds, hl]) b2)
    ⟨by simp; exact hS.1, fun q q1 q2 => by
      rw [oq q (fun e => q2 (by rw [e]; exact g3))]
      exact hS.2.1 q q1 q2, fun q hq => by
      rcases List.mem_append.mp hq with z | z
      · exact hS.2.2 q z
      · obtain ⟨w, -, hw⟩ := List.mem_map.mp z
        rw [← hw]
        exact g3⟩ hL (vok_t (vok_t (vok_t (vok_t (vok_t hV))))) hcl hsl _ hheap X'
  exact ⟨t, step t a1, w1⟩
/-! a long into the locals -/
theorem lset2_len : ∀ (L : List (Option AV)) (i : Nat) (v : AV), (lset2 L i v).length = L.length := by
  intro L
  induction L with
  | nil => intro i v; match i with
    | 0 => rfl
    | 1 => rfl
    | i + 2 => rfl
  | cons x l ih =>
    intro i v
    match i with
    | 0 => cases l <;> rfl
    | 1 => simp [lset2, ih]
    | i + 2 => simp [lset2, ih]
theorem lset2_get : ∀ (L : List (Option AV)) (i j : Nat) (v w : AV), i + 1 < L.length → (lset2 L i v)[j]? = some (some w) → (j = i ∧ w = v) ∨ (j ≠ i ∧ j ≠ i + 1 ∧ L[j]? = some (some w) ∧ ¬ (j + 1 = i ∧ isL w = true)) := by
  intro L
  induction L with
  | nil => intro i j v w hi; simp at hi
  | cons x l ih =>
    intro i j v w hi h
    match i, l, ih, hi, h with
    | 0, [], _, hi, _ => simp at hi
    | 0, y :: l, _, _, h =>
      match j, h with
      | 0, h => left; simp [lset2] at h; exact ⟨rfl, h.symm⟩
      | 1, h => simp [lset2] at h
      | j + 2, h => right; refine ⟨by omega, by omega, by simpa [lset2] using h, by omega⟩
    | 1, l, ih, hi, h =>
      match j, h with
      | 0, h =>
        right
        have h2 : nlong x = some w := by simpa [lset2] using h
        obtain ⟨h3, h4⟩ := nlong_some h2
        exact ⟨by omega, by omega, by simp [h3], fun q => by rw [h4] at q; exact absurd q.2 (by decide)⟩
      | j + 1, h =>
        have h2 : (lset2 l 0 v)[j]? = some (some w) := by simpa [lset2] using h
        rcases ih 0 j v w (by simp at hi; omega) h2 with ⟨q1, q2⟩ | ⟨q1, q2, q3, q4⟩
        · left; exact ⟨by omega, q2⟩
        · right; exact ⟨by omega, by omega, by simpa using q3, by omega⟩
    | i + 2, l, ih, hi, h =>
      match j, h with
      | 0, h => right; exact ⟨by omega, by omega, by simpa [lset2] using h, by omega⟩
      | j + 1, h =>
        have h2 : (lset2 l (i + 1) v)[j]? = some (some w) := by simpa [lset2] using h
        rcases ih (i + 1) j v w (by simp at hi; omega) h2 with ⟨q1, q2⟩ | ⟨q1, q2, q3, q4⟩
        · left; exact ⟨by omega, q2⟩
        · right; exact ⟨by omega, by omega, by simpa using q3, fun q => q4 ⟨by omega, q.2⟩⟩
theorem LR.set2 {G : GD} {L : List (Option AV)} {ls ls' : Array Slot} {n i : Nat} {v : AV} (h : LR G L ls n) (hv : vok v) (hi : i + 1 < L.length)
    (h' : lv_has ls' n ((i, cv G v) :: (aLs G 0 L).filter (fun q => !(q.1 == i) && (!(q.1 == i + 1) && !(q.1 + 1 == i && q.2.category == 2))))) : LR G (lset2 L i v) ls' n := by
  refine ⟨⟨h'.1, h'.2.1, fun q hq => ?_⟩, by rw [lset2_len]; exact h.2.1, fun j w hj => ?_⟩
  · obtain ⟨j, x⟩ := q
    obtain ⟨w, -, h2, rfl⟩ := (aLs_in _ 0 j x).mp hq
    rw [Nat.sub_zero] at h2
    rcases lset2_get L i j v w hi h2 with ⟨rfl, rfl⟩ | ⟨q1, q2, q3, q4⟩
    · exact h'.2.2 _ List.mem_cons_self
    · refine h'.2.2 _ (List.mem_cons_of_mem _ (List.mem_filter.mpr ⟨(aLs_in L 0 j _).mpr ⟨w, Nat.zero_le _, by simpa using q3, rfl⟩, ?_⟩))
      simp only [Bool.and_eq_true, Bool.not_eq_true', beq_eq_false_iff_ne, ne_eq, Bool.and_eq_false_iff]
      refine ⟨q1, q2, ?_⟩
      by_cases e : j + 1 = i
      · right
        intro z
        exact q4 ⟨e, (isL_cat G w).mp z⟩
      · left; exact e
  · rcases lset2_get L i j v w hi hj with ⟨rfl, rfl⟩ | ⟨q1, q2, q3, q4⟩
    · exact hv
    · exact h.2.2 j w q3
theorem A.lstore {i : Nat} {x : Int64} {L' : List (Option AV)} (hd : Dls M pc i n) (hi : i + 1 < L.length) (hl : lset2 L i (vL x) = L') (k : AW M fr kb n L' S h Rp) : AW M fr kb pc L (vL x :: S) h Rp := by
  subst hl
  exact AW.go (fun hV _ => vok_t hV) (fun p l e R s m args below meth c Q G H locs cells slots ls hx hb _ _ _ hV hL kk => by
    have hi' : i + 1 < mL M := by rw [← hL.2.1]; exact hi
    rcases hd with ⟨q, hd, hq, rfl⟩ | ⟨hd, rfl⟩
    · exact lv_lstore_n hx hb hd hq hL.1 hi' rfl (fun ls' h' => kk ls' (hL.set2 (v := vL x) trivial hi h'))
    · exact lv_lstore hx hb hd hL.1 hi' rfl (fun ls' h' => kk ls' (hL.set2 (v := vL x) trivial hi h'))) k
/-! the constant of the letters -/
def Dst (M : MT) (pc n : Nat) : Prop := decode (mB M) pc = .ok (.ldc 46, 2) ∧ (mY M).cls = RX4 ∧ pc + 2 = n
theorem A.ldcS (hd : Dst M pc n) (k : AW M fr kb n L (vS :: S) h Rp) : AW M fr kb pc L S h Rp :=
  AW.go (fun hV _ => vok_c (v := vS) trivial hV) (fun p l e R s m args below meth c Q G H locs cells slots ls hx hb hown _ hK _ hL kk => by
    obtain ⟨hd, hcl, rfl⟩ := hd
    rw [hcl] at hown
    exact va_ldcS hx hb hown hK.2.2.1 hd (kk ls hL)) k
end CALLS
end
section
/-! ===== rows for locals by their number and place; calls by the number of arguments ===== -/
section SHAPES
variable {M M' : MT} {fr d : Nat} {kb : Nat × Nat} {pc n : Nat} {S : List AV} {h : AH} {Rp : RP}
theorem A.al1_0 {a : Nat} (hd : Dal M pc 0 n) (k : AW M fr kb n [some (vR a)] (vR a :: S) h Rp) : AW M fr kb pc [some (vR a)] S h Rp := A.aload hd rfl k
theorem A.al2_0 {x1 : Option AV} {a : Nat} (hd : Dal M pc 0 n) (k : AW M fr kb n [some (vR a), x1] (vR a :: S) h Rp) : AW M fr kb pc [some (vR a), x1] S h Rp := A.aload hd rfl k
theorem A.al2_1 {x0 : Option AV} {a : Nat} (hd : Dal M pc 1 n) (k : AW M fr kb n [x0, some (vR a)] (vR a :: S) h Rp) : AW M fr kb pc [x0, some (vR a)] S h Rp := A.aload hd rfl k
theorem A.al3_0 {x1 x2 : Option AV} {a : Nat} (hd : Dal M pc 0 n) (k : AW M fr kb n [some (vR a), x1, x2] (vR a :: S) h Rp) : AW M fr kb pc [some (vR a), x1, x2] S h Rp := A.aload hd rfl k
theorem A.al3_1 {x0 x2 : Option AV} {a : Nat} (hd : Dal M pc 1 n) (k : AW M fr kb n [x0, some (vR a), x2] (vR a :: S) h Rp) : AW M fr kb pc [x0, some (vR a), x2] S h Rp := A.aload hd rfl k
theorem A.al3_2 {x0 x1 : Option AV} {a : Nat} (hd : Dal M pc 2 n) (k : AW M fr kb n [x0, x1, some (vR a)] (vR a :: S) h Rp) : AW M fr kb pc [x0, x1, some (vR a)] S h Rp := A.aload hd rfl k
theorem A.al4_0 {x1 x2 x3 : Option AV} {a : Nat} (hd : Dal M pc 0 n) (k : AW M fr kb n [some (vR a), x1, x2, x3] (vR a :: S) h Rp) : AW M fr kb pc [some (vR a), x1, x2, x3] S h Rp := A.aload hd rfl k
theorem A.ax4_0 {x1 x2 x3 : Option AV} (hd : Dal M pc 0 n) (k : AW M fr kb n [some vX, x1, x2, x3] (vX :: S) h Rp) : AW M fr kb pc [some vX, x1, x2, x3] S h Rp := A.aloadX hd rfl k
theorem A.al4_1 {x0 x2 x3 : Option AV} {a : Nat} (hd : Dal M pc 1 n) (k : AW M fr kb n [x0, some (vR a), x2, x3] (vR a :: S) h Rp) : AW M fr kb pc [x0, some (vR a), x2, x3] S h Rp := A.aload hd rfl k
theorem A.ax4_1 {x0 x2 x3 : Option AV} (hd : Dal M pc 1 n) (k : AW M fr kb n [x0, some vX, x2, x3] (vX :: S) h Rp) : AW M fr kb pc [x0, some vX, x2, x3] S h Rp := A.aloadX hd rfl k
theorem A.al4_2 {x0 x1 x3 : Option AV} {a : Nat} (hd : Dal M pc 2 n) (k : AW M fr kb n [x0, x1, some (vR a), x3] (vR a :: S) h Rp) : AW M fr kb pc [x0, x1, some (vR a), x3] S h Rp := A.aload hd rfl k
theorem A.ax4_2 {x0 x1 x3 : Option AV} (hd : Dal M pc 2 n) (k : AW M fr kb n [x0, x1, some vX, x3] (vX :: S) h Rp) : AW M fr kb pc [x0, x1, some vX, x3] S h Rp := A.aloadX hd rfl k
theorem A.al4_3 {x0 x1 x2 : Option AV} {a : Nat} (hd : Dal M pc 3 n) (k : AW M fr kb n [x0, x1, x2, some (vR a)] (vR a :: S) h Rp) : AW M fr kb pc [x0, x1, x2, some (vR a)] S h Rp := A.aload hd rfl k
theorem A.ax4_3 {x0 x1 x2 : Option AV} (hd : Dal M pc 3 n) (k : AW M fr kb n [x0, x1, x2, some vX] (vX :: S) h Rp) : AW M fr kb pc [x0, x1, x2, some vX] S h Rp := A.aloadX hd rfl k
theorem A.al5_0 {x1 x2 x3 x4 : Option AV} {a : Nat} (hd : Dal M pc 0 n) (k : AW M fr kb n [some (vR a), x1, x2, x3, x4] (vR a :: S) h Rp) : AW M fr kb pc [some (vR a), x1, x2, x3, x4] S h Rp := A.aload hd rfl k
theorem A.al5_1 {x0 x2 x3 x4 : Option AV} {a : Nat} (hd : Dal M pc 1 n) (k : AW M fr kb n [x0, some (vR a), x2, x3, x4] (vR a :: S) h Rp) : AW M fr kb pc [x0, some (vR a), x2, x3, x4] S h Rp := A.aload hd rfl k
theorem A.al6_0 {x1 x2 x3 x4 x5 : Option AV} {a : Nat} (hd : Dal M pc 0 n) (k : AW M fr kb n [some (vR a), x1, x2, x3, x4, x5] (vR a :: S) h Rp) : AW M fr kb pc [some (vR a), x1, x2, x3, x4, x5] S h Rp := A.aload hd rfl k
theorem A.al6_1 {x0 x2 x3 x4 x5 : Option AV} {a : Nat} (hd : Dal M pc 1 n) (k : AW M fr kb n [x0, some (vR a), x2, x3, x4, x5] (vR a :: S) h Rp) : AW M fr kb pc [x0, some (vR a), x2, x3, x4, x5] S h Rp := A.aload hd rfl k
theorem A.al7_0 {x1 x2 x3 x4 x5 x6 : Option AV} {a : Nat} (hd : Dal M pc 0 n) (k : AW M fr kb n [some (vR a), x1, x2, x3, x4, x5, x6] (vR a :: S) h Rp) : AW M fr kb pc [some (vR a), x1, x2, x3, x4, x5, x6] S h Rp := A.aload hd rfl k
theorem A.al8_0 {x1 x2 x3 x4 x5 x6 x7 : Option AV} {a : Nat} (hd : Dal M pc 0 n) (k : AW M fr kb n [some (vR a), x1, x2, x3, x4, x5, x6, x7] (vR a :: S) h Rp) : AW M fr kb pc [some (vR a), x1, x2, x3, x4, x5, x6, x7] S h Rp := A.aload hd rfl k
theorem A.al9_0 {x1 x2 x3 x4 x5 x6 x7 x8 : Option AV} {a : Nat} (hd : Dal M pc 0 n) (k : AW M fr kb n [some (vR a), x1, x2, x3, x4, x5, x6, x7, x8] (vR a :: S) h Rp) : AW M fr kb pc [some (vR a), x1, x2, x3, x4, x5, x6, x7, x8] S h Rp := A.aload hd rfl k
theorem A.al9_1 {x0 x2 x3 x4 x5 x6 x7 x8 : Option AV} {a : Nat} (hd : Dal M pc 1 n) (k : AW M fr kb n [x0, some (vR a), x2, x3, x4, x5, x6, x7, x8] (vR a :: S) h Rp) : AW M fr kb pc [x0, some (vR a), x2, x3, x4, x5, x6, x7, x8] S h Rp := A.aload hd rfl k
theorem A.as2_1 {x0 x1 : Option AV} {z : Nat} (hd : Das M pc 1 n) (k : AW M fr kb n [x0, some (vR z)] S h Rp) (hx : nlong x0 = x0 := by rfl) : AW M fr kb pc [x0, x1] (vR z :: S) h Rp := A.astore hd (blt_ok rfl) (by show [nlong x0, some (vR z)] = _; rw [hx]) k
theorem A.as3_1 {x0 x1 x2 : Option AV} {z : Nat} (hd : Das M pc 1 n) (k : AW M fr kb n [x0, some (vR z), x2] S h Rp) (hx : nlong x0 = x0 := by rfl) : AW M fr kb pc [x0, x1, x2] (vR z :: S) h Rp := A.astore hd (blt_ok rfl) (by show [nlong x0, some (vR z), x2] = _; rw [hx]) k
theorem A.as3_2 {x0 x1 x2 : Option AV} {z : Nat} (hd : Das M pc 2 n) (k : AW M fr kb n [x0, x1, some (vR z)] S h Rp) (hx : nlong x1 = x1 := by rfl) : AW M fr kb pc [x0, x1, x2] (vR z :: S) h Rp := A.astore hd (blt_ok rfl) (by show [x0, nlong x1, some (vR z)] = _; rw [hx]) k
theorem A.as4_1 {x0 x1 x2 x3 : Option AV} {z : Nat} (hd : Das M pc 1 n) (k : AW M fr kb n [x0, some (vR z), x2, x3] S h Rp) (hx : nlong x0 = x0 := by rfl) : AW M fr kb pc [x0, x1, x2, x3] (vR z :: S) h Rp := A.astore hd (blt_ok rfl) (by show [nlong x0, some (vR z), x2, x3] = _; rw [hx]) k
theorem A.as4_2 {x0 x1 x2 x3 : Option AV} {z : Nat} (hd : Das M pc 2 n) (k : AW M fr kb n [x0, x1, some (vR z), x3] S h Rp) (hx : nlong x1 = x1 := by rfl) : AW M fr kb pc [x0, x1, x2, x3] (vR z :: S) h Rp := A.astore hd (blt_ok rfl) (by show [x0, nlong x1, some (vR z), x3] = _; rw [hx]) k
theorem A.as4_3 {x0 x1 x2 x3 : Option AV} {z : Nat} (hd : Das M pc 3 n) (k : AW M fr kb n [x0, x1, x2, some (vR z)] S h Rp) (hx : nlong x2 = x2 := by rfl) : AW M fr kb pc [x0, x1, x2, x3] (vR z :: S) h Rp := A.astore hd (blt_ok rfl) (by show [x0, x1, nlong x2, some (vR z)] = _; rw [hx]) k
theorem A.ii2_1 {x0 : Option AV} {z c : Int} (hd : Dc M pc (.iinc 1 c) 3 n) (k : AW M fr kb n [x0, some (vI (z + c))] S h Rp) (hr : -2147483648 ≤ z + c ∧ z + c ≤ 2147483647 := by omega) (hx : nlong x0 = x0 := by rfl) : AW M fr kb pc [x0, some (vI z)] S h Rp := A.iinc hd rfl (by show [nlong x0, some (vI (z + c))] = _; rw [hx]) hr k
theorem A.ii3_1 {x0 x2 : Option AV} {z c : Int} (hd : Dc M pc (.iinc 1 c) 3 n) (k : AW M fr kb n [x0, some (vI (z + c)), x2] S h Rp) (hr : -2147483648 ≤ z + c ∧ z + c ≤ 2147483647 := by omega) (hx : nlong x0 = x0 := by rfl) : AW M fr kb pc [x0, some (vI z), x2] S h Rp := A.iinc hd rfl (by show [nlong x0, some (vI (z + c)), x2] = _; rw [hx]) hr k
theorem A.ii3_2 {x0 x1 : Option AV} {z c : Int} (hd : Dc M pc (.iinc 2 c) 3 n) (k : AW M fr kb n [x0, x1, some (vI (z + c))] S h Rp) (hr : -2147483648 ≤ z + c ∧ z + c ≤ 2147483647 := by omega) (hx : nlong x1 = x1 := by rfl) : AW M fr kb pc [x0, x1, some (vI z)] S h Rp := A.iinc hd rfl (by show [x0, nlong x1, some (vI (z + c))] = _; rw [hx]) hr k
theorem A.ii4_1 {x0 x2 x3 : Option AV} {z c : Int} (hd : Dc M pc (.iinc 1 c) 3 n) (k : AW M fr kb n [x0, some (vI (z + c)), x2, x3] S h Rp) (hr : -2147483648 ≤ z + c ∧ z + c ≤ 2147483647 := by omega) (hx : nlong x0 = x0 := by rfl) : AW M fr kb pc [x0, some (vI z), x2, x3] S h Rp := A.iinc hd rfl (by show [nlong x0, some (vI (z + c)), x2, x3] = _; rw [hx]) hr k
theorem A.ii4_2 {x0 x1 x3 : Option AV} {z c : Int} (hd : Dc M pc (.iinc 2 c) 3 n) (k : AW M fr kb n [x0, x1, some (vI (z + c)), x3] S h Rp) (hr : -2147483648 ≤ z + c ∧ z + c ≤ 2147483647 := by omega) (hx : nlong x1 = x1 := by rfl) : AW M fr kb pc [x0, x1, some (vI z), x3] S h Rp := A.iinc hd rfl (by show [x0, nlong x1, some (vI (z + c)), x3] = _; rw [hx]) hr k
theorem A.ii4_3 {x0 x1 x2 : Option AV} {z c : Int} (hd : Dc M pc (.iinc 3 c) 3 n) (k : AW M fr kb n [x0, x1, x2, some (vI (z + c))] S h Rp) (hr : -2147483648 ≤ z + c ∧ z + c ≤ 2147483647 := by omega) (hx : nlong x2 = x2 := by rfl) : AW M fr kb pc [x0, x1, x2, some (vI z)] S h Rp := A.iinc hd rfl (by show [x0, x1, nlong x2, some (vI (z + c))] = _; rw [hx]) hr k
theorem A.ii5_2 {x0 x1 x3 x4 : Option AV} {z c : Int} (hd : Dc M pc (.iinc 2 c) 3 n) (k : AW M fr kb n [x0, x1, some (vI (z + c)), x3, x4] S h Rp) (hr : -2147483648 ≤ z + c ∧ z + c ≤ 2147483647 := by omega) (hx : nlong x1 = x1 := by rfl) : AW M fr kb pc [x0, x1, some (vI z), x3, x4] S h Rp := A.iinc hd rfl (by show [x0, nlong x1, some (vI (z + c)), x3, x4] = _; rw [hx]) hr k
theorem A.ii5_4 {x0 x1 x2 x3 : Option AV} {z c : Int} (hd : Dc M pc (.iinc 4 c) 3 n) (k : AW M fr kb n [x0, x1, x2, x3, some (vI (z + c))] S h Rp) (hr : -2147483648 ≤ z + c ∧ z + c ≤ 2147483647 := by omega) (hx : nlong x3 = x3 := by rfl) : AW M fr kb pc [x0, x1, x2, x3, some (vI z)] S h Rp := A.iinc hd rfl (by show [x0, x1, x2, nlong x3, some (vI (z + c))] = _; rw [hx]) hr k
theorem A.ii6_2 {x0 x1 x3 x4 x5 : Option AV} {z c : Int} (hd : Dc M pc (.iinc 2 c) 3 n) (k : AW M fr kb n [x0, x1, some (vI (z + c)), x3, x4, x5] S h Rp) (hr : -2147483648 ≤ z + c ∧ z + c ≤ 2147483647 := by omega) (hx : nlong x1 = x1 := by rfl) : AW M fr kb pc [x0, x1, some (vI z), x3, x4, x5] S h Rp := A.iinc hd rfl (by show [x0, nlong x1, some (vI (z + c)), x3, x4, x5] = _; rw [hx]) hr k
theorem A.ii6_5 {x0 x1 x2 x3 x4 : Option AV} {z c : Int} (hd : Dc M pc (.iinc 5 c) 3 n) (k : AW M fr kb n [x0, x1, x2, x3, x4, some (vI (z + c))] S h Rp) (hr : -2147483648 ≤ z + c ∧ z + c ≤ 2147483647 := by omega) (hx : nlong x4 = x4 := by rfl) : AW M fr kb pc [x0, x1, x2, x3, x4, some (vI z)] S h Rp := A.iinc hd rfl (by show [x0, x1, x2, x3, nlong x4, some (vI (z + c))] = _; rw [hx]) hr k
theorem A.ii7_6 {x0 x1 x2 x3 x4 x5 : Option AV} {z c : Int} (hd : Dc M pc (.iinc 6 c) 3 n) (k : AW M fr kb n [x0, x1, x2, x3, x4, x5, some (vI (z + c))] S h Rp) (hr : -2147483648 ≤ z + c ∧ z + c ≤ 2147483647 := by omega) (hx : nlong x5 = x5 := by rfl) : AW M fr kb pc [x0, x1, x2, x3, x4, x5, some (vI z)] S h Rp := A.iinc hd rfl (by show [x0, x1, x2, x3, x4, nlong x5, some (vI (z + c))] = _; rw [hx]) hr k
theorem A.ii8_6 {x0 x1 x2 x3 x4 x5 x7 : Option AV} {z c : Int} (hd : Dc M pc (.iinc 6 c) 3 n) (k : AW M fr kb n [x0, x1, x2, x3, x4, x5, some (vI (z + c)), x7] S h Rp) (hr : -2147483648 ≤ z + c ∧ z + c ≤ 2147483647 := by omega) (hx : nlong x5 = x5 := by rfl) : AW M fr kb pc [x0, x1, x2, x3, x4, x5, some (vI z), x7] S h Rp := A.iinc hd rfl (by show [x0, x1, x2, x3, x4, nlong x5, some (vI (z + c)), x7] = _; rw [hx]) hr k
theorem A.ii8_7 {x0 x1 x2 x3 x4 x5 x6 : Option AV} {z c : Int} (hd : Dc M pc (.iinc 7 c) 3 n) (k : AW M fr kb n [x0, x1, x2, x3, x4, x5, x6, some (vI (z + c))] S h Rp) (hr : -2147483648 ≤ z + c ∧ z + c ≤ 2147483647 := by omega) (hx : nlong x6 = x6 := by rfl) : AW M fr kb pc [x0, x1, x2, x3, x4, x5, x6, some (vI z)] S h Rp := A.iinc hd rfl (by show [x0, x1, x2, x3, x4, x5, nlong x6, some (vI (z + c))] = _; rw [hx]) hr k
theorem A.ii9_7 {x0 x1 x2 x3 x4 x5 x6 x8 : Option AV} {z c : Int} (hd : Dc M pc (.iinc 7 c) 3 n) (k : AW M fr kb n [x0, x1, x2, x3, x4, x5, x6, some (vI (z + c)), x8] S h Rp) (hr : -2147483648 ≤ z + c ∧ z + c ≤ 2147483647 := by omega) (hx : nlong x6 = x6 := by rfl) : AW M fr kb pc [x0, x1, x2, x3, x4, x5, x6, some (vI z), x8] S h Rp := A.iinc hd rfl (by show [x0, x1, x2, x3, x4, x5, nlong x6, some (vI (z + c)), x8] = _; rw [hx]) hr k
theorem A.il1_0 {z : Int} (hd : Dil M pc 0 n) (k : AW M fr kb n [some (vI z)] (vI z :: S) h Rp) : AW M fr kb pc [some (vI z)] S h Rp := A.iload hd rfl k
theorem A.il2_1 {x0 : Option AV} {z : Int} (hd : Dil M pc 1 n) (k : AW M fr kb n [x0, some (vI z)] (vI z :: S) h Rp) : AW M fr kb pc [x0, some (vI z)] S h Rp := A.iload hd rfl k
theorem A.il3_0 {x1 x2 : Option AV} {z : Int} (hd : Dil M pc 0 n) (k : AW M fr kb n [some (vI z), x1, x2] (vI z :: S) h Rp) : AW M fr kb pc [some (vI z), x1, x2] S h Rp := A.iload hd rfl k
theorem A.il3_1 {x0 x2 : Option AV} {z : Int} (hd : Dil M pc 1 n) (k : AW M fr kb n [x0, some (vI z), x2] (vI z :: S) h Rp) : AW M fr kb pc [x0, some (vI z), x2] S h Rp := A.iload hd rfl k
theorem A.il3_2 {x0 x1 : Option AV} {z : Int} (hd : Dil M pc 2 n) (k : AW M fr kb n [x0, x1, some (vI z)] (vI z :: S) h Rp) : AW M fr kb pc [x0, x1, some (vI z)] S h Rp := A.iload hd rfl k
theorem A.il4_1 {x0 x2 x3 : Option AV} {z : Int} (hd : Dil M pc 1 n) (k : AW M fr kb n [x0, some (vI z), x2, x3] (vI z :: S) h Rp) : AW M fr kb pc [x0, some (vI z), x2, x3] S h Rp := A.iload hd rfl k
theorem A.il4_2 {x0 x1 x3 : Option AV} {z : Int} (hd : Dil M pc 2 n) (k : AW M fr kb n [x0, x1, some (vI z), x3] (vI z :: S) h Rp) : AW M fr kb pc [x0, x1, some (vI z), x3] S h Rp := A.iload hd rfl k
theorem A.il4_3 {x0 x1 x2 : Option AV} {z : Int} (hd : Dil M pc 3 n) (k : AW M fr kb n [x0, x1, x2, some (vI z)] (vI z :: S) h Rp) : AW M fr kb pc [x0, x1, x2, some (vI z)] S h Rp := A.iload hd rfl k
theorem A.il5_1 {x0 x2 x3 x4 : Option AV} {z : Int} (hd : Dil M pc 1 n) (k : AW M fr kb n [x0, some (vI z), x2, x3, x4] (vI z :: S) h Rp) : AW M fr kb pc [x0, some (vI z), x2, x3, x4] S h Rp := A.iload hd rfl k
theorem A.il5_2 {x0 x1 x3 x4 : Option AV} {z : Int} (hd : Dil M pc 2 n) (k : AW M fr kb n [x0, x1, some (vI z), x3, x4] (vI z :: S) h Rp) : AW M fr kb pc [x0, x1, some (vI z), x3, x4] S h Rp := A.iload hd rfl k
theorem A.il5_3 {x0 x1 x2 x4 : Option AV} {z : Int} (hd : Dil M pc 3 n) (k : AW M fr kb n [x0, x1, x2, some (vI z), x4] (vI z :: S) h Rp) : AW M fr kb pc [x0, x1, x2, some (vI z), x4] S h Rp := A.iload hd rfl k
theorem A.il5_4 {x0 x1 x2 x3 : Option AV} {z : Int} (hd : Dil M pc 4 n) (k : AW M fr kb n [x0, x1, x2, x3, some (vI z)] (vI z :: S) h Rp) : AW M fr kb pc [x0, x1, x2, x3, some (vI z)] S h Rp := A.iload hd rfl k
theorem A.il6_1 {x0 x2 x3 x4 x5 : Option AV} {z : Int} (hd : Dil M pc 1 n) (k : AW M fr kb n [x0, some (vI z), x2, x3, x4, x5] (vI z :: S) h Rp) : AW M fr kb pc [x0, some (vI z), x2, x3, x4, x5] S h Rp := A.iload hd rfl k
theorem A.il6_2 {x0 x1 x3 x4 x5 : Option AV} {z : Int} (hd : Dil M pc 2 n) (k : AW M fr kb n [x0, x1, some (vI z), x3, x4, x5] (vI z :: S) h Rp) : AW M fr kb pc [x0, x1, some (vI z), x3, x4, x5] S h Rp := A.iload hd rfl k
theorem A.il6_3 {x0 x1 x2 x4 x5 : Option AV} {z : Int} (hd : Dil M pc 3 n) (k : AW M fr kb n [x0, x1, x2, some (vI z), x4, x5] (vI z :: S) h Rp) : AW M fr kb pc [x0, x1, x2, some (vI z), x4, x5] S h Rp := A.iload hd rfl k
theorem A.il6_4 {x0 x1 x2 x3 x5 : Option AV} {z : Int} (hd : Dil M pc 4 n) (k : AW M fr kb n [x0, x1, x2, x3, some (vI z), x5] (vI z :: S) h Rp) : AW M fr kb pc [x0, x1, x2, x3, some (vI z), x5] S h Rp := A.iload hd rfl k
theorem A.il6_5 {x0 x1 x2 x3 x4 : Option AV} {z : Int} (hd : Dil M pc 5 n) (k : AW M fr kb n [x0, x1, x2, x3, x4, some (vI z)] (vI z :: S) h Rp) : AW M fr kb pc [x0, x1, x2, x3, x4, some (vI z)] S h Rp := A.iload hd rfl k
theorem A.il7_1 {x0 x2 x3 x4 x5 x6 : Option AV} {z : Int} (hd : Dil M pc 1 n) (k : AW M fr kb n [x0, some (vI z), x2, x3, x4, x5, x6] (vI z :: S) h Rp) : AW M fr kb pc [x0, some (vI z), x2, x3, x4, x5, x6] S h Rp := A.iload hd rfl k
theorem A.il7_2 {x0 x1 x3 x4 x5 x6 : Option AV} {z : Int} (hd : Dil M pc 2 n) (k : AW M fr kb n [x0, x1, some (vI z), x3, x4, x5, x6] (vI z :: S) h Rp) : AW M fr kb pc [x0, x1, some (vI z), x3, x4, x5, x6] S h Rp := A.iload hd rfl k
theorem A.il7_3 {x0 x1 x2 x4 x5 x6 : Option AV} {z : Int} (hd : Dil M pc 3 n) (k : AW M fr kb n [x0, x1, x2, some (vI z), x4, x5, x6] (vI z :: S) h Rp) : AW M fr kb pc [x0, x1, x2, some (vI z), x4, x5, x6] S h Rp := A.iload hd rfl k
theorem A.il7_4 {x0 x1 x2 x3 x5 x6 : Option AV} {z : Int} (hd : Dil M pc 4 n) (k : AW M fr kb n [x0, x1, x2, x3, some (vI z), x5, x6] (vI z :: S) h Rp) : AW M fr kb pc [x0, x1, x2, x3, some (vI z), x5, x6] S h Rp := A.iload hd rfl k
theorem A.il7_5 {x0 x1 x2 x3 x4 x6 : Option AV} {z : Int} (hd : Dil M pc 5 n) (k : AW M fr kb n [x0, x1, x2, x3, x4, some (vI z), x6] (vI z :: S) h Rp) : AW M fr kb pc [x0, x1, x2, x3, x4, some (vI z), x6] S h Rp := A.iload hd rfl k
theorem A.il7_6 {x0 x1 x2 x3 x4 x5 : Option AV} {z : Int} (hd : Dil M pc 6 n) (k : AW M fr kb n [x0, x1, x2, x3, x4, x5, some (vI z)] (vI z :: S) h Rp) : AW M fr kb pc [x0, x1, x2, x3, x4, x5, some (vI z)] S h Rp := A.iload hd rfl k
theorem A.il8_3 {x0 x1 x2 x4 x5 x6 x7 : Option AV} {z : Int} (hd : Dil M pc 3 n) (k : AW M fr kb n [x0, x1, x2, some (vI z), x4, x5, x6, x7] (vI z :: S) h Rp) : AW M fr kb pc [x0, x1, x2, some (vI z), x4, x5, x6, x7] S h Rp := A.iload hd rfl k
theorem A.il8_6 {x0 x1 x2 x3 x4 x5 x7 : Option AV} {z : Int} (hd : Dil M pc 6 n) (k : AW M fr kb n [x0, x1, x2, x3, x4, x5, some (vI z), x7] (vI z :: S) h Rp) : AW M fr kb pc [x0, x1, x2, x3, x4, x5, some (vI z), x7] S h Rp := A.iload hd rfl k
theorem A.il8_7 {x0 x1 x2 x3 x4 x5 x6 : Option AV} {z : Int} (hd : Dil M pc 7 n) (k : AW M fr kb n [x0, x1, x2, x3, x4, x5, x6, some (vI z)] (vI z :: S) h Rp) : AW M fr kb pc [x0, x1, x2, x3, x4, x5, x6, some (vI z)] S h Rp := A.iload hd rfl k
theorem A.il9_2 {x0 x1 x3 x4 x5 x6 x7 x8 : Option AV} {z : Int} (hd : Dil M pc 2 n) (k : AW M fr kb n [x0, x1, some (vI z), x3, x4, x5, x6, x7, x8] (vI z :: S) h Rp) : AW M fr kb pc [x0, x1, some (vI z), x3, x4, x5, x6, x7, x8] S h Rp := A.iload hd rfl k
theorem A.il9_3 {x0 x1 x2 x4 x5 x6 x7 x8 : Option AV} {z : Int} (hd : Dil M pc 3 n) (k : AW M fr kb n [x0, x1, x2, some (vI z), x4, x5, x6, x7, x8] (vI z :: S) h Rp) : AW M fr kb pc [x0, x1, x2, some (vI z), x4, x5, x6, x7, x8] S h Rp := A.iload hd rfl k
theorem A.il9_4 {x0 x1 x2 x3 x5 x6 x7 x8 : Option AV} {z : Int} (hd : Dil M pc 4 n) (k : AW M fr kb n [x0, x1, x2, x3, some (vI z), x5, x6, x7, x8] (vI z :: S) h Rp) : AW M fr kb pc [x0, x1, x2, x3, some (vI z), x5, x6, x7, x8] S h Rp := A.iload hd rfl k
theorem A.il9_5 {x0 x1 x2 x3 x4 x6 x7 x8 : Option AV} {z : Int} (hd : Dil M pc 5 n) (k : AW M fr kb n [x0, x1, x2, x3, x4, some (vI z), x6, x7, x8] (vI z :: S) h Rp) : AW M fr kb pc [x0, x1, x2, x3, x4, some (vI z), x6, x7, x8] S h Rp := A.iload hd rfl k
theorem A.il9_6 {x0 x1 x2 x3 x4 x5 x7 x8 : Option AV} {z : Int} (hd : Dil M pc 6 n) (k : AW M fr kb n [x0, x1, x2, x3, x4, x5, some (vI z), x7, x8] (vI z :: S) h Rp) : AW M fr kb pc [x0, x1, x2, x3, x4, x5, some (vI z), x7, x8] S h Rp := A.iload hd rfl k
theorem A.il9_7 {x0 x1 x2 x3 x4 x5 x6 x8 : Option AV} {z : Int} (hd : Dil M pc 7 n) (k : AW M fr kb n [x0, x1, x2, x3, x4, x5, x6, some (vI z), x8] (vI z :: S) h Rp) : AW M fr kb pc [x0, x1, x2, x3, x4, x5, x6, some (vI z), x8] S h Rp := A.iload hd rfl k
theorem A.il9_8 {x0 x1 x2 x3 x4 x5 x6 x7 : Option AV} {z : Int} (hd : Dil M pc 8 n) (k : AW M fr kb n [x0, x1, x2, x3, x4, x5, x6, x7, some (vI z)] (vI z :: S) h Rp) : AW M fr kb pc [x0, x1, x2, x3, x4, x5, x6, x7, some (vI z)] S h Rp := A.iload hd rfl k
theorem A.is2_1 {x0 x1 : Option AV} {z : Int} (hd : Dis M pc 1 n) (k : AW M fr kb n [x0, some (vI z)] S h Rp) (hx : nlong x0 = x0 := by rfl) : AW M fr kb pc [x0, x1] (vI z :: S) h Rp := A.istore hd (blt_ok rfl) (by show [nlong x0, some (vI z)] = _; rw [hx]) k
theorem A.is3_1 {x0 x1 x2 : Option AV} {z : Int} (hd : Dis M pc 1 n) (k : AW M fr kb n [x0, some (vI z), x2] S h Rp) (hx : nlong x0 = x0 := by rfl) : AW M fr kb pc [x0, x1, x2] (vI z :: S) h Rp := A.istore hd (blt_ok rfl) (by show [nlong x0, some (vI z), x2] = _; rw [hx]) k
theorem A.is3_2 {x0 x1 x2 : Option AV} {z : Int} (hd : Dis M pc 2 n) (k : AW M fr kb n [x0, x1, some (vI z)] S h Rp) (hx : nlong x1 = x1 := by rfl) : AW M fr kb pc [x0, x1, x2] (vI z :: S) h Rp := A.istore hd (blt_ok rfl) (by show [x0, nlong x1, some (vI z)] = _; rw [hx]) k
theorem A.is4_1 {x0 x1 x2 x3 : Option AV} {z : Int} (hd : Dis M pc 1 n) (k : AW M fr kb n [x0, some (vI z), x2, x3] S h Rp) (hx : nlong x0 = x0 := by rfl) : AW M fr kb pc [x0, x1, x2, x3] (vI z :: S) h Rp := A.istore hd (blt_ok rfl) (by show [nlong x0, some (vI z), x2, x3] = _; rw [hx]) k
theorem A.is4_2 {x0 x1 x2 x3 : Option AV} {z : Int} (hd : Dis M pc 2 n) (k : AW M fr kb n [x0, x1, some (vI z), x3] S h Rp) (hx : nlong x1 = x1 := by rfl) : AW M fr kb pc [x0, x1, x2, x3] (vI z :: S) h Rp := A.istore hd (blt_ok rfl) (by show [x0, nlong x1, some (vI z), x3] = _; rw [hx]) k
theorem A.is4_3 {x0 x1 x2 x3 : Option AV} {z : Int} (hd : Dis M pc 3 n) (k : AW M fr kb n [x0, x1, x2, some (vI z)] S h Rp) (hx : nlong x2 = x2 := by rfl) : AW M fr kb pc [x0, x1, x2, x3] (vI z :: S) h Rp := A.istore hd (blt_ok rfl) (by show [x0, x1, nlong x2, some (vI z)] = _; rw [hx]) k
theorem A.is5_2 {x0 x1 x2 x3 x4 : Option AV} {z : Int} (hd : Dis M pc 2 n) (k : AW M fr kb n [x0, x1, some (vI z), x3, x4] S h Rp) (hx : nlong x1 = x1 := by rfl) : AW M fr kb pc [x0, x1, x2, x3, x4] (vI z :: S) h Rp := A.istore hd (blt_ok rfl) (by show [x0, nlong x1, some (vI z), x3, x4] = _; rw [hx]) k
theorem A.is5_3 {x0 x1 x2 x3 x4 : Option AV} {z : Int} (hd : Dis M pc 3 n) (k : AW M fr kb n [x0, x1, x2, some (vI z), x4] S h Rp) (hx : nlong x2 = x2 := by rfl) : AW M fr kb pc [x0, x1, x2, x3, x4] (vI z :: S) h Rp := A.istore hd (blt_ok rfl) (by show [x0, x1, nlong x2, some (vI z), x4] = _; rw [hx]) k
theorem A.is5_4 {x0 x1 x2 x3 x4 : Option AV} {z : Int} (hd : Dis M pc 4 n) (k : AW M fr kb n [x0, x1, x2, x3, some (vI z)] S h Rp) (hx : nlong x3 = x3 := by rfl) : AW M fr kb pc [x0, x1, x2, x3, x4] (vI z :: S) h Rp := A.istore hd (blt_ok rfl) (by show [x0, x1, x2, nlong x3, some (vI z)] = _; rw [hx]) k
theorem A.is6_2 {x0 x1 x2 x3 x4 x5 : Option AV} {z : Int} (hd : Dis M pc 2 n) (k : AW M fr kb n [x0, x1, some (vI z), x3, x4, x5] S h Rp) (hx : nlong x1 = x1 := by rfl) : AW M fr kb pc [x0, x1, x2, x3, x4, x5] (vI z :: S) h Rp := A.istore hd (blt_ok rfl) (by show [x0, nlong x1, some (vI z), x3, x4, x5] = _; rw [hx]) k
theorem A.is6_3 {x0 x1 x2 x3 x4 x5 : Option AV} {z : Int} (hd : Dis M pc 3 n) (k : AW M fr kb n [x0, x1, x2, some (vI z), x4, x5] S h Rp) (hx : nlong x2 = x2 := by rfl) : AW M fr kb pc [x0, x1, x2, x3, x4, x5] (vI z :: S) h Rp := A.istore hd (blt_ok rfl) (by show [x0, x1, nlong x2, some (vI z), x4, x5] = _; rw [hx]) k
theorem A.is6_4 {x0 x1 x2 x3 x4 x5 : Option AV} {z : Int} (hd : Dis M pc 4 n) (k : AW M fr kb n [x0, x1, x2, x3, some (vI z), x5] S h Rp) (hx : nlong x3 = x3 := by rfl) : AW M fr kb pc [x0, x1, x2, x3, x4, x5] (vI z :: S) h Rp := A.istore hd (blt_ok rfl) (by show [x0, x1, x2, nlong x3, some (vI z), x5] = _; rw [hx]) k
theorem A.is6_5 {x0 x1 x2 x3 x4 x5 : Option AV} {z : Int} (hd : Dis M pc 5 n) (k : AW M fr kb n [x0, x1, x2, x3, x4, some (vI z)] S h Rp) (hx : nlong x4 = x4 := by rfl) : AW M fr kb pc [x0, x1, x2, x3, x4, x5] (vI z :: S) h Rp := A.istore hd (blt_ok rfl) (by show [x0, x1, x2, x3, nlong x4, some (vI z)] = _; rw [hx]) k
theorem A.is7_3 {x0 x1 x2 x3 x4 x5 x6 : Option AV} {z : Int} (hd : Dis M pc 3 n) (k : AW M fr kb n [x0, x1, x2, some (vI z), x4, x5, x6] S h Rp) (hx : nlong x2 = x2 := by rfl) : AW M fr kb pc [x0, x1, x2, x3, x4, x5, x6] (vI z :: S) h Rp := A.istore hd (blt_ok rfl) (by show [x0, x1, nlong x2, some (vI z), x4, x5, x6] = _; rw [hx]) k
theorem A.is7_4 {x0 x1 x2 x3 x4 x5 x6 : Option AV} {z : Int} (hd : Dis M pc 4 n) (k : AW M fr kb n [x0, x1, x2, x3, some (vI z), x5, x6] S h Rp) (hx : nlong x3 = x3 := by rfl) : AW M fr kb pc [x0, x1, x2, x3, x4, x5, x6] (vI z :: S) h Rp := A.istore hd (blt_ok rfl) (by show [x0, x1, x2, nlong x3, some (vI z), x5, x6] = _; rw [hx]) k
theorem A.is7_5 {x0 x1 x2 x3 x4 x5 x6 : Option AV} {z : Int} (hd : Dis M pc 5 n) (k : AW M fr kb n [x0, x1, x2, x3, x4, some (vI z), x6] S h Rp) (hx : nlong x4 = x4 := by rfl) : AW M fr kb pc [x0, x1, x2, x3, x4, x5, x6] (vI z :: S) h Rp := A.istore hd (blt_ok rfl) (by show [x0, x1, x2, x3, nlong x4, some (vI z), x6] = _; rw [hx]) k
theorem A.is7_6 {x0 x1 x2 x3 x4 x5 x6 : Option AV} {z : Int} (hd : Dis M pc 6 n) (k : AW M fr kb n [x0, x1, x2, x3, x4, x5, some (vI z)] S h Rp) (hx : nlong x5 = x5 := by rfl) : AW M fr kb pc [x0, x1, x2, x3, x4, x5, x6] (vI z :: S) h Rp := A.istore hd (blt_ok rfl) (by show [x0, x1, x2, x3, x4, nlong x5, some (vI z)] = _; rw [hx]) k
theorem A.is8_6 {x0 x1 x2 x3 x4 x5 x6 x7 : Option AV} {z : Int} (hd : Dis M pc 6 n) (k : AW M fr kb n [x0, x1, x2, x3, x4, x5, some (vI z), x7] S h Rp) (hx : nlong x5 = x5 := by rfl) : AW M fr kb pc [x0, x1, x2, x3, x4, x5, x6, x7] (vI z :: S) h Rp := A.istore hd (blt_ok rfl) (by show [x0, x1, x2, x3, x4, nlong x5, some (vI z), x7] = _; rw [hx]) k
theorem A.is8_7 {x0 x1 x2 x3 x4 x5 x6 x7 : Option AV} {z : Int} (hd : Dis M pc 7 n) (k : AW M fr kb n [x0, x1, x2, x3, x4, x5, x6, some (vI z)] S h Rp) (hx : nlong x6 = x6 := by rfl) : AW M fr kb pc [x0, x1, x2, x3, x4, x5, x6, x7] (vI z :: S) h Rp := A.istore hd (blt_ok rfl) (by show [x0, x1, x2, x3, x4, x5, nlong x6, some (vI z)] = _; rw [hx]) k
theorem A.is9_5 {x0 x1 x2 x3 x4 x5 x6 x7 x8 : Option AV} {z : Int} (hd : Dis M pc 5 n) (k : AW M fr kb n [x0, x1, x2, x3, x4, some (vI z), x6, x7, x8] S h Rp) (hx : nlong x4 = x4 := by rfl) : AW M fr kb pc [x0, x1, x2, x3, x4, x5, x6, x7, x8] (vI z :: S) h Rp := A.istore hd (blt_ok rfl) (by show [x0, x1, x2, x3, nlong x4, some (vI z), x6, x7, x8] = _; rw [hx]) k
theorem A.is9_6 {x0 x1 x2 x3 x4 x5 x6 x7 x8 : Option AV} {z : Int} (hd : Dis M pc 6 n) (k : AW M fr kb n [x0, x1, x2, x3, x4, x5, some (vI z), x7, x8] S h Rp) (hx : nlong x5 = x5 := by rfl) : AW M fr kb pc [x0, x1, x2, x3, x4, x5, x6, x7, x8] (vI z :: S) h Rp := A.istore hd (blt_ok rfl) (by show [x0, x1, x2, x3, x4, nlong x5, some (vI z), x7, x8] = _; rw [hx]) k
theorem A.is9_7 {x0 x1 x2 x3 x4 x5 x6 x7 x8 : Option AV} {z : Int} (hd : Dis M pc 7 n) (k : AW M fr kb n [x0, x1, x2, x3, x4, x5, x6, some (vI z), x8] S h Rp) (hx : nlong x6 = x6 := by rfl) : AW M fr kb pc [x0, x1, x2, x3, x4, x5, x6, x7, x8] (vI z :: S) h Rp := A.istore hd (blt_ok rfl) (by show [x0, x1, x2, x3, x4, x5, nlong x6, some (vI z), x8] = _; rw [hx]) k
theorem A.is9_8 {x0 x1 x2 x3 x4 x5 x6 x7 x8 : Option AV} {z : Int} (hd : Dis M pc 8 n) (k : AW M fr kb n [x0, x1, x2, x3, x4, x5, x6, x7, some (vI z)] S h Rp) (hx : nlong x7 = x7 := by rfl) : AW M fr kb pc [x0, x1, x2, x3, x4, x5, x6, x7, x8] (vI z :: S) h Rp := A.istore hd (blt_ok rfl) (by show [x0, x1, x2, x3, x4, x5, x6, nlong x7, some (vI z)] = _; rw [hx]) k
theorem A.ll4_1 {x0 x2 x3 : Option AV} {x : Int64} (hd : Dll M pc 1 n) (k : AW M fr kb n [x0, some (vL x), x2, x3] (vL x :: S) h Rp) : AW M fr kb pc [x0, some (vL x), x2, x3] S h Rp := A.lload hd rfl k
theorem A.ll8_1 {x0 x2 x3 x4 x5 x6 x7 : Option AV} {x : Int64} (hd : Dll M pc 1 n) (k : AW M fr kb n [x0, some (vL x), x2, x3, x4, x5, x6, x7] (vL x :: S) h Rp) : AW M fr kb pc [x0, some (vL x), x2, x3, x4, x5, x6, x7] S h Rp := A.lload hd rfl k
theorem A.ll8_4 {x0 x1 x2 x3 x5 x6 x7 : Option AV} {x : Int64} (hd : Dll M pc 4 n) (k : AW M fr kb n [x0, x1, x2, x3, some (vL x), x5, x6, x7] (vL x :: S) h Rp) : AW M fr kb pc [x0, x1, x2, x3, some (vL x), x5, x6, x7] S h Rp := A.lload hd rfl k
theorem A.ls4_1 {x0 x1 x2 x3 : Option AV} {x : Int64} (hd : Dls M pc 1 n) (k : AW M fr kb n [x0, some (vL x), none, x3] S h Rp) (hx : nlong x0 = x0 := by rfl) : AW M fr kb pc [x0, x1, x2, x3] (vL x :: S) h Rp := A.lstore hd (blt_ok rfl) (by show [nlong x0, some (vL x), none, x3] = _; rw [hx]) k
theorem A.ls8_4 {x0 x1 x2 x3 x4 x5 x6 x7 : Option AV} {x : Int64} (hd : Dls M pc 4 n) (k : AW M fr kb n [x0, x1, x2, x3, some (vL x), none, x6, x7] S h Rp) (hx : nlong x3 = x3 := by rfl) : AW M fr kb pc [x0, x1, x2, x3, x4, x5, x6, x7] (vL x :: S) h Rp := A.lstore hd (blt_ok rfl) (by show [x0, x1, x2, nlong x3, some (vL x), none, x6, x7] = _; rw [hx]) k
theorem A.v0 {L : List (Option AV)} {a ci : Nat} {fs : List AV} {C : String} {T : u_T} {N : Nat} (hd : Div M pc M' 0 n) (hM : AM M' d h [vR a] (kont M (d + 1) kb n L S Rp)) (hc : h.2 a = some (kO ci fs) := by assumption) (hcl : vwCl[ci]? = some (C, T, N) := by rfl) (hC : C = (mY M').cls := by rfl) (hz : mC M' = 0 ∧ mS M' = 0 := by exact ⟨rfl, rfl⟩) (hS4 : S.length ≤ 4 := by exact Nat.le_of_ble_eq_true rfl) : AW M (d + 1) kb pc L (vR a :: S) h Rp := A.invV (as := []) hd hM rfl rfl hc hcl hC hz (Nat.le_refl _) hS4
theorem A.s0 {L : List (Option AV)} (hd : Dis' M pc M' 0 n) (hM : AM M' d h [] (kont M (d + 1) kb n L S Rp)) (hz : mC M' = 0 ∧ mS M' = 0 := by exact ⟨rfl, rfl⟩) (hS4 : S.length ≤ 4 := by exact Nat.le_of_ble_eq_true rfl) : AW M (d + 1) kb pc L (S) h Rp := A.invS (as := []) hd hM rfl rfl hz (Nat.le_refl _) hS4
theorem A.n0 {L : List (Option AV)} (hd : DisN M pc M' 0 n) (hM : AM M' d h [] (kont M (d + 1) kb n L S Rp)) (hz : mC M' = 0 ∧ mS M' = 0 := by exact ⟨rfl, rfl⟩) (hS4 : S.length ≤ 4 := by exact Nat.le_of_ble_eq_true rfl) : AW M (d + 1) kb pc L (S) h Rp := A.invSN (as := []) hd hM rfl rfl hz (Nat.le_refl _) hS4
theorem A.v1 {y1 : AV} {L : List (Option AV)} {a ci : Nat} {fs : List AV} {C : String} {T : u_T} {N : Nat} (hd : Div M pc M' 1 n) (hM : AM M' d h [vR a, y1] (kont M (d + 1) kb n L S Rp)) (hc : h.2 a = some (kO ci fs) := by assumption) (hcl : vwCl[ci]? = some (C, T, N) := by rfl) (hC : C = (mY M').cls := by rfl) (hz : mC M' = 0 ∧ mS M' = 0 := by exact ⟨rfl, rfl⟩) (hS4 : S.length ≤ 4 := by exact Nat.le_of_ble_eq_true rfl) : AW M (d + 1) kb pc L (y1 :: vR a :: S) h Rp := A.invV (as := [y1]) hd hM rfl rfl hc hcl hC hz (Nat.le_refl _) hS4
theorem A.s1 {y1 : AV} {L : List (Option AV)} (hd : Dis' M pc M' 1 n) (hM : AM M' d h [y1] (kont M (d + 1) kb n L S Rp)) (hz : mC M' = 0 ∧ mS M' = 0 := by exact ⟨rfl, rfl⟩) (hS4 : S.length ≤ 4 := by exact Nat.le_of_ble_eq_true rfl) : AW M (d + 1) kb pc L (y1 :: S) h Rp := A.invS (as := [y1]) hd hM rfl rfl hz (Nat.le_refl _) hS4
theorem A.n1 {y1 : AV} {L : List (Option AV)} (hd : DisN M pc M' 1 n) (hM : AM M' d h [y1] (kont M (d + 1) kb n L S Rp)) (hz : mC M' = 0 ∧ mS M' = 0 := by exact ⟨rfl, rfl⟩) (hS4 : S.length ≤ 4 := by exact Nat.le_of_ble_eq_true rfl) : AW M (d + 1) kb pc L (y1 :: S) h Rp := A.invSN (as := [y1]) hd hM rfl rfl hz (Nat.le_refl _) hS4
theorem A.v2 {y1 y2 : AV} {L : List (Option AV)} {a ci : Nat} {fs : List AV} {C : String} {T : u_T} {N : Nat} (hd : Div M pc M' 2 n) (hM : AM M' d h [vR a, y1, y2] (kont M (d + 1) kb n L S Rp)) (hc : h.2 a = some (kO ci fs) := by assumption) (hcl : vwCl[ci]? = some (C, T, N) := by rfl) (hC : C = (mY M').cls := by rfl) (hz : mC M' = 0 ∧ mS M' = 0 := by exact ⟨rfl, rfl⟩) (hS4 : S.length ≤ 4 := by exact Nat.le_of_ble_eq_true rfl) : AW M (d + 1) kb pc L (y2 :: y1 :: vR a :: S) h Rp := A.invV (as := [y1, y2]) hd hM rfl rfl hc hcl hC hz (Nat.le_refl _) hS4
theorem A.s2 {y1 y2 : AV} {L : List (Option AV)} (hd : Dis' M pc M' 2 n) (hM : AM M' d h [y1, y2] (kont M (d + 1) kb n L S Rp)) (hz : mC M' = 0 ∧ mS M' = 0 := by exact ⟨rfl, rfl⟩) (hS4 : S.length ≤ 4 := by exact Nat.le_of_ble_eq_true rfl) : AW M (d + 1) kb pc L (y2 :: y1 :: S) h Rp := A.invS (as := [y1, y2]) hd hM rfl rfl hz (Nat.le_refl _) hS4
theorem A.n2 {y1 y2 : AV} {L : List (Option AV)} (hd : DisN M pc M' 2 n) (hM : AM M' d h [y1, y2] (kont M (d + 1) kb n L S Rp)) (hz : mC M' = 0 ∧ mS M' = 0 := by exact ⟨rfl, rfl⟩) (hS4 : S.length ≤ 4 := by exact Nat.le_of_ble_eq_true rfl) : AW M (d + 1) kb pc L (y2 :: y1 :: S) h Rp := A.invSN (as := [y1, y2]) hd hM rfl rfl hz (Nat.le_refl _) hS4
theorem A.v3 {y1 y2 y3 : AV} {L : List (Option AV)} {a ci : Nat} {fs : List AV} {C : String} {T : u_T} {N : Nat} (hd : Div M pc M' 3 n) (hM : AM M' d h [vR a, y1, y2, y3] (kont M (d + 1) kb n L S Rp)) (hc : h.2 a = some (kO ci fs) := by assumption) (hcl : vwCl[ci]? = some (C, T, N) := by rfl) (hC : C = (mY M').cls := by rfl) (hz : mC M' = 0 ∧ mS M' = 0 := by exact ⟨rfl, rfl⟩) (hS4 : S.length ≤ 4 := by exact Nat.le_of_ble_eq_true rfl) : AW M (d + 1) kb pc L (y3 :: y2 :: y1 :: vR a :: S) h Rp := A.invV (as := [y1, y2, y3]) hd hM rfl rfl hc hcl hC hz (Nat.le_refl _) hS4
theorem A.s3 {y1 y2 y3 : AV} {L : List (Option AV)} (hd : Dis' M pc M' 3 n) (hM : AM M' d h [y1, y2, y3] (kont M (d + 1) kb n L S Rp)) (hz : mC M' = 0 ∧ mS M' = 0 := by exact ⟨rfl, rfl⟩) (hS4 : S.length ≤ 4 := by exact Nat.le_of_ble_eq_true rfl) : AW M (d + 1) kb pc L (y3 :: y2 :: y1 :: S) h Rp := A.invS (as := [y1, y2, y3]) hd hM rfl rfl hz (Nat.le_refl _) hS4
theorem A.n3 {y1 y2 y3 : AV} {L : List (Option AV)} (hd : DisN M pc M' 3 n) (hM : AM M' d h [y1, y2, y3] (kont M (d + 1) kb n L S Rp)) (hz : mC M' = 0 ∧ mS M' = 0 := by exact ⟨rfl, rfl⟩) (hS4 : S.length ≤ 4 := by exact Nat.le_of_ble_eq_true rfl) : AW M (d + 1) kb pc L (y3 :: y2 :: y1 :: S) h Rp := A.invSN (as := [y1, y2, y3]) hd hM rfl rfl hz (Nat.le_refl _) hS4
end SHAPES
end
section
/-! ===== methods, and what their calls and fields need of the tables ===== -/
theorem inGX0 : ∀ w ∈ u_ws RX0 TX0 8, w ∈ tG := fun w h => tG_of (inX0 w h) (List.all_eq_true.mp (by decide +kernel : (u_ws RX0 TX0 8).all goodWord = true) w h)
theorem inGX1 : ∀ w ∈ u_ws RX1 TX1 4, w ∈ tG := fun w h => tG_of (inX1 w h) (List.all_eq_true.mp (by decide +kernel : (u_ws RX1 TX1 4).all goodWord = true) w h)
theorem inGX2 : ∀ w ∈ u_ws RX2 TX2 6, w ∈ tG := fun w h => tG_of (inX2 w h) (List.all_eq_true.mp (by decide +kernel : (u_ws RX2 TX2 6).all goodWord = true) w h)
theorem inGX3 : ∀ w ∈ u_ws RX3 TX3 6, w ∈ tG := fun w h => tG_of (inX3 w h) (List.all_eq_true.mp (by decide +kernel : (u_ws RX3 TX3 6).all goodWord = true) w h)
theorem inGX4 : ∀ w ∈ u_ws RX4 TX4 5, w ∈ tG := fun w h => tG_of (inX4 w h) (List.all_eq_true.mp (by decide +kernel : (u_ws RX4 TX4 5).all goodWord = true) w h)
theorem inGX5 : ∀ w ∈ u_ws RX5 TX5 4, w ∈ tG := fun w h => tG_of (inX5 w h) (List.all_eq_true.mp (by decide +kernel : (u_ws RX5 TX5 4).all goodWord = true) w h)
theorem inGX6 : ∀ w ∈ u_ws RX6 TX6 27, w ∈ tG := fun w h => tG_of (inX6 w h) (List.all_eq_true.mp (by decide +kernel : (u_ws RX6 TX6 27).all goodWord = true) w h)
def m0_init : MT := (yX0_init, cX0_init, 1, none, true, 8, 7958)
def m0_draw : MT := (yX0_draw, cX0_draw, 6, none, false, 0, 0)
def m0_reachedWith : MT := (yX0_reachedWith, cX0_reachedWith, 4, (some .int), false, 0, 0)
def m0_reachedEnds : MT := (yX0_reachedEnds, cX0_reachedEnds, 3, (some .int), false, 0, 0)
def m0_wayLength : MT := (yX0_wayLength, cX0_wayLength, 2, (some .int), false, 0, 0)
def m0_wayChoice : MT := (yX0_wayChoice, cX0_wayChoice, 6, (some .int), false, 0, 0)
def m0_canUse : MT := (yX0_canUse, cX0_canUse, 5, (some .boolean), false, 0, 0)
def m0_follow : MT := (yX0_follow, cX0_follow, 9, none, false, 0, 0)
def m0_arrive : MT := (yX0_arrive, cX0_arrive, 5, none, false, 0, 0)
def m0_isReached : MT := (yX0_isReached, cX0_isReached, 4, (some .boolean), false, 0, 0)
def m0_isSituation : MT := (yX0_isSituation, cX0_isSituation, 1, (some .boolean), false, 0, 0)
def m0_nodeOf : MT := (yX0_nodeOf, cX0_nodeOf, 1, (some .int), false, 0, 0)
def m0_flagsOf : MT := (yX0_flagsOf, cX0_flagsOf, 1, (some .int), false, 0, 0)
def m1_init : MT := (yX1_init, cX1_init, 1, none, true, 2, 6)
def m1_makeEmpty : MT := (yX1_makeEmpty, cX1_makeEmpty, 1, none, false, 0, 0)
def m1_makeLike : MT := (yX1_makeLike, cX1_makeLike, 2, none, false, 0, 0)
def m1_comeFrom : MT := (yX1_comeFrom, cX1_comeFrom, 5, none, false, 0, 0)
def m1_carryOut : MT := (yX1_carryOut, cX1_carryOut, 5, (some .int), false, 0, 0)
def m1_putAt : MT := (yX1_putAt, cX1_putAt, 4, none, false, 0, 0)
def m1_hide : MT := (yX1_hide, cX1_hide, 3, none, false, 0, 0)
def m2_init : MT := (yX2_init, cX2_init, 2, none, true, 73, 287)
def m2_now : MT := (yX2_now, cX2_now, 1, (some (.object "PictureScript$Moment")), false, 0, 0)
def m2_startScript : MT := (yX2_startScript, cX2_startScript, 3, none, false, 0, 0)
def m2_startAnew : MT := (yX2_startAnew, cX2_startAnew, 2, none, false, 0, 0)
def m2_goOn : MT := (yX2_goOn, cX2_goOn, 4, (some .boolean), false, 0, 0)
def m2_turnBack : MT := (yX2_turnBack, cX2_turnBack, 2, (some .boolean), false, 0, 0)
def m2_turnForth : MT := (yX2_turnForth, cX2_turnForth, 1, (some .boolean), false, 0, 0)
def m2_keepIn : MT := (yX2_keepIn, cX2_keepIn, 2, none, false, 0, 0)
def m2_takeFrom : MT := (yX2_takeFrom, cX2_takeFrom, 2, (some .boolean), false, 0, 0)
def m2_seenNodes : MT := (yX2_seenNodes, cX2_seenNodes, 3, (some .int), false, 0, 0)
def m2_usedSlots : MT := (yX2_usedSlots, cX2_usedSlots, 3, (some .int), false, 0, 0)
def m2_keepOneMoment : MT := (yX2_keepOneMoment, cX2_keepOneMoment, 1, none, false, 0, 0)
def m2_forgetEarliest : MT := (yX2_forgetEarliest, cX2_forgetEarliest, 3, none, false, 0, 0)
def m2_see : MT := (yX2_see, cX2_see, 3, (some .boolean), false, 0, 0)
def m3_init : MT := (yX3_init, cX3_init, 1, none, true, 5, 522)
def m3_clear : MT := (yX3_clear, cX3_clear, 1, none, false, 0, 0)
def m3_addNode : MT := (yX3_addNode, cX3_addNode, 2, none, false, 0, 0)
def m3_addNumber : MT := (yX3_addNumber, cX3_addNumber, 3, none, false, 0, 0)
def m3_addOption : MT := (yX3_addOption, cX3_addOption, 6, none, false, 0, 0)
def m3_has : MT := (yX3_has, cX3_has, 2, (some .boolean), false, 0, 0)
def m3_kindOf : MT := (yX3_kindOf, cX3_kindOf, 2, (some .int), false, 0, 0)
def m3_optionsOf : MT := (yX3_optionsOf, cX3_optionsOf, 2, (some .int), false, 0, 0)
def m3_numberOf : MT := (yX3_numberOf, cX3_numberOf, 3, (some .int), false, 0, 0)
def m3_optionPart : MT := (yX3_optionPart, cX3_optionPart, 4, (some .int), false, 0, 0)
def m3_isOpen : MT := (yX3_isOpen, cX3_isOpen, 6, (some .boolean), false, 0, 0)
def m3_openOptions : MT := (yX3_openOptions, cX3_openOptions, 5, (some .int), false, 0, 0)
def m3_isShown : MT := (yX3_isShown, cX3_isShown, 3, (some .boolean), false, 0, 0)
def m3_shownKind : MT := (yX3_shownKind, cX3_shownKind, 3, (some .int), false, 0, 0)
def m3_shownNumber : MT := (yX3_shownNumber, cX3_shownNumber, 2, (some .int), false, 0, 0)
def m4_init : MT := (yX4_init, cX4_init, 1, none, true, 7, 628)
def m4_append : MT := (yX4_append, cX4_append, 2, (some .boolean), false, 0, 0)
def m4_byteAt : MT := (yX4_byteAt, cX4_byteAt, 2, (some .int), false, 0, 0)
def m4_findFault : MT := (yX4_findFault, cX4_findFault, 2, (some .int), false, 0, 0)
def m4_takeNode : MT := (yX4_takeNode, cX4_takeNode, 2, (some .boolean), false, 0, 0)
def m4_takeOptions : MT := (yX4_takeOptions, cX4_takeOptions, 2, (some .boolean), false, 0, 0)
def m4_takeOption : MT := (yX4_takeOption, cX4_takeOption, 3, (some .boolean), false, 0, 0)
def m4_addVoice : MT := (yX4_addVoice, cX4_addVoice, 2, (some .boolean), false, 0, 0)
def m4_addPlusOrMinus : MT := (yX4_addPlusOrMinus, cX4_addPlusOrMinus, 2, (some .boolean), false, 0, 0)
def m4_addDigit : MT := (yX4_addDigit, cX4_addDigit, 2, (some .boolean), false, 0, 0)
def m4_addNumber : MT := (yX4_addNumber, cX4_addNumber, 2, (some .boolean), false, 0, 0)
def m4_takeDigit : MT := (yX4_takeDigit, cX4_takeDigit, 2, (some .boolean), false, 0, 0)
def m4_takeNumber : MT := (yX4_takeNumber, cX4_takeNumber, 3, (some .boolean), false, 0, 0)
def m4_takeSign : MT := (yX4_takeSign, cX4_takeSign, 2, (some .boolean), false, 0, 0)
def m4_skipBlanks : MT := (yX4_skipBlanks, cX4_skipBlanks, 1, none, false, 0, 0)
def m4_isAtDigit : MT := (yX4_isAtDigit, cX4_isAtDigit, 1, (some .boolean), false, 0, 0)
def m4_isAtEnd : MT := (yX4_isAtEnd, cX4_isAtEnd, 1, (some .boolean), false, 0, 0)
def m4_here : MT := (yX4_here, cX4_here, 1, (some .int), false, 0, 0)
def m5_init : MT := (yX5_init, cX5_init, 1, none, true, 97, 9420)
def m5_type : MT := (yX5_type, cX5_type, 2, (some .int), false, 0, 0)
def m5_clearText : MT := (yX5_clearText, cX5_clearText, 2, (some .int), false, 0, 0)
def m5_fault : MT := (yX5_fault, cX5_fault, 1, (some .int), false, 0, 0)
def m5_read : MT := (yX5_read, cX5_read, 2, (some .int), false, 0, 0)
def m5_begin : MT := (yX5_begin, cX5_begin, 1, (some .int), false, 0, 0)
def m5_go : MT := (yX5_go, cX5_go, 1, (some .int), false, 0, 0)
def m5_choose : MT := (yX5_choose, cX5_choose, 3, (some .int), false, 0, 0)
def m5_skip : MT := (yX5_skip, cX5_skip, 3, (some .int), false, 0, 0)
def m5_back : MT := (yX5_back, cX5_back, 2, (some .int), false, 0, 0)
def m5_again : MT := (yX5_again, cX5_again, 1, (some .int), false, 0, 0)
def m5_save : MT := (yX5_save, cX5_save, 2, (some .int), false, 0, 0)
def m5_restore : MT := (yX5_restore, cX5_restore, 2, (some .int), false, 0, 0)
def m5_shown : MT := (yX5_shown, cX5_shown, 3, (some .int), false, 0, 0)
def m5_portrait : MT := (yX5_portrait, cX5_portrait, 4, (some .int), false, 0, 0)
def m5_node : MT := (yX5_node, cX5_node, 3, (some .int), false, 0, 0)
def m5_option : MT := (yX5_option, cX5_option, 4, (some .int), false, 0, 0)
def m5_situations : MT := (yX5_situations, cX5_situations, 2, (some .int), false, 0, 0)
def m5_choicesTo : MT := (yX5_choicesTo, cX5_choicesTo, 3, (some .int), false, 0, 0)
def m5_wayTo : MT := (yX5_wayTo, cX5_wayTo, 4, (some .int), false, 0, 0)
def m5_usable : MT := (yX5_usable, cX5_usable, 3, (some .int), false, 0, 0)
def m5_count : MT := (yX5_count, cX5_count, 2, (some .int), false, 0, 0)
def m5_digest : MT := (yX5_digest, cX5_digest, 4, (some .long), false, 0, 0)
def m5_digestNode : MT := (yX5_digestNode, cX5_digestNode, 8, (some .long), false, 0, 0)
def m5_isLineShown : MT := (yX5_isLineShown, cX5_isLineShown, 1, (some .boolean), false, 0, 0)
def m5_goOnFromLine : MT := (yX5_goOnFromLine, cX5_goOnFromLine, 1, (some .boolean), false, 0, 0)
def m5_endIndex : MT := (yX5_endIndex, cX5_endIndex, 1, (some .int), false, 0, 0)
def m6_init : MT := (yX6_init, cX6_init, 1, none, true, 15, 8964)
def m6_in : MT := (yX6_in, cX6_in, 3, (some .boolean), false, 0, 0)
def m6_type : MT := (yX6_type, cX6_type, 2, (some .int), false, 0, 0)
def m6_clearText : MT := (yX6_clearText, cX6_clearText, 2, (some .int), false, 0, 0)
def m6_next : MT := (yX6_next, cX6_next, 1, (some .int), false, 0, 0)
def m6_isDigit : MT := (yX6_isDigit, cX6_isDigit, 1, (some .boolean), false, 0, 0)
def m6_blanks : MT := (yX6_blanks, cX6_blanks, 1, none, false, 0, 0)
def m6_fails : MT := (yX6_fails, cX6_fails, 2, none, false, 0, 0)
def m6_take : MT := (yX6_take, cX6_take, 3, (some .int), false, 0, 0)
def m6_voice : MT := (yX6_voice, cX6_voice, 1, (some .int), false, 0, 0)
def m6_digit : MT := (yX6_digit, cX6_digit, 3, (some .int), false, 0, 0)
def m6_number : MT := (yX6_number, cX6_number, 4, (some .int), false, 0, 0)
def m6_kindOf : MT := (yX6_kindOf, cX6_kindOf, 1, (some .int), false, 0, 0)
def m6_readsOptions : MT := (yX6_readsOptions, cX6_readsOptions, 5, none, false, 0, 0)
def m6_readsNode : MT := (yX6_readsNode, cX6_readsNode, 4, none, false, 0, 0)
def m6_reads : MT := (yX6_reads, cX6_reads, 1, none, false, 0, 0)
def m6_fault : MT := (yX6_fault, cX6_fault, 1, (some .int), false, 0, 0)
def m6_of : MT := (yX6_of, cX6_of, 3, (some .int), false, 0, 0)
def m6_shownKind : MT := (yX6_shownKind, cX6_shownKind, 3, (some .int), false, 0, 0)
def m6_endOf : MT := (yX6_endOf, cX6_endOf, 2, (some .int), false, 0, 0)
def m6_leaves : MT := (yX6_leaves, cX6_leaves, 3, none, false, 0, 0)
def m6_does : MT := (yX6_does, cX6_does, 4, (some .int), false, 0, 0)
def m6_carries : MT := (yX6_carries, cX6_carries, 4, (some .int), false, 0, 0)
def m6_isLocked : MT := (yX6_isLocked, cX6_isLocked, 6, (some .boolean), false, 0, 0)
def m6_placeOf : MT := (yX6_placeOf, cX6_placeOf, 2, (some .int), false, 0, 0)
def m6_present : MT := (yX6_present, cX6_present, 2, (some .int), false, 0, 0)
def m6_puts : MT := (yX6_puts, cX6_puts, 4, none, false, 0, 0)
def m6_takes : MT := (yX6_takes, cX6_takes, 2, none, false, 0, 0)
def m6_starts : MT := (yX6_starts, cX6_starts, 2, none, false, 0, 0)
def m6_goesOn : MT := (yX6_goesOn, cX6_goesOn, 3, none, false, 0, 0)
def m6_read : MT := (yX6_read, cX6_read, 2, (some .int), false, 0, 0)
def m6_begin : MT := (yX6_begin, cX6_begin, 1, (some .int), false, 0, 0)
def m6_go : MT := (yX6_go, cX6_go, 1, (some .int), false, 0, 0)
def m6_choose : MT := (yX6_choose, cX6_choose, 3, (some .int), false, 0, 0)
def m6_skip : MT := (yX6_skip, cX6_skip, 4, (some .int), false, 0, 0)
def m6_back : MT := (yX6_back, cX6_back, 2, (some .int), false, 0, 0)
def m6_again : MT := (yX6_again, cX6_again, 1, (some .int), false, 0, 0)
def m6_save : MT := (yX6_save, cX6_save, 3, (some .int), false, 0, 0)
def m6_restore : MT := (yX6_restore, cX6_restore, 3, (some .int), false, 0, 0)
def m6_open : MT := (yX6_open, cX6_open, 4, (some .int), false, 0, 0)
def m6_shown : MT := (yX6_shown, cX6_shown, 4, (some .int), false, 0, 0)
def m6_portrait : MT := (yX6_portrait, cX6_portrait, 3, (some .int), false, 0, 0)
def m6_isNode : MT := (yX6_isNode, cX6_isNode, 2, (some .boolean), false, 0, 0)
def m6_node : MT := (yX6_node, cX6_node, 3, (some .int), false, 0, 0)
def m6_isChoice : MT := (yX6_isChoice, cX6_isChoice, 2, (some .boolean), false, 0, 0)
def m6_option : MT := (yX6_option, cX6_option, 5, (some .int), false, 0, 0)
def m6_follows : MT := (yX6_follows, cX6_follows, 7, none, false, 0, 0)
def m6_charts : MT := (yX6_charts, cX6_charts, 4, none, false, 0, 0)
def m6_situationsOf : MT := (yX6_situationsOf, cX6_situationsOf, 4, (some .int), false, 0, 0)
def m6_situations : MT := (yX6_situations, cX6_situations, 2, (some .int), false, 0, 0)
def m6_isEndNumber : MT := (yX6_isEndNumber, cX6_isEndNumber, 1, (some .boolean), false, 0, 0)
def m6_stepsTo : MT := (yX6_stepsTo, cX6_stepsTo, 4, (some .int), false, 0, 0)
def m6_choicesTo : MT := (yX6_choicesTo, cX6_choicesTo, 2, (some .int), false, 0, 0)
def m6_wayTo : MT := (yX6_wayTo, cX6_wayTo, 7, (some .int), false, 0, 0)
def m6_isUsable : MT := (yX6_isUsable, cX6_isUsable, 4, (some .int), false, 0, 0)
def m6_usable : MT := (yX6_usable, cX6_usable, 3, (some .int), false, 0, 0)
def m6_seenNodes : MT := (yX6_seenNodes, cX6_seenNodes, 3, (some .int), false, 0, 0)
def m6_savedMoments : MT := (yX6_savedMoments, cX6_savedMoments, 3, (some .int), false, 0, 0)
def m6_ends : MT := (yX6_ends, cX6_ends, 3, (some .int), false, 0, 0)
def m6_count : MT := (yX6_count, cX6_count, 2, (some .int), false, 0, 0)
def m6_mixes : MT := (yX6_mixes, cX6_mixes, 2, none, false, 0, 0)
def m6_mixesNode : MT := (yX6_mixesNode, cX6_mixesNode, 4, none, false, 0, 0)
def m6_digest : MT := (yX6_digest, cX6_digest, 2, (some .long), false, 0, 0)
def mJ7_fill : MT := (yJ7_fill_53178, cJ7_fill_53178, 4, none, false, 0, 0)
def mL_law : MT := (yL_law, cL_law, 4, (some .boolean), false, 0, 0)
theorem oi_i : Jvm.Cond.instanceMethod objectInit ∈ tG := tG_of (List.mem_of_getElem? (i := 85) (by decide +kernel)) (by decide +kernel)
theorem oi_c : Jvm.Cond.code objectInit ⟨#[0xb1]⟩ 1 none ∈ tG := tG_of (List.mem_of_getElem? (i := 86) (by decide +kernel)) (by decide +kernel)
theorem ac_n : Jvm.Cond.native arraycopyName ∈ tG := tG_of (List.mem_of_getElem? (i := 568) (by decide +kernel)) (by decide +kernel)
theorem ac_s : Jvm.Cond.static arraycopyName ∈ tG := tG_of (List.mem_of_getElem? (i := 567) (by decide +kernel)) (by decide +kernel)
theorem ac_i : Jvm.Cond.initialized "java/lang/System" ∈ tG := tG_of (List.mem_of_getElem? (i := 78) (by decide +kernel)) (by decide +kernel)
theorem oi_X0_3 : Jvm.Cond.methodLink RX0 3 objectInit ∈ tG := tG_of (List.mem_of_getElem? (i := 201) (by decide +kernel)) (by decide +kernel)
theorem na_int : Jvm.Cond.arrayClass (tyF 0) ∈ tG := tG_of (List.mem_of_getElem? (i := 120) (by decide +kernel)) (by decide +kernel)
theorem f_X0_9 : FL RX0 9 0 1 := ⟨RX0, TX0, 8, rfl, by decide, inGX0, tG_of (List.mem_of_getElem? (i := 206) (by decide +kernel)) (by decide +kernel)⟩
theorem p_X0_X0_1 : FP RX0 0 1 (.array .int) true := ⟨RX0, TX0, 8, tyX0, rfl, tyX0_ok, nmX0, by decide +kernel, rfl, fun _ => rfl⟩
theorem f_X0_15 : FL RX0 15 0 2 := ⟨RX0, TX0, 8, rfl, by decide, inGX0, tG_of (List.mem_of_getElem? (i := 207) (by decide +kernel)) (by decide +kernel)⟩
theorem p_X0_X0_2 : FP RX0 0 2 (.array .int) true := ⟨RX0, TX0, 8, tyX0, rfl, tyX0_ok, nmX0, by decide +kernel, rfl, fun _ => rfl⟩
theorem f_X0_18 : FL RX0 18 0 3 := ⟨RX0, TX0, 8, rfl, by decide, inGX0, tG_of (List.mem_of_getElem? (i := 208) (by decide +kernel)) (by decide +kernel)⟩
theorem p_X0_X0_3 : FP RX0 0 3 (.array .int) true := ⟨RX0, TX0, 8, tyX0, rfl, tyX0_ok, nmX0, by decide +kernel, rfl, fun _ => rfl⟩
theorem f_X0_21 : FL RX0 21 0 4 := ⟨RX0, TX0, 8, rfl, by decide, inGX0, tG_of (List.mem_of_getElem? (i := 209) (by decide +kernel)) (by decide +kernel)⟩
theorem p_X0_X0_4 : FP RX0 0 4 (.array .int) true := ⟨RX0, TX0, 8, tyX0, rfl, tyX0_ok, nmX0, by decide +kernel, rfl, fun _ => rfl⟩
theorem f_X0_24 : FL RX0 24 0 6 := ⟨RX0, TX0, 8, rfl, by decide, inGX0, tG_of (List.mem_of_getElem? (i := 211) (by decide +kernel)) (by decide +kernel)⟩
theorem p_X0_X0_6 : FP RX0 0 6 (.array .int) true := ⟨RX0, TX0, 8, tyX0, rfl, tyX0_ok, nmX0, by decide +kernel, rfl, fun _ => rfl⟩
theorem nw_X1 : (∀ j, j < 4 → ([vI 0, vI 0, vN, vN] : List AV)[j]? = some (dfv (tyX1 j)) ∧ ∀ G : GD, cv G (dfv (tyX1 j)) = defaultValue (tyX1 j)) ∧ (∀ v ∈ ([vI 0, vI 0, vN, vN] : List AV), vok v) := by
  refine ⟨fun j hj => ?_, fun v hv => ?_⟩
  · rcases (by omega : j = 0 ∨ j = 1 ∨ j = 2 ∨ j = 3) with rfl | rfl | rfl | rfl <;> exact ⟨rfl, fun G => rfl⟩
  · simp only [List.mem_cons, List.not_mem_nil, or_false] at hv
    rcases hv with rfl | rfl | rfl | rfl <;> first | trivial | (exact ⟨by decide, by decide⟩)
theorem ok_1_init : MOK m1_init := ⟨by decide +kernel, tG_of (List.mem_of_getElem? (i := 152) (by decide +kernel)) (by decide +kernel), tG_of (List.mem_of_getElem? (i := 68) (by decide +kernel)) (by decide +kernel), by decide +kernel, by decide +kernel⟩
theorem i_1_init : Jvm.Cond.instanceMethod (mY m1_init) ∈ tG := tG_of (List.mem_of_getElem? (i := 151) (by decide +kernel)) (by decide +kernel)
theorem f_X0_30 : FL RX0 30 0 7 := ⟨RX0, TX0, 8, rfl, by decide, inGX0, tG_of (List.mem_of_getElem? (i := 212) (by decide +kernel)) (by decide +kernel)⟩
theorem p_X0_X0_7 : FP RX0 0 7 (.object "PictureScript$Moment") true := ⟨RX0, TX0, 8, tyX0, rfl, tyX0_ok, nmX0, by decide +kernel, rfl, fun _ => rfl⟩
theorem f_X0_34 : FL RX0 34 0 0 := ⟨RX0, TX0, 8, rfl, by decide, inGX0, tG_of (List.mem_of_getElem? (i := 204) (by decide +kernel)) (by decide +kernel)⟩
theorem p_X0_X0_0 : FP RX0 0 0 .int false := ⟨RX0, TX0, 8, tyX0, rfl, tyX0_ok, nmX0, by decide +kernel, rfl, fun q => by cases q⟩
theorem f_X0_38 : FL RX0 38 0 5 := ⟨RX0, TX0, 8, rfl, by decide, inGX0, tG_of (List.mem_of_getElem? (i := 210) (by decide +kernel)) (by decide +kernel)⟩
theorem p_X0_X0_5 : FP RX0 0 5 .int false := ⟨RX0, TX0, 8, tyX0, rfl, tyX0_ok, nmX0, by decide +kernel, rfl, fun q => by cases q⟩
theorem ok_J7_fill : MOK mJ7_fill := ⟨by decide +kernel, tG_of (List.mem_of_getElem? (i := 252) (by decide +kernel)) (by decide +kernel), tG_of (List.mem_of_getElem? (i := 70) (by decide +kernel)) (by decide +kernel), by decide +kernel, by decide +kernel⟩
theorem s_J7_fill : Jvm.Cond.static (mY mJ7_fill) ∈ tG := tG_of (List.mem_of_getElem? (i := 251) (by decide +kernel)) (by decide +kernel)
theorem lk_X0_41 : Lk RX0 41 mJ7_fill 2 := ⟨ok_J7_fill, tG_of (List.mem_of_getElem? (i := 294) (by decide +kernel)) (by decide +kernel), by decide +kernel, by decide⟩
theorem ok_1_makeEmpty : MOK m1_makeEmpty := ⟨by decide +kernel, tG_of (List.mem_of_getElem? (i := 249) (by decide +kernel)) (by decide +kernel), tG_of (List.mem_of_getElem? (i := 68) (by decide +kernel)) (by decide +kernel), by decide +kernel, by decide +kernel⟩
theorem v_1_makeEmpty : Jvm.Cond.instanceMethod (mY m1_makeEmpty) ∈ tG ∧ Jvm.Cond.selects (mY m1_makeEmpty).cls (mY m1_makeEmpty) (mY m1_makeEmpty) ∈ tG := ⟨tG_of (List.mem_of_getElem? (i := 247) (by decide +kernel)) (by decide +kernel), tG_of (List.mem_of_getElem? (i := 248) (by decide +kernel)) (by decide +kernel)⟩
theorem lk_X0_47 : Lk RX0 47 m1_makeEmpty 0 := ⟨ok_1_makeEmpty, tG_of (List.mem_of_getElem? (i := 295) (by decide +kernel)) (by decide +kernel), by decide +kernel, by decide⟩
theorem ok_0_follow : MOK m0_follow := ⟨by decide +kernel, tG_of (List.mem_of_getElem? (i := 299) (by decide +kernel)) (by decide +kernel), tG_of (List.mem_of_getElem? (i := 69) (by decide +kernel)) (by decide +kernel), by decide +kernel, by decide +kernel⟩
theorem v_0_follow : Jvm.Cond.instanceMethod (mY m0_follow) ∈ tG ∧ Jvm.Cond.selects (mY m0_follow).cls (mY m0_follow) (mY m0_follow) ∈ tG := ⟨tG_of (List.mem_of_getElem? (i := 298) (by decide +kernel)) (by decide +kernel), tG_of (List.mem_of_getElem? (i := 5) (by decide +kernel)) (by decide +kernel)⟩
theorem lk_X0_50 : Lk RX0 50 m0_follow 4 := ⟨ok_0_follow, tG_of (List.mem_of_getElem? (i := 296) (by decide +kernel)) (by decide +kernel), by decide +kernel, by decide⟩
theorem ok_0_nodeOf : MOK m0_nodeOf := ⟨by decide +kernel, tG_of (List.mem_of_getElem? (i := 314) (by decide +kernel)) (by decide +kernel), tG_of (List.mem_of_getElem? (i := 69) (by decide +kernel)) (by decide +kernel), by decide +kernel, by decide +kernel⟩
theorem s_0_nodeOf : Jvm.Cond.static (mY m0_nodeOf) ∈ tG := tG_of (List.mem_of_getElem? (i := 313) (by decide +kernel)) (by decide +kernel)
theorem lk_X0_54 : Lk RX0 54 m0_nodeOf 1 := ⟨ok_0_nodeOf, tG_of (List.mem_of_getElem? (i := 312) (by decide +kernel)) (by decide +kernel), by decide +kernel, by decide⟩
theorem ok_0_flagsOf : MOK m0_flagsOf := ⟨by decide +kernel, tG_of (List.mem_of_getElem? (i := 325) (by decide +kernel)) (by decide +kernel), tG_of (List.mem_of_getElem? (i := 69) (by decide +kernel)) (by decide +kernel), by decide +kernel, by decide +kernel⟩
theorem s_0_flagsOf : Jvm.Cond.static (mY m0_flagsOf) ∈ tG := tG_of (List.mem_of_getElem? (i := 324) (by decide +kernel)) (by decide +kernel)
theorem lk_X0_58 : Lk RX0 58 m0_flagsOf 1 := ⟨ok_0_flagsOf, tG_of (List.mem_of_getElem? (i := 323) (by decide +kernel)) (by decide +kernel), by decide +kernel, by decide⟩
theorem ok_3_isOpen : MOK m3_isOpen := ⟨by decide +kernel, tG_of (List.mem_of_getElem? (i := 329) (by decide +kernel)) (by decide +kernel), tG_of (List.mem_of_getElem? (i := 66) (by decide +kernel)) (by decide +kernel), by decide +kernel, by decide +kernel⟩
theorem v_3_isOpen : Jvm.Cond.instanceMethod (mY m3_isOpen) ∈ tG ∧ Jvm.Cond.selects (mY m3_isOpen).cls (mY m3_isOpen) (mY m3_isOpen) ∈ tG := ⟨tG_of (List.mem_of_getElem? (i := 327) (by decide +kernel)) (by decide +kernel), tG_of (List.mem_of_getElem? (i := 328) (by decide +kernel)) (by decide +kernel)⟩
theorem lk_X0_61 : Lk RX0 61 m3_isOpen 3 := ⟨ok_3_isOpen, tG_of (List.mem_of_getElem? (i := 326) (by decide +kernel)) (by decide +kernel), by decide +kernel, by decide⟩
theorem f_X0_67 : FL RX0 67 1 1 := ⟨RX1, TX1, 4, rfl, by decide, inGX1, tG_of (List.mem_of_getElem? (i := 159) (by decide +kernel)) (by decide +kernel)⟩
theorem p_X0_X1_1 : FP RX0 1 1 .int false := ⟨RX1, TX1, 4, tyX1, rfl, tyX1_ok, nmX1, by decide +kernel, rfl, fun q => by cases q⟩
theorem ok_3_optionPart : MOK m3_optionPart := ⟨by decide +kernel, tG_of (List.mem_of_getElem? (i := 337) (by decide +kernel)) (by decide +kernel), tG_of (List.mem_of_getElem? (i := 66) (by decide +kernel)) (by decide +kernel), by decide +kernel, by decide +kernel⟩
theorem v_3_optionPart : Jvm.Cond.instanceMethod (mY m3_optionPart) ∈ tG ∧ Jvm.Cond.selects (mY m3_optionPart).cls (mY m3_optionPart) (mY m3_optionPart) ∈ tG := ⟨tG_of (List.mem_of_getElem? (i := 335) (by decide +kernel)) (by decide +kernel), tG_of (List.mem_of_getElem? (i := 336) (by decide +kernel)) (by decide +kernel)⟩
theorem lk_X0_70 : Lk RX0 70 m3_optionPart 3 := ⟨ok_3_optionPart, tG_of (List.mem_of_getElem? (i := 338) (by decide +kernel)) (by decide +kernel), by decide +kernel, by decide⟩
theorem ok_0_isReached : MOK m0_isReached := ⟨by decide +kernel, tG_of (List.mem_of_getElem? (i := 647) (by decide +kernel)) (by decide +kernel), tG_of (List.mem_of_getElem? (i := 69) (by decide +kernel)) (by decide +kernel), by decide +kernel, by decide +kernel⟩
theorem v_0_isReached : Jvm.Cond.instanceMethod (mY m0_isReached) ∈ tG ∧ Jvm.Cond.selects (mY m0_isReached).cls (mY m0_isReached) (mY m0_isReached) ∈ tG := ⟨tG_of (List.mem_of_getElem? (i := 646) (by decide +kernel)) (by decide +kernel), tG_of (List.mem_of_getElem? (i := 24) (by decide +kernel)) (by decide +kernel)⟩
theorem lk_X0_74 : Lk RX0 74 m0_isReached 2 := ⟨ok_0_isReached, tG_of (List.mem_of_getElem? (i := 644) (by decide +kernel)) (by decide +kernel), by decide +kernel, by decide⟩
theorem ok_0_isSituation : MOK m0_isSituation := ⟨by decide +kernel, tG_of (List.mem_of_getElem? (i := 302) (by decide +kernel)) (by decide +kernel), tG_of (List.mem_of_getElem? (i := 69) (by decide +kernel)) (by decide +kernel), by decide +kernel, by decide +kernel⟩
theorem s_0_isSituation : Jvm.Cond.static (mY m0_isSituation) ∈ tG := tG_of (List.mem_of_getElem? (i := 301) (by decide +kernel)) (by decide +kernel)
theorem lk_X0_78 : Lk RX0 78 m0_isSituation 1 := ⟨ok_0_isSituation, tG_of (List.mem_of_getElem? (i := 300) (by decide +kernel)) (by decide +kernel), by decide +kernel, by decide⟩
theorem ok_0_wayLength : MOK m0_wayLength := ⟨by decide +kernel, tG_of (List.mem_of_getElem? (i := 656) (by decide +kernel)) (by decide +kernel), tG_of (List.mem_of_getElem? (i := 69) (by decide +kernel)) (by decide +kernel), by decide +kernel, by decide +kernel⟩
theorem v_0_wayLength : Jvm.Cond.instanceMethod (mY m0_wayLength) ∈ tG ∧ Jvm.Cond.selects (mY m0_wayLength).cls (mY m0_wayLength) (mY m0_wayLength) ∈ tG := ⟨tG_of (List.mem_of_getElem? (i := 654) (by decide +kernel)) (by decide +kernel), tG_of (List.mem_of_getElem? (i := 655) (by decide +kernel)) (by decide +kernel)⟩
theorem lk_X0_82 : Lk RX0 82 m0_wayLength 1 := ⟨ok_0_wayLength, tG_of (List.mem_of_getElem? (i := 665) (by decide +kernel)) (by decide +kernel), by decide +kernel, by decide⟩
theorem ok_1_comeFrom : MOK m1_comeFrom := ⟨by decide +kernel, tG_of (List.mem_of_getElem? (i := 256) (by decide +kernel)) (by decide +kernel), tG_of (List.mem_of_getElem? (i := 68) (by decide +kernel)) (by decide +kernel), by decide +kernel, by decide +kernel⟩
theorem v_1_comeFrom : Jvm.Cond.instanceMethod (mY m1_comeFrom) ∈ tG ∧ Jvm.Cond.selects (mY m1_comeFrom).cls (mY m1_comeFrom) (mY m1_comeFrom) ∈ tG := ⟨tG_of (List.mem_of_getElem? (i := 254) (by decide +kernel)) (by decide +kernel), tG_of (List.mem_of_getElem? (i := 255) (by decide +kernel)) (by decide +kernel)⟩
theorem lk_X0_85 : Lk RX0 85 m1_comeFrom 2 := ⟨ok_1_comeFrom, tG_of (List.mem_of_getElem? (i := 303) (by decide +kernel)) (by decide +kernel), by decide +kernel, by decide⟩
theorem f_X0_89 : FL RX0 89 1 0 := ⟨RX1, TX1, 4, rfl, by decide, inGX1, tG_of (List.mem_of_getElem? (i := 157) (by decide +kernel)) (by decide +kernel)⟩
theorem ok_3_shownKind : MOK m3_shownKind := ⟨by decide +kernel, tG_of (List.mem_of_getElem? (i := 307) (by decide +kernel)) (by decide +kernel), tG_of (List.mem_of_getElem? (i := 66) (by decide +kernel)) (by decide +kernel), by decide +kernel, by decide +kernel⟩
theorem v_3_shownKind : Jvm.Cond.instanceMethod (mY m3_shownKind) ∈ tG ∧ Jvm.Cond.selects (mY m3_shownKind).cls (mY m3_shownKind) (mY m3_shownKind) ∈ tG := ⟨tG_of (List.mem_of_getElem? (i := 305) (by decide +kernel)) (by decide +kernel), tG_of (List.mem_of_getElem? (i := 306) (by decide +kernel)) (by decide +kernel)⟩
theorem lk_X0_92 : Lk RX0 92 m3_shownKind 1 := ⟨ok_3_shownKind, tG_of (List.mem_of_getElem? (i := 304) (by decide +kernel)) (by decide +kernel), by decide +kernel, by decide⟩
theorem ok_0_arrive : MOK m0_arrive := ⟨by decide +kernel, tG_of (List.mem_of_getElem? (i := 311) (by decide +kernel)) (by decide +kernel), tG_of (List.mem_of_getElem? (i := 69) (by decide +kernel)) (by decide +kernel), by decide +kernel, by decide +kernel⟩
theorem v_0_arrive : Jvm.Cond.instanceMethod (mY m0_arrive) ∈ tG ∧ Jvm.Cond.selects (mY m0_arrive).cls (mY m0_arrive) (mY m0_arrive) ∈ tG := ⟨tG_of (List.mem_of_getElem? (i := 310) (by decide +kernel)) (by decide +kernel), tG_of (List.mem_of_getElem? (i := 6) (by decide +kernel)) (by decide +kernel)⟩
theorem lk_X0_95 : Lk RX0 95 m0_arrive 2 := ⟨ok_0_arrive, tG_of (List.mem_of_getElem? (i := 308) (by decide +kernel)) (by decide +kernel), by decide +kernel, by decide⟩
theorem ok_3_shownNumber : MOK m3_shownNumber := ⟨by decide +kernel, tG_of (List.mem_of_getElem? (i := 318) (by decide +kernel)) (by decide +kernel), tG_of (List.mem_of_getElem? (i := 66) (by decide +kernel)) (by decide +kernel), by decide +kernel, by decide +kernel⟩
theorem v_3_shownNumber : Jvm.Cond.instanceMethod (mY m3_shownNumber) ∈ tG ∧ Jvm.Cond.selects (mY m3_shownNumber).cls (mY m3_shownNumber) (mY m3_shownNumber) ∈ tG := ⟨tG_of (List.mem_of_getElem? (i := 316) (by decide +kernel)) (by decide +kernel), tG_of (List.mem_of_getElem? (i := 317) (by decide +kernel)) (by decide +kernel)⟩
theorem lk_X0_98 : Lk RX0 98 m3_shownNumber 1 := ⟨ok_3_shownNumber, tG_of (List.mem_of_getElem? (i := 315) (by decide +kernel)) (by decide +kernel), by decide +kernel, by decide⟩
theorem ok_5_endIndex : MOK m5_endIndex := ⟨by decide +kernel, tG_of (List.mem_of_getElem? (i := 322) (by decide +kernel)) (by decide +kernel), tG_of (List.mem_of_getElem? (i := 64) (by decide +kernel)) (by decide +kernel), by decide +kernel, by decide +kernel⟩
theorem s_5_endIndex : Jvm.Cond.static (mY m5_endIndex) ∈ tG := tG_of (List.mem_of_getElem? (i := 321) (by decide +kernel)) (by decide +kernel)
theorem oi_X1_3 : Jvm.Cond.methodLink RX1 3 objectInit ∈ tG := tG_of (List.mem_of_getElem? (i := 153) (by decide +kernel)) (by decide +kernel)
theorem f_X1_9 : FL RX1 9 1 2 := ⟨RX1, TX1, 4, rfl, by decide, inGX1, tG_of (List.mem_of_getElem? (i := 161) (by decide +kernel)) (by decide +kernel)⟩
theorem p_X1_X1_2 : FP RX1 1 2 (.array .int) true := ⟨RX1, TX1, 4, tyX1, rfl, tyX1_ok, nmX1, by decide +kernel, rfl, fun _ => rfl⟩
theorem f_X1_15 : FL RX1 15 1 3 := ⟨RX1, TX1, 4, rfl, by decide, inGX1, tG_of (List.mem_of_getElem? (i := 163) (by decide +kernel)) (by decide +kernel)⟩
theorem p_X1_X1_3 : FP RX1 1 3 (.array .int) true := ⟨RX1, TX1, 4, tyX1, rfl, tyX1_ok, nmX1, by decide +kernel, rfl, fun _ => rfl⟩
theorem f_X1_18 : FL RX1 18 1 0 := ⟨RX1, TX1, 4, rfl, by decide, inGX1, tG_of (List.mem_of_getElem? (i := 154) (by decide +kernel)) (by decide +kernel)⟩
theorem p_X1_X1_0 : FP RX1 1 0 .int false := ⟨RX1, TX1, 4, tyX1, rfl, tyX1_ok, nmX1, by decide +kernel, rfl, fun q => by cases q⟩
theorem f_X1_22 : FL RX1 22 1 1 := ⟨RX1, TX1, 4, rfl, by decide, inGX1, tG_of (List.mem_of_getElem? (i := 158) (by decide +kernel)) (by decide +kernel)⟩
theorem p_X1_X1_1 : FP RX1 1 1 .int false := ⟨RX1, TX1, 4, tyX1, rfl, tyX1_ok, nmX1, by decide +kernel, rfl, fun q => by cases q⟩
theorem lk_X1_25 : Lk RX1 25 mJ7_fill 2 := ⟨ok_J7_fill, tG_of (List.mem_of_getElem? (i := 250) (by decide +kernel)) (by decide +kernel), by decide +kernel, by decide⟩
theorem ac_X1_31 : Jvm.Cond.methodLink RX1 31 arraycopyName ∈ tG := tG_of (List.mem_of_getElem? (i := 566) (by decide +kernel)) (by decide +kernel)
theorem ok_3_isShown : MOK m3_isShown := ⟨by decide +kernel, tG_of (List.mem_of_getElem? (i := 260) (by decide +kernel)) (by decide +kernel), tG_of (List.mem_of_getElem? (i := 66) (by decide +kernel)) (by decide +kernel), by decide +kernel, by decide +kernel⟩
theorem v_3_isShown : Jvm.Cond.instanceMethod (mY m3_isShown) ∈ tG ∧ Jvm.Cond.selects (mY m3_isShown).cls (mY m3_isShown) (mY m3_isShown) ∈ tG := ⟨tG_of (List.mem_of_getElem? (i := 258) (by decide +kernel)) (by decide +kernel), tG_of (List.mem_of_getElem? (i := 259) (by decide +kernel)) (by decide +kernel)⟩
theorem lk_X1_37 : Lk RX1 37 m3_isShown 1 := ⟨ok_3_isShown, tG_of (List.mem_of_getElem? (i := 257) (by decide +kernel)) (by decide +kernel), by decide +kernel, by decide⟩
theorem ok_1_carryOut : MOK m1_carryOut := ⟨by decide +kernel, tG_of (List.mem_of_getElem? (i := 272) (by decide +kernel)) (by decide +kernel), tG_of (List.mem_of_getElem? (i := 68) (by decide +kernel)) (by decide +kernel), by decide +kernel, by decide +kernel⟩
theorem v_1_carryOut : Jvm.Cond.instanceMethod (mY m1_carryOut) ∈ tG ∧ Jvm.Cond.selects (mY m1_carryOut).cls (mY m1_carryOut) (mY m1_carryOut) ∈ tG := ⟨tG_of (List.mem_of_getElem? (i := 271) (by decide +kernel)) (by decide +kernel), tG_of (List.mem_of_getElem? (i := 1) (by decide +kernel)) (by decide +kernel)⟩
theorem lk_X1_43 : Lk RX1 43 m1_carryOut 2 := ⟨ok_1_carryOut, tG_of (List.mem_of_getElem? (i := 269) (by decide +kernel)) (by decide +kernel), by decide +kernel, by decide⟩
theorem ok_3_numberOf : MOK m3_numberOf := ⟨by decide +kernel, tG_of (List.mem_of_getElem? (i := 276) (by decide +kernel)) (by decide +kernel), tG_of (List.mem_of_getElem? (i := 66) (by decide +kernel)) (by decide +kernel), by decide +kernel, by decide +kernel⟩
theorem v_3_numberOf : Jvm.Cond.instanceMethod (mY m3_numberOf) ∈ tG ∧ Jvm.Cond.selects (mY m3_numberOf).cls (mY m3_numberOf) (mY m3_numberOf) ∈ tG := ⟨tG_of (List.mem_of_getElem? (i := 274) (by decide +kernel)) (by decide +kernel), tG_of (List.mem_of_getElem? (i := 275) (by decide +kernel)) (by decide +kernel)⟩
theorem lk_X1_47 : Lk RX1 47 m3_numberOf 2 := ⟨ok_3_numberOf, tG_of (List.mem_of_getElem? (i := 273) (by decide +kernel)) (by decide +kernel), by decide +kernel, by decide⟩
theorem ok_3_kindOf : MOK m3_kindOf := ⟨by decide +kernel, tG_of (List.mem_of_getElem? (i := 264) (by decide +kernel)) (by decide +kernel), tG_of (List.mem_of_getElem? (i := 66) (by decide +kernel)) (by decide +kernel), by decide +kernel, by decide +kernel⟩
theorem v_3_kindOf : Jvm.Cond.instanceMethod (mY m3_kindOf) ∈ tG ∧ Jvm.Cond.selects (mY m3_kindOf).cls (mY m3_kindOf) (mY m3_kindOf) ∈ tG := ⟨tG_of (List.mem_of_getElem? (i := 262) (by decide +kernel)) (by decide +kernel), tG_of (List.mem_of_getElem? (i := 263) (by decide +kernel)) (by decide +kernel)⟩
theorem lk_X1_51 : Lk RX1 51 m3_kindOf 1 := ⟨ok_3_kindOf, tG_of (List.mem_of_getElem? (i := 277) (by decide +kernel)) (by decide +kernel), by decide +kernel, by decide⟩
theorem ok_1_putAt : MOK m1_putAt := ⟨by decide +kernel, tG_of (List.mem_of_getElem? (i := 281) (by decide +kernel)) (by decide +kernel), tG_of (List.mem_of_getElem? (i := 68) (by decide +kernel)) (by decide +kernel), by decide +kernel, by decide +kernel⟩
theorem v_1_putAt : Jvm.Cond.instanceMethod (mY m1_putAt) ∈ tG ∧ Jvm.Cond.selects (mY m1_putAt).cls (mY m1_putAt) (mY m1_putAt) ∈ tG := ⟨tG_of (List.mem_of_getElem? (i := 280) (by decide +kernel)) (by decide +kernel), tG_of (List.mem_of_getElem? (i := 2) (by decide +kernel)) (by decide +kernel)⟩
theorem lk_X1_55 : Lk RX1 55 m1_putAt 3 := ⟨ok_1_putAt, tG_of (List.mem_of_getElem? (i := 278) (by decide +kernel)) (by decide +kernel), by decide +kernel, by decide⟩
theorem ok_1_hide : MOK m1_hide := ⟨by decide +kernel, tG_of (List.mem_of_getElem? (i := 285) (by decide +kernel)) (by decide +kernel), tG_of (List.mem_of_getElem? (i := 68) (by decide +kernel)) (by decide +kernel), by decide +kernel, by decide +kernel⟩
theorem v_1_hide : Jvm.Cond.instanceMethod (mY m1_hide) ∈ tG ∧ Jvm.Cond.selects (mY m1_hide).cls (mY m1_hide) (mY m1_hide) ∈ tG := ⟨tG_of (List.mem_of_getElem? (i := 284) (by decide +kernel)) (by decide +kernel), tG_of (List.mem_of_getElem? (i := 3) (by decide +kernel)) (by decide +kernel)⟩
theorem lk_X1_59 : Lk RX1 59 m1_hide 1 := ⟨ok_1_hide, tG_of (List.mem_of_getElem? (i := 282) (by decide +kernel)) (by decide +kernel), by decide +kernel, by decide⟩
theorem oi_X2_3 : Jvm.Cond.methodLink RX2 3 objectInit ∈ tG := tG_of (List.mem_of_getElem? (i := 146) (by decide +kernel)) (by decide +kernel)
theorem f_X2_11 : FL RX2 11 2 0 := ⟨RX2, TX2, 6, rfl, by decide, inGX2, tG_of (List.mem_of_getElem? (i := 175) (by decide +kernel)) (by decide +kernel)⟩
theorem p_X2_X2_0 : FP RX2 2 0 (.array (.object "PictureScript$Moment")) true := ⟨RX2, TX2, 6, tyX2, rfl, tyX2_ok, nmX2, by decide +kernel, rfl, fun _ => rfl⟩
theorem f_X2_17 : FL RX2 17 2 3 := ⟨RX2, TX2, 6, rfl, by decide, inGX2, tG_of (List.mem_of_getElem? (i := 180) (by decide +kernel)) (by decide +kernel)⟩
theorem p_X2_X2_3 : FP RX2 2 3 (.array (.object "PictureScript$Moment")) true := ⟨RX2, TX2, 6, tyX2, rfl, tyX2_ok, nmX2, by decide +kernel, rfl, fun _ => rfl⟩
theorem na_boolean : Jvm.Cond.arrayClass (tyF 2) ∈ tG := tG_of (List.mem_of_getElem? (i := 174) (by decide +kernel)) (by decide +kernel)
theorem f_X2_20 : FL RX2 20 2 4 := ⟨RX2, TX2, 6, rfl, by decide, inGX2, tG_of (List.mem_of_getElem? (i := 181) (by decide +kernel)) (by decide +kernel)⟩
theorem p_X2_X2_4 : FP RX2 2 4 (.array .boolean) true := ⟨RX2, TX2, 6, tyX2, rfl, tyX2_ok, nmX2, by decide +kernel, rfl, fun _ => rfl⟩
theorem f_X2_24 : FL RX2 24 2 5 := ⟨RX2, TX2, 6, rfl, by decide, inGX2, tG_of (List.mem_of_getElem? (i := 182) (by decide +kernel)) (by decide +kernel)⟩
theorem p_X2_X2_5 : FP RX2 2 5 (.array .boolean) true := ⟨RX2, TX2, 6, tyX2, rfl, tyX2_ok, nmX2, by decide +kernel, rfl, fun _ => rfl⟩
theorem f_X2_28 : FL RX2 28 2 2 := ⟨RX2, TX2, 6, rfl, by decide, inGX2, tG_of (List.mem_of_getElem? (i := 178) (by decide +kernel)) (by decide +kernel)⟩
theorem ok_2_startAnew : MOK m2_startAnew := ⟨by decide +kernel, tG_of (List.mem_of_getElem? (i := 237) (by decide +kernel)) (by decide +kernel), tG_of (List.mem_of_getElem? (i := 67) (by decide +kernel)) (by decide +kernel), by decide +kernel, by decide +kernel⟩
theorem v_2_startAnew : Jvm.Cond.instanceMethod (mY m2_startAnew) ∈ tG ∧ Jvm.Cond.selects (mY m2_startAnew).cls (mY m2_startAnew) (mY m2_startAnew) ∈ tG := ⟨tG_of (List.mem_of_getElem? (i := 235) (by decide +kernel)) (by decide +kernel), tG_of (List.mem_of_getElem? (i := 236) (by decide +kernel)) (by decide +kernel)⟩
theorem lk_X2_32 : Lk RX2 32 m2_startAnew 1 := ⟨ok_2_startAnew, tG_of (List.mem_of_getElem? (i := 234) (by decide +kernel)) (by decide +kernel), by decide +kernel, by decide⟩
theorem ok_2_keepOneMoment : MOK m2_keepOneMoment := ⟨by decide +kernel, tG_of (List.mem_of_getElem? (i := 241) (by decide +kernel)) (by decide +kernel), tG_of (List.mem_of_getElem? (i := 67) (by decide +kernel)) (by decide +kernel), by decide +kernel, by decide +kernel⟩
theorem v_2_keepOneMoment : Jvm.Cond.instanceMethod (mY m2_keepOneMoment) ∈ tG ∧ Jvm.Cond.selects (mY m2_keepOneMoment).cls (mY m2_keepOneMoment) (mY m2_keepOneMoment) ∈ tG := ⟨tG_of (List.mem_of_getElem? (i := 240) (by decide +kernel)) (by decide +kernel), tG_of (List.mem_of_getElem? (i := 0) (by decide +kernel)) (by decide +kernel)⟩
theorem lk_X2_36 : Lk RX2 36 m2_keepOneMoment 0 := ⟨ok_2_keepOneMoment, tG_of (List.mem_of_getElem? (i := 238) (by decide +kernel)) (by decide +kernel), by decide +kernel, by decide⟩
theorem ok_2_now : MOK m2_now := ⟨by decide +kernel, tG_of (List.mem_of_getElem? (i := 245) (by decide +kernel)) (by decide +kernel), tG_of (List.mem_of_getElem? (i := 67) (by decide +kernel)) (by decide +kernel), by decide +kernel, by decide +kernel⟩
theorem v_2_now : Jvm.Cond.instanceMethod (mY m2_now) ∈ tG ∧ Jvm.Cond.selects (mY m2_now).cls (mY m2_now) (mY m2_now) ∈ tG := ⟨tG_of (List.mem_of_getElem? (i := 243) (by decide +kernel)) (by decide +kernel), tG_of (List.mem_of_getElem? (i := 244) (by decide +kernel)) (by decide +kernel)⟩
theorem lk_X2_39 : Lk RX2 39 m2_now 0 := ⟨ok_2_now, tG_of (List.mem_of_getElem? (i := 242) (by decide +kernel)) (by decide +kernel), by decide +kernel, by decide⟩
theorem lk_X2_43 : Lk RX2 43 m1_makeEmpty 0 := ⟨ok_1_makeEmpty, tG_of (List.mem_of_getElem? (i := 246) (by decide +kernel)) (by decide +kernel), by decide +kernel, by decide⟩
theorem lk_X2_46 : Lk RX2 46 m1_comeFrom 2 := ⟨ok_1_comeFrom, tG_of (List.mem_of_getElem? (i := 253) (by decide +kernel)) (by decide +kernel), by decide +kernel, by decide⟩
theorem f_X2_50 : FL RX2 50 1 0 := ⟨RX1, TX1, 4, rfl, by decide, inGX1, tG_of (List.mem_of_getElem? (i := 155) (by decide +kernel)) (by decide +kernel)⟩
theorem ok_2_see : MOK m2_see := ⟨by decide +kernel, tG_of (List.mem_of_getElem? (i := 289) (by decide +kernel)) (by decide +kernel), tG_of (List.mem_of_getElem? (i := 67) (by decide +kernel)) (by decide +kernel), by decide +kernel, by decide +kernel⟩
theorem v_2_see : Jvm.Cond.instanceMethod (mY m2_see) ∈ tG ∧ Jvm.Cond.selects (mY m2_see).cls (mY m2_see) (mY m2_see) ∈ tG := ⟨tG_of (List.mem_of_getElem? (i := 288) (by decide +kernel)) (by decide +kernel), tG_of (List.mem_of_getElem? (i := 4) (by decide +kernel)) (by decide +kernel)⟩
theorem lk_X2_53 : Lk RX2 53 m2_see 1 := ⟨ok_2_see, tG_of (List.mem_of_getElem? (i := 286) (by decide +kernel)) (by decide +kernel), by decide +kernel, by decide⟩
theorem p_X2_X2_2 : FP RX2 2 2 .int false := ⟨RX2, TX2, 6, tyX2, rfl, tyX2_ok, nmX2, by decide +kernel, rfl, fun q => by cases q⟩
theorem ok_2_forgetEarliest : MOK m2_forgetEarliest := ⟨by decide +kernel, tG_of (List.mem_of_getElem? (i := 561) (by decide +kernel)) (by decide +kernel), tG_of (List.mem_of_getElem? (i := 67) (by decide +kernel)) (by decide +kernel), by decide +kernel, by decide +kernel⟩
theorem v_2_forgetEarliest : Jvm.Cond.instanceMethod (mY m2_forgetEarliest) ∈ tG ∧ Jvm.Cond.selects (mY m2_forgetEarliest).cls (mY m2_forgetEarliest) (mY m2_forgetEarliest) ∈ tG := ⟨tG_of (List.mem_of_getElem? (i := 560) (by decide +kernel)) (by decide +kernel), tG_of (List.mem_of_getElem? (i := 23) (by decide +kernel)) (by decide +kernel)⟩
theorem lk_X2_57 : Lk RX2 57 m2_forgetEarliest 0 := ⟨ok_2_forgetEarliest, tG_of (List.mem_of_getElem? (i := 558) (by decide +kernel)) (by decide +kernel), by decide +kernel, by decide⟩
theorem f_X2_60 : FL RX2 60 2 1 := ⟨RX2, TX2, 6, rfl, by decide, inGX2, tG_of (List.mem_of_getElem? (i := 176) (by decide +kernel)) (by decide +kernel)⟩
theorem p_X2_X2_1 : FP RX2 2 1 .int false := ⟨RX2, TX2, 6, tyX2, rfl, tyX2_ok, nmX2, by decide +kernel, rfl, fun q => by cases q⟩
theorem ok_1_makeLike : MOK m1_makeLike := ⟨by decide +kernel, tG_of (List.mem_of_getElem? (i := 565) (by decide +kernel)) (by decide +kernel), tG_of (List.mem_of_getElem? (i := 68) (by decide +kernel)) (by decide +kernel), by decide +kernel, by decide +kernel⟩
theorem v_1_makeLike : Jvm.Cond.instanceMethod (mY m1_makeLike) ∈ tG ∧ Jvm.Cond.selects (mY m1_makeLike).cls (mY m1_makeLike) (mY m1_makeLike) ∈ tG := ⟨tG_of (List.mem_of_getElem? (i := 563) (by decide +kernel)) (by decide +kernel), tG_of (List.mem_of_getElem? (i := 564) (by decide +kernel)) (by decide +kernel)⟩
theorem lk_X2_63 : Lk RX2 63 m1_makeLike 1 := ⟨ok_1_makeLike, tG_of (List.mem_of_getElem? (i := 562) (by decide +kernel)) (by decide +kernel), by decide +kernel, by decide⟩
theorem oi_X3_3 : Jvm.Cond.methodLink RX3 3 objectInit ∈ tG := tG_of (List.mem_of_getElem? (i := 98) (by decide +kernel)) (by decide +kernel)
theorem f_X3_9 : FL RX3 9 3 1 := ⟨RX3, TX3, 6, rfl, by decide, inGX3, tG_of (List.mem_of_getElem? (i := 101) (by decide +kernel)) (by decide +kernel)⟩
theorem p_X3_X3_1 : FP RX3 3 1 (.array .int) true := ⟨RX3, TX3, 6, tyX3, rfl, tyX3_ok, nmX3, by decide +kernel, rfl, fun _ => rfl⟩
theorem f_X3_15 : FL RX3 15 3 2 := ⟨RX3, TX3, 6, rfl, by decide, inGX3, tG_of (List.mem_of_getElem? (i := 102) (by decide +kernel)) (by decide +kernel)⟩
theorem p_X3_X3_2 : FP RX3 3 2 (.array .int) true := ⟨RX3, TX3, 6, tyX3, rfl, tyX3_ok, nmX3, by decide +kernel, rfl, fun _ => rfl⟩
theorem f_X3_18 : FL RX3 18 3 3 := ⟨RX3, TX3, 6, rfl, by decide, inGX3, tG_of (List.mem_of_getElem? (i := 103) (by decide +kernel)) (by decide +kernel)⟩
theorem p_X3_X3_3 : FP RX3 3 3 (.array .int) true := ⟨RX3, TX3, 6, tyX3, rfl, tyX3_ok, nmX3, by decide +kernel, rfl, fun _ => rfl⟩
theorem f_X3_21 : FL RX3 21 3 4 := ⟨RX3, TX3, 6, rfl, by decide, inGX3, tG_of (List.mem_of_getElem? (i := 104) (by decide +kernel)) (by decide +kernel)⟩
theorem p_X3_X3_4 : FP RX3 3 4 (.array .int) true := ⟨RX3, TX3, 6, tyX3, rfl, tyX3_ok, nmX3, by decide +kernel, rfl, fun _ => rfl⟩
theorem f_X3_24 : FL RX3 24 3 5 := ⟨RX3, TX3, 6, rfl, by decide, inGX3, tG_of (List.mem_of_getElem? (i := 105) (by decide +kernel)) (by decide +kernel)⟩
theorem p_X3_X3_5 : FP RX3 3 5 (.array .int) true := ⟨RX3, TX3, 6, tyX3, rfl, tyX3_ok, nmX3, by decide +kernel, rfl, fun _ => rfl⟩
theorem f_X3_27 : FL RX3 27 3 0 := ⟨RX3, TX3, 6, rfl, by decide, inGX3, tG_of (List.mem_of_getElem? (i := 99) (by decide +kernel)) (by decide +kernel)⟩
theorem p_X3_X3_0 : FP RX3 3 0 .int false := ⟨RX3, TX3, 6, tyX3, rfl, tyX3_ok, nmX3, by decide +kernel, rfl, fun q => by cases q⟩
theorem ok_3_has : MOK m3_has := ⟨by decide +kernel, tG_of (List.mem_of_getElem? (i := 268) (by decide +kernel)) (by decide +kernel), tG_of (List.mem_of_getElem? (i := 66) (by decide +kernel)) (by decide +kernel), by decide +kernel, by decide +kernel⟩
theorem v_3_has : Jvm.Cond.instanceMethod (mY m3_has) ∈ tG ∧ Jvm.Cond.selects (mY m3_has).cls (mY m3_has) (mY m3_has) ∈ tG := ⟨tG_of (List.mem_of_getElem? (i := 266) (by decide +kernel)) (by decide +kernel), tG_of (List.mem_of_getElem? (i := 267) (by decide +kernel)) (by decide +kernel)⟩
theorem lk_X3_31 : Lk RX3 31 m3_has 1 := ⟨ok_3_has, tG_of (List.mem_of_getElem? (i := 265) (by decide +kernel)) (by decide +kernel), by decide +kernel, by decide⟩
theorem ok_3_optionsOf : MOK m3_optionsOf := ⟨by decide +kernel, tG_of (List.mem_of_getElem? (i := 333) (by decide +kernel)) (by decide +kernel), tG_of (List.mem_of_getElem? (i := 66) (by decide +kernel)) (by decide +kernel), by decide +kernel, by decide +kernel⟩
theorem v_3_optionsOf : Jvm.Cond.instanceMethod (mY m3_optionsOf) ∈ tG ∧ Jvm.Cond.selects (mY m3_optionsOf).cls (mY m3_optionsOf) (mY m3_optionsOf) ∈ tG := ⟨tG_of (List.mem_of_getElem? (i := 331) (by decide +kernel)) (by decide +kernel), tG_of (List.mem_of_getElem? (i := 332) (by decide +kernel)) (by decide +kernel)⟩
theorem lk_X3_35 : Lk RX3 35 m3_optionsOf 1 := ⟨ok_3_optionsOf, tG_of (List.mem_of_getElem? (i := 330) (by decide +kernel)) (by decide +kernel), by decide +kernel, by decide⟩
theorem lk_X3_39 : Lk RX3 39 m3_optionPart 3 := ⟨ok_3_optionPart, tG_of (List.mem_of_getElem? (i := 334) (by decide +kernel)) (by decide +kernel), by decide +kernel, by decide⟩
theorem lk_X3_43 : Lk RX3 43 m3_kindOf 1 := ⟨ok_3_kindOf, tG_of (List.mem_of_getElem? (i := 261) (by decide +kernel)) (by decide +kernel), by decide +kernel, by decide⟩
theorem lk_X3_46 : Lk RX3 46 m3_isOpen 3 := ⟨ok_3_isOpen, tG_of (List.mem_of_getElem? (i := 621) (by decide +kernel)) (by decide +kernel), by decide +kernel, by decide⟩
theorem lk_X3_50 : Lk RX3 50 m3_numberOf 2 := ⟨ok_3_numberOf, tG_of (List.mem_of_getElem? (i := 319) (by decide +kernel)) (by decide +kernel), by decide +kernel, by decide⟩
theorem oi_X4_3 : Jvm.Cond.methodLink RX4 3 objectInit ∈ tG := tG_of (List.mem_of_getElem? (i := 92) (by decide +kernel)) (by decide +kernel)
theorem na_byte : Jvm.Cond.arrayClass (tyF 1) ∈ tG := tG_of (List.mem_of_getElem? (i := 119) (by decide +kernel)) (by decide +kernel)
theorem f_X4_9 : FL RX4 9 4 1 := ⟨RX4, TX4, 5, rfl, by decide, inGX4, tG_of (List.mem_of_getElem? (i := 123) (by decide +kernel)) (by decide +kernel)⟩
theorem p_X4_X4_1 : FP RX4 4 1 (.array .byte) true := ⟨RX4, TX4, 5, tyX4, rfl, tyX4_ok, nmX4, by decide +kernel, rfl, fun _ => rfl⟩
theorem nw_X3 : (∀ j, j < 6 → ([vI 0, vN, vN, vN, vN, vN] : List AV)[j]? = some (dfv (tyX3 j)) ∧ ∀ G : GD, cv G (dfv (tyX3 j)) = defaultValue (tyX3 j)) ∧ (∀ v ∈ ([vI 0, vN, vN, vN, vN, vN] : List AV), vok v) := by
  refine ⟨fun j hj => ?_, fun v hv => ?_⟩
  · rcases (by omega : j = 0 ∨ j = 1 ∨ j = 2 ∨ j = 3 ∨ j = 4 ∨ j = 5) with rfl | rfl | rfl | rfl | rfl | rfl <;> exact ⟨rfl, fun G => rfl⟩
  · simp only [List.mem_cons, List.not_mem_nil, or_false] at hv
    rcases hv with rfl | rfl | rfl | rfl | rfl | rfl <;> first | trivial | (exact ⟨by decide, by decide⟩)
theorem ok_3_init : MOK m3_init := ⟨by decide +kernel, tG_of (List.mem_of_getElem? (i := 97) (by decide +kernel)) (by decide +kernel), tG_of (List.mem_of_getElem? (i := 66) (by decide +kernel)) (by decide +kernel), by decide +kernel, by decide +kernel⟩
theorem i_3_init : Jvm.Cond.instanceMethod (mY m3_init) ∈ tG := tG_of (List.mem_of_getElem? (i := 96) (by decide +kernel)) (by decide +kernel)
theorem f_X4_18 : FL RX4 18 4 2 := ⟨RX4, TX4, 5, rfl, by decide, inGX4, tG_of (List.mem_of_getElem? (i := 124) (by decide +kernel)) (by decide +kernel)⟩
theorem p_X4_X4_2 : FP RX4 4 2 (.object "PictureScript$Script") false := ⟨RX4, TX4, 5, tyX4, rfl, tyX4_ok, nmX4, by decide +kernel, rfl, fun q => by cases q⟩
theorem f_X4_22 : FL RX4 22 4 0 := ⟨RX4, TX4, 5, rfl, by decide, inGX4, tG_of (List.mem_of_getElem? (i := 121) (by decide +kernel)) (by decide +kernel)⟩
theorem p_X4_X4_0 : FP RX4 4 0 .int false := ⟨RX4, TX4, 5, tyX4, rfl, tyX4_ok, nmX4, by decide +kernel, rfl, fun q => by cases q⟩
theorem f_X4_26 : FL RX4 26 4 3 := ⟨RX4, TX4, 5, rfl, by decide, inGX4, tG_of (List.mem_of_getElem? (i := 126) (by decide +kernel)) (by decide +kernel)⟩
theorem p_X4_X4_3 : FP RX4 4 3 .int false := ⟨RX4, TX4, 5, tyX4, rfl, tyX4_ok, nmX4, by decide +kernel, rfl, fun q => by cases q⟩
theorem ok_3_clear : MOK m3_clear := ⟨by decide +kernel, tG_of (List.mem_of_getElem? (i := 375) (by decide +kernel)) (by decide +kernel), tG_of (List.mem_of_getElem? (i := 66) (by decide +kernel)) (by decide +kernel), by decide +kernel, by decide +kernel⟩
theorem v_3_clear : Jvm.Cond.instanceMethod (mY m3_clear) ∈ tG ∧ Jvm.Cond.selects (mY m3_clear).cls (mY m3_clear) (mY m3_clear) ∈ tG := ⟨tG_of (List.mem_of_getElem? (i := 373) (by decide +kernel)) (by decide +kernel), tG_of (List.mem_of_getElem? (i := 374) (by decide +kernel)) (by decide +kernel)⟩
theorem lk_X4_29 : Lk RX4 29 m3_clear 0 := ⟨ok_3_clear, tG_of (List.mem_of_getElem? (i := 372) (by decide +kernel)) (by decide +kernel), by decide +kernel, by decide⟩
theorem ok_4_skipBlanks : MOK m4_skipBlanks := ⟨by decide +kernel, tG_of (List.mem_of_getElem? (i := 379) (by decide +kernel)) (by decide +kernel), tG_of (List.mem_of_getElem? (i := 65) (by decide +kernel)) (by decide +kernel), by decide +kernel, by decide +kernel⟩
theorem v_4_skipBlanks : Jvm.Cond.instanceMethod (mY m4_skipBlanks) ∈ tG ∧ Jvm.Cond.selects (mY m4_skipBlanks).cls (mY m4_skipBlanks) (mY m4_skipBlanks) ∈ tG := ⟨tG_of (List.mem_of_getElem? (i := 378) (by decide +kernel)) (by decide +kernel), tG_of (List.mem_of_getElem? (i := 7) (by decide +kernel)) (by decide +kernel)⟩
theorem lk_X4_32 : Lk RX4 32 m4_skipBlanks 0 := ⟨ok_4_skipBlanks, tG_of (List.mem_of_getElem? (i := 376) (by decide +kernel)) (by decide +kernel), by decide +kernel, by decide⟩
theorem ok_4_isAtEnd : MOK m4_isAtEnd := ⟨by decide +kernel, tG_of (List.mem_of_getElem? (i := 387) (by decide +kernel)) (by decide +kernel), tG_of (List.mem_of_getElem? (i := 65) (by decide +kernel)) (by decide +kernel), by decide +kernel, by decide +kernel⟩
theorem v_4_isAtEnd : Jvm.Cond.instanceMethod (mY m4_isAtEnd) ∈ tG ∧ Jvm.Cond.selects (mY m4_isAtEnd).cls (mY m4_isAtEnd) (mY m4_isAtEnd) ∈ tG := ⟨tG_of (List.mem_of_getElem? (i := 386) (by decide +kernel)) (by decide +kernel), tG_of (List.mem_of_getElem? (i := 9) (by decide +kernel)) (by decide +kernel)⟩
theorem lk_X4_35 : Lk RX4 35 m4_isAtEnd 0 := ⟨ok_4_isAtEnd, tG_of (List.mem_of_getElem? (i := 384) (by decide +kernel)) (by decide +kernel), by decide +kernel, by decide⟩
theorem ok_4_takeNode : MOK m4_takeNode := ⟨by decide +kernel, tG_of (List.mem_of_getElem? (i := 391) (by decide +kernel)) (by decide +kernel), tG_of (List.mem_of_getElem? (i := 65) (by decide +kernel)) (by decide +kernel), by decide +kernel, by decide +kernel⟩
theorem v_4_takeNode : Jvm.Cond.instanceMethod (mY m4_takeNode) ∈ tG ∧ Jvm.Cond.selects (mY m4_takeNode).cls (mY m4_takeNode) (mY m4_takeNode) ∈ tG := ⟨tG_of (List.mem_of_getElem? (i := 390) (by decide +kernel)) (by decide +kernel), tG_of (List.mem_of_getElem? (i := 10) (by decide +kernel)) (by decide +kernel)⟩
theorem lk_X4_39 : Lk RX4 39 m4_takeNode 0 := ⟨ok_4_takeNode, tG_of (List.mem_of_getElem? (i := 388) (by decide +kernel)) (by decide +kernel), by decide +kernel, by decide⟩
theorem ok_4_takeSign : MOK m4_takeSign := ⟨by decide +kernel, tG_of (List.mem_of_getElem? (i := 518) (by decide +kernel)) (by decide +kernel), tG_of (List.mem_of_getElem? (i := 65) (by decide +kernel)) (by decide +kernel), by decide +kernel, by decide +kernel⟩
theorem v_4_takeSign : Jvm.Cond.instanceMethod (mY m4_takeSign) ∈ tG ∧ Jvm.Cond.selects (mY m4_takeSign).cls (mY m4_takeSign) (mY m4_takeSign) ∈ tG := ⟨tG_of (List.mem_of_getElem? (i := 517) (by decide +kernel)) (by decide +kernel), tG_of (List.mem_of_getElem? (i := 18) (by decide +kernel)) (by decide +kernel)⟩
theorem lk_X4_42 : Lk RX4 42 m4_takeSign 1 := ⟨ok_4_takeSign, tG_of (List.mem_of_getElem? (i := 515) (by decide +kernel)) (by decide +kernel), by decide +kernel, by decide⟩
theorem ok_4_here : MOK m4_here := ⟨by decide +kernel, tG_of (List.mem_of_getElem? (i := 383) (by decide +kernel)) (by decide +kernel), tG_of (List.mem_of_getElem? (i := 65) (by decide +kernel)) (by decide +kernel), by decide +kernel, by decide +kernel⟩
theorem v_4_here : Jvm.Cond.instanceMethod (mY m4_here) ∈ tG ∧ Jvm.Cond.selects (mY m4_here).cls (mY m4_here) (mY m4_here) ∈ tG := ⟨tG_of (List.mem_of_getElem? (i := 382) (by decide +kernel)) (by decide +kernel), tG_of (List.mem_of_getElem? (i := 8) (by decide +kernel)) (by decide +kernel)⟩
theorem lk_X4_48 : Lk RX4 48 m4_here 0 := ⟨ok_4_here, tG_of (List.mem_of_getElem? (i := 380) (by decide +kernel)) (by decide +kernel), by decide +kernel, by decide⟩
theorem ok_3_addNode : MOK m3_addNode := ⟨by decide +kernel, tG_of (List.mem_of_getElem? (i := 482) (by decide +kernel)) (by decide +kernel), tG_of (List.mem_of_getElem? (i := 66) (by decide +kernel)) (by decide +kernel), by decide +kernel, by decide +kernel⟩
theorem v_3_addNode : Jvm.Cond.instanceMethod (mY m3_addNode) ∈ tG ∧ Jvm.Cond.selects (mY m3_addNode).cls (mY m3_addNode) (mY m3_addNode) ∈ tG := ⟨tG_of (List.mem_of_getElem? (i := 480) (by decide +kernel)) (by decide +kernel), tG_of (List.mem_of_getElem? (i := 481) (by decide +kernel)) (by decide +kernel)⟩
theorem lk_X4_58 : Lk RX4 58 m3_addNode 1 := ⟨ok_3_addNode, tG_of (List.mem_of_getElem? (i := 479) (by decide +kernel)) (by decide +kernel), by decide +kernel, by decide⟩
theorem ok_4_addVoice : MOK m4_addVoice := ⟨by decide +kernel, tG_of (List.mem_of_getElem? (i := 486) (by decide +kernel)) (by decide +kernel), tG_of (List.mem_of_getElem? (i := 65) (by decide +kernel)) (by decide +kernel), by decide +kernel, by decide +kernel⟩
theorem v_4_addVoice : Jvm.Cond.instanceMethod (mY m4_addVoice) ∈ tG ∧ Jvm.Cond.selects (mY m4_addVoice).cls (mY m4_addVoice) (mY m4_addVoice) ∈ tG := ⟨tG_of (List.mem_of_getElem? (i := 485) (by decide +kernel)) (by decide +kernel), tG_of (List.mem_of_getElem? (i := 11) (by decide +kernel)) (by decide +kernel)⟩
theorem lk_X4_62 : Lk RX4 62 m4_addVoice 0 := ⟨ok_4_addVoice, tG_of (List.mem_of_getElem? (i := 483) (by decide +kernel)) (by decide +kernel), by decide +kernel, by decide⟩
theorem ok_4_addNumber : MOK m4_addNumber := ⟨by decide +kernel, tG_of (List.mem_of_getElem? (i := 494) (by decide +kernel)) (by decide +kernel), tG_of (List.mem_of_getElem? (i := 65) (by decide +kernel)) (by decide +kernel), by decide +kernel, by decide +kernel⟩
theorem v_4_addNumber : Jvm.Cond.instanceMethod (mY m4_addNumber) ∈ tG ∧ Jvm.Cond.selects (mY m4_addNumber).cls (mY m4_addNumber) (mY m4_addNumber) ∈ tG := ⟨tG_of (List.mem_of_getElem? (i := 493) (by decide +kernel)) (by decide +kernel), tG_of (List.mem_of_getElem? (i := 12) (by decide +kernel)) (by decide +kernel)⟩
theorem lk_X4_65 : Lk RX4 65 m4_addNumber 1 := ⟨ok_4_addNumber, tG_of (List.mem_of_getElem? (i := 491) (by decide +kernel)) (by decide +kernel), by decide +kernel, by decide⟩
theorem ok_4_addDigit : MOK m4_addDigit := ⟨by decide +kernel, tG_of (List.mem_of_getElem? (i := 506) (by decide +kernel)) (by decide +kernel), tG_of (List.mem_of_getElem? (i := 65) (by decide +kernel)) (by decide +kernel), by decide +kernel, by decide +kernel⟩
theorem v_4_addDigit : Jvm.Cond.instanceMethod (mY m4_addDigit) ∈ tG ∧ Jvm.Cond.selects (mY m4_addDigit).cls (mY m4_addDigit) (mY m4_addDigit) ∈ tG := ⟨tG_of (List.mem_of_getElem? (i := 505) (by decide +kernel)) (by decide +kernel), tG_of (List.mem_of_getElem? (i := 15) (by decide +kernel)) (by decide +kernel)⟩
theorem lk_X4_69 : Lk RX4 69 m4_addDigit 1 := ⟨ok_4_addDigit, tG_of (List.mem_of_getElem? (i := 503) (by decide +kernel)) (by decide +kernel), by decide +kernel, by decide⟩
theorem ok_4_addPlusOrMinus : MOK m4_addPlusOrMinus := ⟨by decide +kernel, tG_of (List.mem_of_getElem? (i := 514) (by decide +kernel)) (by decide +kernel), tG_of (List.mem_of_getElem? (i := 65) (by decide +kernel)) (by decide +kernel), by decide +kernel, by decide +kernel⟩
theorem v_4_addPlusOrMinus : Jvm.Cond.instanceMethod (mY m4_addPlusOrMinus) ∈ tG ∧ Jvm.Cond.selects (mY m4_addPlusOrMinus).cls (mY m4_addPlusOrMinus) (mY m4_addPlusOrMinus) ∈ tG := ⟨tG_of (List.mem_of_getElem? (i := 513) (by decide +kernel)) (by decide +kernel), tG_of (List.mem_of_getElem? (i := 17) (by decide +kernel)) (by decide +kernel)⟩
theorem lk_X4_72 : Lk RX4 72 m4_addPlusOrMinus 0 := ⟨ok_4_addPlusOrMinus, tG_of (List.mem_of_getElem? (i := 511) (by decide +kernel)) (by decide +kernel), by decide +kernel, by decide⟩
theorem ok_4_takeOptions : MOK m4_takeOptions := ⟨by decide +kernel, tG_of (List.mem_of_getElem? (i := 522) (by decide +kernel)) (by decide +kernel), tG_of (List.mem_of_getElem? (i := 65) (by decide +kernel)) (by decide +kernel), by decide +kernel, by decide +kernel⟩
theorem v_4_takeOptions : Jvm.Cond.instanceMethod (mY m4_takeOptions) ∈ tG ∧ Jvm.Cond.selects (mY m4_takeOptions).cls (mY m4_takeOptions) (mY m4_takeOptions) ∈ tG := ⟨tG_of (List.mem_of_getElem? (i := 521) (by decide +kernel)) (by decide +kernel), tG_of (List.mem_of_getElem? (i := 19) (by decide +kernel)) (by decide +kernel)⟩
theorem lk_X4_75 : Lk RX4 75 m4_takeOptions 0 := ⟨ok_4_takeOptions, tG_of (List.mem_of_getElem? (i := 519) (by decide +kernel)) (by decide +kernel), by decide +kernel, by decide⟩
theorem ok_4_takeOption : MOK m4_takeOption := ⟨by decide +kernel, tG_of (List.mem_of_getElem? (i := 526) (by decide +kernel)) (by decide +kernel), tG_of (List.mem_of_getElem? (i := 65) (by decide +kernel)) (by decide +kernel), by decide +kernel, by decide +kernel⟩
theorem v_4_takeOption : Jvm.Cond.instanceMethod (mY m4_takeOption) ∈ tG ∧ Jvm.Cond.selects (mY m4_takeOption).cls (mY m4_takeOption) (mY m4_takeOption) ∈ tG := ⟨tG_of (List.mem_of_getElem? (i := 525) (by decide +kernel)) (by decide +kernel), tG_of (List.mem_of_getElem? (i := 20) (by decide +kernel)) (by decide +kernel)⟩
theorem lk_X4_78 : Lk RX4 78 m4_takeOption 0 := ⟨ok_4_takeOption, tG_of (List.mem_of_getElem? (i := 523) (by decide +kernel)) (by decide +kernel), by decide +kernel, by decide⟩
theorem ok_4_takeNumber : MOK m4_takeNumber := ⟨by decide +kernel, tG_of (List.mem_of_getElem? (i := 498) (by decide +kernel)) (by decide +kernel), tG_of (List.mem_of_getElem? (i := 65) (by decide +kernel)) (by decide +kernel), by decide +kernel, by decide +kernel⟩
theorem v_4_takeNumber : Jvm.Cond.instanceMethod (mY m4_takeNumber) ∈ tG ∧ Jvm.Cond.selects (mY m4_takeNumber).cls (mY m4_takeNumber) (mY m4_takeNumber) ∈ tG := ⟨tG_of (List.mem_of_getElem? (i := 497) (by decide +kernel)) (by decide +kernel), tG_of (List.mem_of_getElem? (i := 13) (by decide +kernel)) (by decide +kernel)⟩
theorem lk_X4_81 : Lk RX4 81 m4_takeNumber 1 := ⟨ok_4_takeNumber, tG_of (List.mem_of_getElem? (i := 495) (by decide +kernel)) (by decide +kernel), by decide +kernel, by decide⟩
theorem f_X4_84 : FL RX4 84 4 4 := ⟨RX4, TX4, 5, rfl, by decide, inGX4, tG_of (List.mem_of_getElem? (i := 127) (by decide +kernel)) (by decide +kernel)⟩
theorem ok_3_addOption : MOK m3_addOption := ⟨by decide +kernel, tG_of (List.mem_of_getElem? (i := 530) (by decide +kernel)) (by decide +kernel), tG_of (List.mem_of_getElem? (i := 66) (by decide +kernel)) (by decide +kernel), by decide +kernel, by decide +kernel⟩
theorem v_3_addOption : Jvm.Cond.instanceMethod (mY m3_addOption) ∈ tG ∧ Jvm.Cond.selects (mY m3_addOption).cls (mY m3_addOption) (mY m3_addOption) ∈ tG := ⟨tG_of (List.mem_of_getElem? (i := 528) (by decide +kernel)) (by decide +kernel), tG_of (List.mem_of_getElem? (i := 529) (by decide +kernel)) (by decide +kernel)⟩
theorem lk_X4_87 : Lk RX4 87 m3_addOption 3 := ⟨ok_3_addOption, tG_of (List.mem_of_getElem? (i := 527) (by decide +kernel)) (by decide +kernel), by decide +kernel, by decide⟩
theorem ok_4_takeDigit : MOK m4_takeDigit := ⟨by decide +kernel, tG_of (List.mem_of_getElem? (i := 510) (by decide +kernel)) (by decide +kernel), tG_of (List.mem_of_getElem? (i := 65) (by decide +kernel)) (by decide +kernel), by decide +kernel, by decide +kernel⟩
theorem v_4_takeDigit : Jvm.Cond.instanceMethod (mY m4_takeDigit) ∈ tG ∧ Jvm.Cond.selects (mY m4_takeDigit).cls (mY m4_takeDigit) (mY m4_takeDigit) ∈ tG := ⟨tG_of (List.mem_of_getElem? (i := 509) (by decide +kernel)) (by decide +kernel), tG_of (List.mem_of_getElem? (i := 16) (by decide +kernel)) (by decide +kernel)⟩
theorem lk_X4_91 : Lk RX4 91 m4_takeDigit 1 := ⟨ok_4_takeDigit, tG_of (List.mem_of_getElem? (i := 507) (by decide +kernel)) (by decide +kernel), by decide +kernel, by decide⟩
theorem ok_3_addNumber : MOK m3_addNumber := ⟨by decide +kernel, tG_of (List.mem_of_getElem? (i := 490) (by decide +kernel)) (by decide +kernel), tG_of (List.mem_of_getElem? (i := 66) (by decide +kernel)) (by decide +kernel), by decide +kernel, by decide +kernel⟩
theorem v_3_addNumber : Jvm.Cond.instanceMethod (mY m3_addNumber) ∈ tG ∧ Jvm.Cond.selects (mY m3_addNumber).cls (mY m3_addNumber) (mY m3_addNumber) ∈ tG := ⟨tG_of (List.mem_of_getElem? (i := 488) (by decide +kernel)) (by decide +kernel), tG_of (List.mem_of_getElem? (i := 489) (by decide +kernel)) (by decide +kernel)⟩
theorem lk_X4_94 : Lk RX4 94 m3_addNumber 1 := ⟨ok_3_addNumber, tG_of (List.mem_of_getElem? (i := 487) (by decide +kernel)) (by decide +kernel), by decide +kernel, by decide⟩
theorem p_X4_X4_4 : FP RX4 4 4 .int false := ⟨RX4, TX4, 5, tyX4, rfl, tyX4_ok, nmX4, by decide +kernel, rfl, fun q => by cases q⟩
theorem ok_4_isAtDigit : MOK m4_isAtDigit := ⟨by decide +kernel, tG_of (List.mem_of_getElem? (i := 502) (by decide +kernel)) (by decide +kernel), tG_of (List.mem_of_getElem? (i := 65) (by decide +kernel)) (by decide +kernel), by decide +kernel, by decide +kernel⟩
theorem v_4_isAtDigit : Jvm.Cond.instanceMethod (mY m4_isAtDigit) ∈ tG ∧ Jvm.Cond.selects (mY m4_isAtDigit).cls (mY m4_isAtDigit) (mY m4_isAtDigit) ∈ tG := ⟨tG_of (List.mem_of_getElem? (i := 501) (by decide +kernel)) (by decide +kernel), tG_of (List.mem_of_getElem? (i := 14) (by decide +kernel)) (by decide +kernel)⟩
theorem lk_X4_96 : Lk RX4 96 m4_isAtDigit 0 := ⟨ok_4_isAtDigit, tG_of (List.mem_of_getElem? (i := 499) (by decide +kernel)) (by decide +kernel), by decide +kernel, by decide⟩
theorem oi_X5_3 : Jvm.Cond.methodLink RX5 3 objectInit ∈ tG := tG_of (List.mem_of_getElem? (i := 84) (by decide +kernel)) (by decide +kernel)
theorem nw_X4 : (∀ j, j < 5 → ([vI 0, vN, vN, vI 0, vI 0] : List AV)[j]? = some (dfv (tyX4 j)) ∧ ∀ G : GD, cv G (dfv (tyX4 j)) = defaultValue (tyX4 j)) ∧ (∀ v ∈ ([vI 0, vN, vN, vI 0, vI 0] : List AV), vok v) := by
  refine ⟨fun j hj => ?_, fun v hv => ?_⟩
  · rcases (by omega : j = 0 ∨ j = 1 ∨ j = 2 ∨ j = 3 ∨ j = 4) with rfl | rfl | rfl | rfl | rfl <;> exact ⟨rfl, fun G => rfl⟩
  · simp only [List.mem_cons, List.not_mem_nil, or_false] at hv
    rcases hv with rfl | rfl | rfl | rfl | rfl <;> first | trivial | (exact ⟨by decide, by decide⟩)
theorem ok_4_init : MOK m4_init := ⟨by decide +kernel, tG_of (List.mem_of_getElem? (i := 91) (by decide +kernel)) (by decide +kernel), tG_of (List.mem_of_getElem? (i := 65) (by decide +kernel)) (by decide +kernel), by decide +kernel, by decide +kernel⟩
theorem i_4_init : Jvm.Cond.instanceMethod (mY m4_init) ∈ tG := tG_of (List.mem_of_getElem? (i := 90) (by decide +kernel)) (by decide +kernel)
theorem f_X5_12 : FL RX5 12 5 0 := ⟨RX5, TX5, 4, rfl, by decide, inGX5, tG_of (List.mem_of_getElem? (i := 339) (by decide +kernel)) (by decide +kernel)⟩
theorem p_X5_X5_0 : FP RX5 5 0 (.object "PictureScript$Text") true := ⟨RX5, TX5, 4, tyX5, rfl, tyX5_ok, nmX5, by decide +kernel, rfl, fun _ => rfl⟩
theorem f_X5_19 : FL RX5 19 5 1 := ⟨RX5, TX5, 4, rfl, by decide, inGX5, tG_of (List.mem_of_getElem? (i := 340) (by decide +kernel)) (by decide +kernel)⟩
theorem p_X5_X5_1 : FP RX5 5 1 (.object "PictureScript$Script") false := ⟨RX5, TX5, 4, tyX5, rfl, tyX5_ok, nmX5, by decide +kernel, rfl, fun q => by cases q⟩
theorem nw_X2 : (∀ j, j < 6 → ([vN, vI 0, vI 0, vN, vN, vN] : List AV)[j]? = some (dfv (tyX2 j)) ∧ ∀ G : GD, cv G (dfv (tyX2 j)) = defaultValue (tyX2 j)) ∧ (∀ v ∈ ([vN, vI 0, vI 0, vN, vN, vN] : List AV), vok v) := by
  refine ⟨fun j hj => ?_, fun v hv => ?_⟩
  · rcases (by omega : j = 0 ∨ j = 1 ∨ j = 2 ∨ j = 3 ∨ j = 4 ∨ j = 5) with rfl | rfl | rfl | rfl | rfl | rfl <;> exact ⟨rfl, fun G => rfl⟩
  · simp only [List.mem_cons, List.not_mem_nil, or_false] at hv
    rcases hv with rfl | rfl | rfl | rfl | rfl | rfl <;> first | trivial | (exact ⟨by decide, by decide⟩)
theorem ok_2_init : MOK m2_init := ⟨by decide +kernel, tG_of (List.mem_of_getElem? (i := 145) (by decide +kernel)) (by decide +kernel), tG_of (List.mem_of_getElem? (i := 67) (by decide +kernel)) (by decide +kernel), by decide +kernel, by decide +kernel⟩
theorem i_2_init : Jvm.Cond.instanceMethod (mY m2_init) ∈ tG := tG_of (List.mem_of_getElem? (i := 144) (by decide +kernel)) (by decide +kernel)
theorem l_X5_25 : Jvm.Cond.methodLink RX5 25 (mY m2_init) ∈ tG := tG_of (List.mem_of_getElem? (i := 143) (by decide +kernel)) (by decide +kernel)
theorem f_X5_26 : FL RX5 26 5 2 := ⟨RX5, TX5, 4, rfl, by decide, inGX5, tG_of (List.mem_of_getElem? (i := 341) (by decide +kernel)) (by decide +kernel)⟩
theorem p_X5_X5_2 : FP RX5 5 2 (.object "PictureScript$Play") true := ⟨RX5, TX5, 4, tyX5, rfl, tyX5_ok, nmX5, by decide +kernel, rfl, fun _ => rfl⟩
theorem nw_X0 : (∀ j, j < 8 → ([vI 0, vN, vN, vN, vN, vI 0, vN, vN] : List AV)[j]? = some (dfv (tyX0 j)) ∧ ∀ G : GD, cv G (dfv (tyX0 j)) = defaultValue (tyX0 j)) ∧ (∀ v ∈ ([vI 0, vN, vN, vN, vN, vI 0, vN, vN] : List AV), vok v) := by
  refine ⟨fun j hj => ?_, fun v hv => ?_⟩
  · rcases (by omega : j = 0 ∨ j = 1 ∨ j = 2 ∨ j = 3 ∨ j = 4 ∨ j = 5 ∨ j = 6 ∨ j = 7) with rfl | rfl | rfl | rfl | rfl | rfl | rfl | rfl <;> exact ⟨rfl, fun G => rfl⟩
  · simp only [List.mem_cons, List.not_mem_nil, or_false] at hv
    rcases hv with rfl | rfl | rfl | rfl | rfl | rfl | rfl | rfl <;> first | trivial | (exact ⟨by decide, by decide⟩)
theorem ok_0_init : MOK m0_init := ⟨by decide +kernel, tG_of (List.mem_of_getElem? (i := 200) (by decide +kernel)) (by decide +kernel), tG_of (List.mem_of_getElem? (i := 69) (by decide +kernel)) (by decide +kernel), by decide +kernel, by decide +kernel⟩
theorem i_0_init : Jvm.Cond.instanceMethod (mY m0_init) ∈ tG := tG_of (List.mem_of_getElem? (i := 199) (by decide +kernel)) (by decide +kernel)
theorem f_X5_33 : FL RX5 33 5 3 := ⟨RX5, TX5, 4, rfl, by decide, inGX5, tG_of (List.mem_of_getElem? (i := 342) (by decide +kernel)) (by decide +kernel)⟩
theorem p_X5_X5_3 : FP RX5 5 3 (.object "PictureScript$Chart") true := ⟨RX5, TX5, 4, tyX5, rfl, tyX5_ok, nmX5, by decide +kernel, rfl, fun _ => rfl⟩
theorem ok_2_startScript : MOK m2_startScript := ⟨by decide +kernel, tG_of (List.mem_of_getElem? (i := 233) (by decide +kernel)) (by decide +kernel), tG_of (List.mem_of_getElem? (i := 67) (by decide +kernel)) (by decide +kernel), by decide +kernel, by decide +kernel⟩
theorem v_2_startScript : Jvm.Cond.instanceMethod (mY m2_startScript) ∈ tG ∧ Jvm.Cond.selects (mY m2_startScript).cls (mY m2_startScript) (mY m2_startScript) ∈ tG := ⟨tG_of (List.mem_of_getElem? (i := 231) (by decide +kernel)) (by decide +kernel), tG_of (List.mem_of_getElem? (i := 232) (by decide +kernel)) (by decide +kernel)⟩
theorem lk_X5_37 : Lk RX5 37 m2_startScript 1 := ⟨ok_2_startScript, tG_of (List.mem_of_getElem? (i := 230) (by decide +kernel)) (by decide +kernel), by decide +kernel, by decide⟩
theorem ok_0_draw : MOK m0_draw := ⟨by decide +kernel, tG_of (List.mem_of_getElem? (i := 293) (by decide +kernel)) (by decide +kernel), tG_of (List.mem_of_getElem? (i := 69) (by decide +kernel)) (by decide +kernel), by decide +kernel, by decide +kernel⟩
theorem v_0_draw : Jvm.Cond.instanceMethod (mY m0_draw) ∈ tG ∧ Jvm.Cond.selects (mY m0_draw).cls (mY m0_draw) (mY m0_draw) ∈ tG := ⟨tG_of (List.mem_of_getElem? (i := 291) (by decide +kernel)) (by decide +kernel), tG_of (List.mem_of_getElem? (i := 292) (by decide +kernel)) (by decide +kernel)⟩
theorem lk_X5_41 : Lk RX5 41 m0_draw 1 := ⟨ok_0_draw, tG_of (List.mem_of_getElem? (i := 290) (by decide +kernel)) (by decide +kernel), by decide +kernel, by decide⟩
theorem ok_4_append : MOK m4_append := ⟨by decide +kernel, tG_of (List.mem_of_getElem? (i := 359) (by decide +kernel)) (by decide +kernel), tG_of (List.mem_of_getElem? (i := 65) (by decide +kernel)) (by decide +kernel), by decide +kernel, by decide +kernel⟩
theorem v_4_append : Jvm.Cond.instanceMethod (mY m4_append) ∈ tG ∧ Jvm.Cond.selects (mY m4_append).cls (mY m4_append) (mY m4_append) ∈ tG := ⟨tG_of (List.mem_of_getElem? (i := 357) (by decide +kernel)) (by decide +kernel), tG_of (List.mem_of_getElem? (i := 358) (by decide +kernel)) (by decide +kernel)⟩
theorem lk_X5_44 : Lk RX5 44 m4_append 1 := ⟨ok_4_append, tG_of (List.mem_of_getElem? (i := 356) (by decide +kernel)) (by decide +kernel), by decide +kernel, by decide⟩
theorem f_X5_48 : FL RX5 48 4 0 := ⟨RX4, TX4, 5, rfl, by decide, inGX4, tG_of (List.mem_of_getElem? (i := 122) (by decide +kernel)) (by decide +kernel)⟩
theorem p_X5_X4_0 : FP RX5 4 0 .int false := ⟨RX4, TX4, 5, tyX4, rfl, tyX4_ok, nmX4, by decide +kernel, rfl, fun q => by cases q⟩
theorem ok_4_findFault : MOK m4_findFault := ⟨by decide +kernel, tG_of (List.mem_of_getElem? (i := 371) (by decide +kernel)) (by decide +kernel), tG_of (List.mem_of_getElem? (i := 65) (by decide +kernel)) (by decide +kernel), by decide +kernel, by decide +kernel⟩
theorem v_4_findFault : Jvm.Cond.instanceMethod (mY m4_findFault) ∈ tG ∧ Jvm.Cond.selects (mY m4_findFault).cls (mY m4_findFault) (mY m4_findFault) ∈ tG := ⟨tG_of (List.mem_of_getElem? (i := 369) (by decide +kernel)) (by decide +kernel), tG_of (List.mem_of_getElem? (i := 370) (by decide +kernel)) (by decide +kernel)⟩
theorem lk_X5_52 : Lk RX5 52 m4_findFault 0 := ⟨ok_4_findFault, tG_of (List.mem_of_getElem? (i := 368) (by decide +kernel)) (by decide +kernel), by decide +kernel, by decide⟩
theorem f_X5_56 : FL RX5 56 4 2 := ⟨RX4, TX4, 5, rfl, by decide, inGX4, tG_of (List.mem_of_getElem? (i := 125) (by decide +kernel)) (by decide +kernel)⟩
theorem p_X5_X4_2 : FP RX5 4 2 (.object "PictureScript$Script") false := ⟨RX4, TX4, 5, tyX4, rfl, tyX4_ok, nmX4, by decide +kernel, rfl, fun q => by cases q⟩
theorem f_X5_59 : FL RX5 59 3 0 := ⟨RX3, TX3, 6, rfl, by decide, inGX3, tG_of (List.mem_of_getElem? (i := 100) (by decide +kernel)) (by decide +kernel)⟩
theorem lk_X5_62 : Lk RX5 62 m2_startAnew 1 := ⟨ok_2_startAnew, tG_of (List.mem_of_getElem? (i := 539) (by decide +kernel)) (by decide +kernel), by decide +kernel, by decide⟩
theorem lk_X5_65 : Lk RX5 65 m2_now 0 := ⟨ok_2_now, tG_of (List.mem_of_getElem? (i := 540) (by decide +kernel)) (by decide +kernel), by decide +kernel, by decide⟩
theorem f_X5_69 : FL RX5 69 1 0 := ⟨RX1, TX1, 4, rfl, by decide, inGX1, tG_of (List.mem_of_getElem? (i := 156) (by decide +kernel)) (by decide +kernel)⟩
theorem ok_5_isLineShown : MOK m5_isLineShown := ⟨by decide +kernel, tG_of (List.mem_of_getElem? (i := 548) (by decide +kernel)) (by decide +kernel), tG_of (List.mem_of_getElem? (i := 64) (by decide +kernel)) (by decide +kernel), by decide +kernel, by decide +kernel⟩
theorem v_5_isLineShown : Jvm.Cond.instanceMethod (mY m5_isLineShown) ∈ tG ∧ Jvm.Cond.selects (mY m5_isLineShown).cls (mY m5_isLineShown) (mY m5_isLineShown) ∈ tG := ⟨tG_of (List.mem_of_getElem? (i := 547) (by decide +kernel)) (by decide +kernel), tG_of (List.mem_of_getElem? (i := 21) (by decide +kernel)) (by decide +kernel)⟩
theorem lk_X5_74 : Lk RX5 74 m5_isLineShown 0 := ⟨ok_5_isLineShown, tG_of (List.mem_of_getElem? (i := 545) (by decide +kernel)) (by decide +kernel), by decide +kernel, by decide⟩
theorem ok_5_goOnFromLine : MOK m5_goOnFromLine := ⟨by decide +kernel, tG_of (List.mem_of_getElem? (i := 553) (by decide +kernel)) (by decide +kernel), tG_of (List.mem_of_getElem? (i := 64) (by decide +kernel)) (by decide +kernel), by decide +kernel, by decide +kernel⟩
theorem v_5_goOnFromLine : Jvm.Cond.instanceMethod (mY m5_goOnFromLine) ∈ tG ∧ Jvm.Cond.selects (mY m5_goOnFromLine).cls (mY m5_goOnFromLine) (mY m5_goOnFromLine) ∈ tG := ⟨tG_of (List.mem_of_getElem? (i := 552) (by decide +kernel)) (by decide +kernel), tG_of (List.mem_of_getElem? (i := 22) (by decide +kernel)) (by decide +kernel)⟩
theorem lk_X5_78 : Lk RX5 78 m5_goOnFromLine 0 := ⟨ok_5_goOnFromLine, tG_of (List.mem_of_getElem? (i := 550) (by decide +kernel)) (by decide +kernel), by decide +kernel, by decide⟩
theorem f_X5_81 : FL RX5 81 1 1 := ⟨RX1, TX1, 4, rfl, by decide, inGX1, tG_of (List.mem_of_getElem? (i := 160) (by decide +kernel)) (by decide +kernel)⟩
theorem lk_X5_84 : Lk RX5 84 m3_isOpen 3 := ⟨ok_3_isOpen, tG_of (List.mem_of_getElem? (i := 573) (by decide +kernel)) (by decide +kernel), by decide +kernel, by decide⟩
theorem lk_X5_88 : Lk RX5 88 m3_optionPart 3 := ⟨ok_3_optionPart, tG_of (List.mem_of_getElem? (i := 574) (by decide +kernel)) (by decide +kernel), by decide +kernel, by decide⟩
theorem ok_2_goOn : MOK m2_goOn := ⟨by decide +kernel, tG_of (List.mem_of_getElem? (i := 557) (by decide +kernel)) (by decide +kernel), tG_of (List.mem_of_getElem? (i := 67) (by decide +kernel)) (by decide +kernel), by decide +kernel, by decide +kernel⟩
theorem v_2_goOn : Jvm.Cond.instanceMethod (mY m2_goOn) ∈ tG ∧ Jvm.Cond.selects (mY m2_goOn).cls (mY m2_goOn) (mY m2_goOn) ∈ tG := ⟨tG_of (List.mem_of_getElem? (i := 555) (by decide +kernel)) (by decide +kernel), tG_of (List.mem_of_getElem? (i := 556) (by decide +kernel)) (by decide +kernel)⟩
theorem lk_X5_92 : Lk RX5 92 m2_goOn 2 := ⟨ok_2_goOn, tG_of (List.mem_of_getElem? (i := 554) (by decide +kernel)) (by decide +kernel), by decide +kernel, by decide⟩
theorem ok_2_turnBack : MOK m2_turnBack := ⟨by decide +kernel, tG_of (List.mem_of_getElem? (i := 586) (by decide +kernel)) (by decide +kernel), tG_of (List.mem_of_getElem? (i := 67) (by decide +kernel)) (by decide +kernel), by decide +kernel, by decide +kernel⟩
theorem v_2_turnBack : Jvm.Cond.instanceMethod (mY m2_turnBack) ∈ tG ∧ Jvm.Cond.selects (mY m2_turnBack).cls (mY m2_turnBack) (mY m2_turnBack) ∈ tG := ⟨tG_of (List.mem_of_getElem? (i := 584) (by decide +kernel)) (by decide +kernel), tG_of (List.mem_of_getElem? (i := 585) (by decide +kernel)) (by decide +kernel)⟩
theorem lk_X5_96 : Lk RX5 96 m2_turnBack 1 := ⟨ok_2_turnBack, tG_of (List.mem_of_getElem? (i := 583) (by decide +kernel)) (by decide +kernel), by decide +kernel, by decide⟩
theorem ok_2_turnForth : MOK m2_turnForth := ⟨by decide +kernel, tG_of (List.mem_of_getElem? (i := 594) (by decide +kernel)) (by decide +kernel), tG_of (List.mem_of_getElem? (i := 67) (by decide +kernel)) (by decide +kernel), by decide +kernel, by decide +kernel⟩
theorem v_2_turnForth : Jvm.Cond.instanceMethod (mY m2_turnForth) ∈ tG ∧ Jvm.Cond.selects (mY m2_turnForth).cls (mY m2_turnForth) (mY m2_turnForth) ∈ tG := ⟨tG_of (List.mem_of_getElem? (i := 592) (by decide +kernel)) (by decide +kernel), tG_of (List.mem_of_getElem? (i := 593) (by decide +kernel)) (by decide +kernel)⟩
theorem lk_X5_100 : Lk RX5 100 m2_turnForth 0 := ⟨ok_2_turnForth, tG_of (List.mem_of_getElem? (i := 591) (by decide +kernel)) (by decide +kernel), by decide +kernel, by decide⟩
theorem ok_2_keepIn : MOK m2_keepIn := ⟨by decide +kernel, tG_of (List.mem_of_getElem? (i := 602) (by decide +kernel)) (by decide +kernel), tG_of (List.mem_of_getElem? (i := 67) (by decide +kernel)) (by decide +kernel), by decide +kernel, by decide +kernel⟩
theorem v_2_keepIn : Jvm.Cond.instanceMethod (mY m2_keepIn) ∈ tG ∧ Jvm.Cond.selects (mY m2_keepIn).cls (mY m2_keepIn) (mY m2_keepIn) ∈ tG := ⟨tG_of (List.mem_of_getElem? (i := 600) (by decide +kernel)) (by decide +kernel), tG_of (List.mem_of_getElem? (i := 601) (by decide +kernel)) (by decide +kernel)⟩
theorem lk_X5_103 : Lk RX5 103 m2_keepIn 1 := ⟨ok_2_keepIn, tG_of (List.mem_of_getElem? (i := 599) (by decide +kernel)) (by decide +kernel), by decide +kernel, by decide⟩
theorem ok_2_takeFrom : MOK m2_takeFrom := ⟨by decide +kernel, tG_of (List.mem_of_getElem? (i := 610) (by decide +kernel)) (by decide +kernel), tG_of (List.mem_of_getElem? (i := 67) (by decide +kernel)) (by decide +kernel), by decide +kernel, by decide +kernel⟩
theorem v_2_takeFrom : Jvm.Cond.instanceMethod (mY m2_takeFrom) ∈ tG ∧ Jvm.Cond.selects (mY m2_takeFrom).cls (mY m2_takeFrom) (mY m2_takeFrom) ∈ tG := ⟨tG_of (List.mem_of_getElem? (i := 608) (by decide +kernel)) (by decide +kernel), tG_of (List.mem_of_getElem? (i := 609) (by decide +kernel)) (by decide +kernel)⟩
theorem lk_X5_107 : Lk RX5 107 m2_takeFrom 1 := ⟨ok_2_takeFrom, tG_of (List.mem_of_getElem? (i := 607) (by decide +kernel)) (by decide +kernel), by decide +kernel, by decide⟩
theorem lk_X5_110 : Lk RX5 110 m3_shownKind 1 := ⟨ok_3_shownKind, tG_of (List.mem_of_getElem? (i := 549) (by decide +kernel)) (by decide +kernel), by decide +kernel, by decide⟩
theorem lk_X5_114 : Lk RX5 114 m3_numberOf 2 := ⟨ok_3_numberOf, tG_of (List.mem_of_getElem? (i := 615) (by decide +kernel)) (by decide +kernel), by decide +kernel, by decide⟩
theorem lk_X5_118 : Lk RX5 118 m3_shownNumber 1 := ⟨ok_3_shownNumber, tG_of (List.mem_of_getElem? (i := 616) (by decide +kernel)) (by decide +kernel), by decide +kernel, by decide⟩
theorem ok_3_openOptions : MOK m3_openOptions := ⟨by decide +kernel, tG_of (List.mem_of_getElem? (i := 620) (by decide +kernel)) (by decide +kernel), tG_of (List.mem_of_getElem? (i := 66) (by decide +kernel)) (by decide +kernel), by decide +kernel, by decide +kernel⟩
theorem v_3_openOptions : Jvm.Cond.instanceMethod (mY m3_openOptions) ∈ tG ∧ Jvm.Cond.selects (mY m3_openOptions).cls (mY m3_openOptions) (mY m3_openOptions) ∈ tG := ⟨tG_of (List.mem_of_getElem? (i := 618) (by decide +kernel)) (by decide +kernel), tG_of (List.mem_of_getElem? (i := 619) (by decide +kernel)) (by decide +kernel)⟩
theorem lk_X5_121 : Lk RX5 121 m3_openOptions 2 := ⟨ok_3_openOptions, tG_of (List.mem_of_getElem? (i := 617) (by decide +kernel)) (by decide +kernel), by decide +kernel, by decide⟩
theorem f_X5_124 : FL RX5 124 1 3 := ⟨RX1, TX1, 4, rfl, by decide, inGX1, tG_of (List.mem_of_getElem? (i := 164) (by decide +kernel)) (by decide +kernel)⟩
theorem f_X5_128 : FL RX5 128 1 2 := ⟨RX1, TX1, 4, rfl, by decide, inGX1, tG_of (List.mem_of_getElem? (i := 162) (by decide +kernel)) (by decide +kernel)⟩
theorem lk_X5_131 : Lk RX5 131 m3_has 1 := ⟨ok_3_has, tG_of (List.mem_of_getElem? (i := 630) (by decide +kernel)) (by decide +kernel), by decide +kernel, by decide⟩
theorem lk_X5_134 : Lk RX5 134 m3_kindOf 1 := ⟨ok_3_kindOf, tG_of (List.mem_of_getElem? (i := 631) (by decide +kernel)) (by decide +kernel), by decide +kernel, by decide⟩
theorem f_X5_137 : FL RX5 137 0 0 := ⟨RX0, TX0, 8, rfl, by decide, inGX0, tG_of (List.mem_of_getElem? (i := 205) (by decide +kernel)) (by decide +kernel)⟩
theorem ok_0_reachedWith : MOK m0_reachedWith := ⟨by decide +kernel, tG_of (List.mem_of_getElem? (i := 643) (by decide +kernel)) (by decide +kernel), tG_of (List.mem_of_getElem? (i := 69) (by decide +kernel)) (by decide +kernel), by decide +kernel, by decide +kernel⟩
theorem v_0_reachedWith : Jvm.Cond.instanceMethod (mY m0_reachedWith) ∈ tG ∧ Jvm.Cond.selects (mY m0_reachedWith).cls (mY m0_reachedWith) (mY m0_reachedWith) ∈ tG := ⟨tG_of (List.mem_of_getElem? (i := 641) (by decide +kernel)) (by decide +kernel), tG_of (List.mem_of_getElem? (i := 642) (by decide +kernel)) (by decide +kernel)⟩
theorem lk_X5_140 : Lk RX5 140 m0_reachedWith 1 := ⟨ok_0_reachedWith, tG_of (List.mem_of_getElem? (i := 640) (by decide +kernel)) (by decide +kernel), by decide +kernel, by decide⟩
theorem lk_X5_143 : Lk RX5 143 m5_endIndex 1 := ⟨ok_5_endIndex, tG_of (List.mem_of_getElem? (i := 652) (by decide +kernel)) (by decide +kernel), by decide +kernel, by decide⟩
theorem lk_X5_146 : Lk RX5 146 m0_wayLength 1 := ⟨ok_0_wayLength, tG_of (List.mem_of_getElem? (i := 653) (by decide +kernel)) (by decide +kernel), by decide +kernel, by decide⟩
theorem ok_0_wayChoice : MOK m0_wayChoice := ⟨by decide +kernel, tG_of (List.mem_of_getElem? (i := 664) (by decide +kernel)) (by decide +kernel), tG_of (List.mem_of_getElem? (i := 69) (by decide +kernel)) (by decide +kernel), by decide +kernel, by decide +kernel⟩
theorem v_0_wayChoice : Jvm.Cond.instanceMethod (mY m0_wayChoice) ∈ tG ∧ Jvm.Cond.selects (mY m0_wayChoice).cls (mY m0_wayChoice) (mY m0_wayChoice) ∈ tG := ⟨tG_of (List.mem_of_getElem? (i := 662) (by decide +kernel)) (by decide +kernel), tG_of (List.mem_of_getElem? (i := 663) (by decide +kernel)) (by decide +kernel)⟩
theorem lk_X5_149 : Lk RX5 149 m0_wayChoice 2 := ⟨ok_0_wayChoice, tG_of (List.mem_of_getElem? (i := 661) (by decide +kernel)) (by decide +kernel), by decide +kernel, by decide⟩
theorem lk_X5_152 : Lk RX5 152 m3_optionsOf 1 := ⟨ok_3_optionsOf, tG_of (List.mem_of_getElem? (i := 670) (by decide +kernel)) (by decide +kernel), by decide +kernel, by decide⟩
theorem ok_0_canUse : MOK m0_canUse := ⟨by decide +kernel, tG_of (List.mem_of_getElem? (i := 674) (by decide +kernel)) (by decide +kernel), tG_of (List.mem_of_getElem? (i := 69) (by decide +kernel)) (by decide +kernel), by decide +kernel, by decide +kernel⟩
theorem v_0_canUse : Jvm.Cond.instanceMethod (mY m0_canUse) ∈ tG ∧ Jvm.Cond.selects (mY m0_canUse).cls (mY m0_canUse) (mY m0_canUse) ∈ tG := ⟨tG_of (List.mem_of_getElem? (i := 672) (by decide +kernel)) (by decide +kernel), tG_of (List.mem_of_getElem? (i := 673) (by decide +kernel)) (by decide +kernel)⟩
theorem lk_X5_155 : Lk RX5 155 m0_canUse 3 := ⟨ok_0_canUse, tG_of (List.mem_of_getElem? (i := 671) (by decide +kernel)) (by decide +kernel), by decide +kernel, by decide⟩
theorem f_X5_159 : FL RX5 159 2 2 := ⟨RX2, TX2, 6, rfl, by decide, inGX2, tG_of (List.mem_of_getElem? (i := 179) (by decide +kernel)) (by decide +kernel)⟩
theorem f_X5_162 : FL RX5 162 2 1 := ⟨RX2, TX2, 6, rfl, by decide, inGX2, tG_of (List.mem_of_getElem? (i := 177) (by decide +kernel)) (by decide +kernel)⟩
theorem ok_2_seenNodes : MOK m2_seenNodes := ⟨by decide +kernel, tG_of (List.mem_of_getElem? (i := 682) (by decide +kernel)) (by decide +kernel), tG_of (List.mem_of_getElem? (i := 67) (by decide +kernel)) (by decide +kernel), by decide +kernel, by decide +kernel⟩
theorem v_2_seenNodes : Jvm.Cond.instanceMethod (mY m2_seenNodes) ∈ tG ∧ Jvm.Cond.selects (mY m2_seenNodes).cls (mY m2_seenNodes) (mY m2_seenNodes) ∈ tG := ⟨tG_of (List.mem_of_getElem? (i := 680) (by decide +kernel)) (by decide +kernel), tG_of (List.mem_of_getElem? (i := 681) (by decide +kernel)) (by decide +kernel)⟩
theorem lk_X5_165 : Lk RX5 165 m2_seenNodes 0 := ⟨ok_2_seenNodes, tG_of (List.mem_of_getElem? (i := 679) (by decide +kernel)) (by decide +kernel), by decide +kernel, by decide⟩
theorem ok_2_usedSlots : MOK m2_usedSlots := ⟨by decide +kernel, tG_of (List.mem_of_getElem? (i := 686) (by decide +kernel)) (by decide +kernel), tG_of (List.mem_of_getElem? (i := 67) (by decide +kernel)) (by decide +kernel), by decide +kernel, by decide +kernel⟩
theorem v_2_usedSlots : Jvm.Cond.instanceMethod (mY m2_usedSlots) ∈ tG ∧ Jvm.Cond.selects (mY m2_usedSlots).cls (mY m2_usedSlots) (mY m2_usedSlots) ∈ tG := ⟨tG_of (List.mem_of_getElem? (i := 684) (by decide +kernel)) (by decide +kernel), tG_of (List.mem_of_getElem? (i := 685) (by decide +kernel)) (by decide +kernel)⟩
theorem lk_X5_168 : Lk RX5 168 m2_usedSlots 0 := ⟨ok_2_usedSlots, tG_of (List.mem_of_getElem? (i := 683) (by decide +kernel)) (by decide +kernel), by decide +kernel, by decide⟩
theorem ok_0_reachedEnds : MOK m0_reachedEnds := ⟨by decide +kernel, tG_of (List.mem_of_getElem? (i := 690) (by decide +kernel)) (by decide +kernel), tG_of (List.mem_of_getElem? (i := 69) (by decide +kernel)) (by decide +kernel), by decide +kernel, by decide +kernel⟩
theorem v_0_reachedEnds : Jvm.Cond.instanceMethod (mY m0_reachedEnds) ∈ tG ∧ Jvm.Cond.selects (mY m0_reachedEnds).cls (mY m0_reachedEnds) (mY m0_reachedEnds) ∈ tG := ⟨tG_of (List.mem_of_getElem? (i := 688) (by decide +kernel)) (by decide +kernel), tG_of (List.mem_of_getElem? (i := 689) (by decide +kernel)) (by decide +kernel)⟩
theorem lk_X5_171 : Lk RX5 171 m0_reachedEnds 0 := ⟨ok_0_reachedEnds, tG_of (List.mem_of_getElem? (i := 687) (by decide +kernel)) (by decide +kernel), by decide +kernel, by decide⟩
theorem ok_5_count : MOK m5_count := ⟨by decide +kernel, tG_of (List.mem_of_getElem? (i := 678) (by decide +kernel)) (by decide +kernel), tG_of (List.mem_of_getElem? (i := 64) (by decide +kernel)) (by decide +kernel), by decide +kernel, by decide +kernel⟩
theorem v_5_count : Jvm.Cond.instanceMethod (mY m5_count) ∈ tG ∧ Jvm.Cond.selects (mY m5_count).cls (mY m5_count) (mY m5_count) ∈ tG := ⟨tG_of (List.mem_of_getElem? (i := 676) (by decide +kernel)) (by decide +kernel), tG_of (List.mem_of_getElem? (i := 677) (by decide +kernel)) (by decide +kernel)⟩
theorem lk_X5_178 : Lk RX5 178 m5_count 1 := ⟨ok_5_count, tG_of (List.mem_of_getElem? (i := 697) (by decide +kernel)) (by decide +kernel), by decide +kernel, by decide⟩
theorem ok_5_shown : MOK m5_shown := ⟨by decide +kernel, tG_of (List.mem_of_getElem? (i := 614) (by decide +kernel)) (by decide +kernel), tG_of (List.mem_of_getElem? (i := 64) (by decide +kernel)) (by decide +kernel), by decide +kernel, by decide +kernel⟩
theorem v_5_shown : Jvm.Cond.instanceMethod (mY m5_shown) ∈ tG ∧ Jvm.Cond.selects (mY m5_shown).cls (mY m5_shown) (mY m5_shown) ∈ tG := ⟨tG_of (List.mem_of_getElem? (i := 612) (by decide +kernel)) (by decide +kernel), tG_of (List.mem_of_getElem? (i := 613) (by decide +kernel)) (by decide +kernel)⟩
theorem lk_X5_181 : Lk RX5 181 m5_shown 1 := ⟨ok_5_shown, tG_of (List.mem_of_getElem? (i := 698) (by decide +kernel)) (by decide +kernel), by decide +kernel, by decide⟩
theorem ok_5_portrait : MOK m5_portrait := ⟨by decide +kernel, tG_of (List.mem_of_getElem? (i := 625) (by decide +kernel)) (by decide +kernel), tG_of (List.mem_of_getElem? (i := 64) (by decide +kernel)) (by decide +kernel), by decide +kernel, by decide +kernel⟩
theorem v_5_portrait : Jvm.Cond.instanceMethod (mY m5_portrait) ∈ tG ∧ Jvm.Cond.selects (mY m5_portrait).cls (mY m5_portrait) (mY m5_portrait) ∈ tG := ⟨tG_of (List.mem_of_getElem? (i := 623) (by decide +kernel)) (by decide +kernel), tG_of (List.mem_of_getElem? (i := 624) (by decide +kernel)) (by decide +kernel)⟩
theorem lk_X5_184 : Lk RX5 184 m5_portrait 2 := ⟨ok_5_portrait, tG_of (List.mem_of_getElem? (i := 699) (by decide +kernel)) (by decide +kernel), by decide +kernel, by decide⟩
theorem ok_5_digestNode : MOK m5_digestNode := ⟨by decide +kernel, tG_of (List.mem_of_getElem? (i := 703) (by decide +kernel)) (by decide +kernel), tG_of (List.mem_of_getElem? (i := 64) (by decide +kernel)) (by decide +kernel), by decide +kernel, by decide +kernel⟩
theorem v_5_digestNode : Jvm.Cond.instanceMethod (mY m5_digestNode) ∈ tG ∧ Jvm.Cond.selects (mY m5_digestNode).cls (mY m5_digestNode) (mY m5_digestNode) ∈ tG := ⟨tG_of (List.mem_of_getElem? (i := 702) (by decide +kernel)) (by decide +kernel), tG_of (List.mem_of_getElem? (i := 25) (by decide +kernel)) (by decide +kernel)⟩
theorem lk_X5_188 : Lk RX5 188 m5_digestNode 2 := ⟨ok_5_digestNode, tG_of (List.mem_of_getElem? (i := 700) (by decide +kernel)) (by decide +kernel), by decide +kernel, by decide⟩
theorem ok_5_situations : MOK m5_situations := ⟨by decide +kernel, tG_of (List.mem_of_getElem? (i := 639) (by decide +kernel)) (by decide +kernel), tG_of (List.mem_of_getElem? (i := 64) (by decide +kernel)) (by decide +kernel), by decide +kernel, by decide +kernel⟩
theorem v_5_situations : Jvm.Cond.instanceMethod (mY m5_situations) ∈ tG ∧ Jvm.Cond.selects (mY m5_situations).cls (mY m5_situations) (mY m5_situations) ∈ tG := ⟨tG_of (List.mem_of_getElem? (i := 637) (by decide +kernel)) (by decide +kernel), tG_of (List.mem_of_getElem? (i := 638) (by decide +kernel)) (by decide +kernel)⟩
theorem lk_X5_192 : Lk RX5 192 m5_situations 1 := ⟨ok_5_situations, tG_of (List.mem_of_getElem? (i := 707) (by decide +kernel)) (by decide +kernel), by decide +kernel, by decide⟩
theorem ok_4_byteAt : MOK m4_byteAt := ⟨by decide +kernel, tG_of (List.mem_of_getElem? (i := 711) (by decide +kernel)) (by decide +kernel), tG_of (List.mem_of_getElem? (i := 65) (by decide +kernel)) (by decide +kernel), by decide +kernel, by decide +kernel⟩
theorem v_4_byteAt : Jvm.Cond.instanceMethod (mY m4_byteAt) ∈ tG ∧ Jvm.Cond.selects (mY m4_byteAt).cls (mY m4_byteAt) (mY m4_byteAt) ∈ tG := ⟨tG_of (List.mem_of_getElem? (i := 709) (by decide +kernel)) (by decide +kernel), tG_of (List.mem_of_getElem? (i := 710) (by decide +kernel)) (by decide +kernel)⟩
theorem lk_X5_195 : Lk RX5 195 m4_byteAt 1 := ⟨ok_4_byteAt, tG_of (List.mem_of_getElem? (i := 708) (by decide +kernel)) (by decide +kernel), by decide +kernel, by decide⟩
theorem ok_5_node : MOK m5_node := ⟨by decide +kernel, tG_of (List.mem_of_getElem? (i := 629) (by decide +kernel)) (by decide +kernel), tG_of (List.mem_of_getElem? (i := 64) (by decide +kernel)) (by decide +kernel), by decide +kernel, by decide +kernel⟩
theorem v_5_node : Jvm.Cond.instanceMethod (mY m5_node) ∈ tG ∧ Jvm.Cond.selects (mY m5_node).cls (mY m5_node) (mY m5_node) ∈ tG := ⟨tG_of (List.mem_of_getElem? (i := 627) (by decide +kernel)) (by decide +kernel), tG_of (List.mem_of_getElem? (i := 628) (by decide +kernel)) (by decide +kernel)⟩
theorem lk_X5_198 : Lk RX5 198 m5_node 2 := ⟨ok_5_node, tG_of (List.mem_of_getElem? (i := 704) (by decide +kernel)) (by decide +kernel), by decide +kernel, by decide⟩
theorem ok_5_option : MOK m5_option := ⟨by decide +kernel, tG_of (List.mem_of_getElem? (i := 635) (by decide +kernel)) (by decide +kernel), tG_of (List.mem_of_getElem? (i := 64) (by decide +kernel)) (by decide +kernel), by decide +kernel, by decide +kernel⟩
theorem v_5_option : Jvm.Cond.instanceMethod (mY m5_option) ∈ tG ∧ Jvm.Cond.selects (mY m5_option).cls (mY m5_option) (mY m5_option) ∈ tG := ⟨tG_of (List.mem_of_getElem? (i := 633) (by decide +kernel)) (by decide +kernel), tG_of (List.mem_of_getElem? (i := 634) (by decide +kernel)) (by decide +kernel)⟩
theorem lk_X5_200 : Lk RX5 200 m5_option 3 := ⟨ok_5_option, tG_of (List.mem_of_getElem? (i := 705) (by decide +kernel)) (by decide +kernel), by decide +kernel, by decide⟩
theorem ok_5_usable : MOK m5_usable := ⟨by decide +kernel, tG_of (List.mem_of_getElem? (i := 669) (by decide +kernel)) (by decide +kernel), tG_of (List.mem_of_getElem? (i := 64) (by decide +kernel)) (by decide +kernel), by decide +kernel, by decide +kernel⟩
theorem v_5_usable : Jvm.Cond.instanceMethod (mY m5_usable) ∈ tG ∧ Jvm.Cond.selects (mY m5_usable).cls (mY m5_usable) (mY m5_usable) ∈ tG := ⟨tG_of (List.mem_of_getElem? (i := 667) (by decide +kernel)) (by decide +kernel), tG_of (List.mem_of_getElem? (i := 668) (by decide +kernel)) (by decide +kernel)⟩
theorem lk_X5_203 : Lk RX5 203 m5_usable 2 := ⟨ok_5_usable, tG_of (List.mem_of_getElem? (i := 706) (by decide +kernel)) (by decide +kernel), by decide +kernel, by decide⟩
theorem oi_X6_1 : Jvm.Cond.methodLink RX6 1 objectInit ∈ tG := tG_of (List.mem_of_getElem? (i := 717) (by decide +kernel)) (by decide +kernel)
theorem f_X6_7 : FL RX6 7 6 0 := ⟨RX6, TX6, 27, rfl, by decide, inGX6, tG_of (List.mem_of_getElem? (i := 750) (by decide +kernel)) (by decide +kernel)⟩
theorem p_X6_X6_0 : FP RX6 6 0 (.array .int) true := ⟨RX6, TX6, 27, tyX6, rfl, tyX6_ok, nmX6, by decide +kernel, rfl, fun _ => rfl⟩
theorem f_X6_13 : FL RX6 13 6 2 := ⟨RX6, TX6, 27, rfl, by decide, inGX6, tG_of (List.mem_of_getElem? (i := 752) (by decide +kernel)) (by decide +kernel)⟩
theorem p_X6_X6_2 : FP RX6 6 2 (.array .int) true := ⟨RX6, TX6, 27, tyX6, rfl, tyX6_ok, nmX6, by decide +kernel, rfl, fun _ => rfl⟩
theorem f_X6_16 : FL RX6 16 6 4 := ⟨RX6, TX6, 27, rfl, by decide, inGX6, tG_of (List.mem_of_getElem? (i := 754) (by decide +kernel)) (by decide +kernel)⟩
theorem p_X6_X6_4 : FP RX6 6 4 (.array .int) true := ⟨RX6, TX6, 27, tyX6, rfl, tyX6_ok, nmX6, by decide +kernel, rfl, fun _ => rfl⟩
theorem f_X6_19 : FL RX6 19 6 8 := ⟨RX6, TX6, 27, rfl, by decide, inGX6, tG_of (List.mem_of_getElem? (i := 758) (by decide +kernel)) (by decide +kernel)⟩
theorem p_X6_X6_8 : FP RX6 6 8 (.array .int) true := ⟨RX6, TX6, 27, tyX6, rfl, tyX6_ok, nmX6, by decide +kernel, rfl, fun _ => rfl⟩
theorem f_X6_22 : FL RX6 22 6 9 := ⟨RX6, TX6, 27, rfl, by decide, inGX6, tG_of (List.mem_of_getElem? (i := 759) (by decide +kernel)) (by decide +kernel)⟩
theorem p_X6_X6_9 : FP RX6 6 9 (.array .boolean) true := ⟨RX6, TX6, 27, tyX6, rfl, tyX6_ok, nmX6, by decide +kernel, rfl, fun _ => rfl⟩
theorem f_X6_26 : FL RX6 26 6 11 := ⟨RX6, TX6, 27, rfl, by decide, inGX6, tG_of (List.mem_of_getElem? (i := 761) (by decide +kernel)) (by decide +kernel)⟩
theorem p_X6_X6_11 : FP RX6 6 11 (.array .int) true := ⟨RX6, TX6, 27, tyX6, rfl, tyX6_ok, nmX6, by decide +kernel, rfl, fun _ => rfl⟩
theorem f_X6_29 : FL RX6 29 6 16 := ⟨RX6, TX6, 27, rfl, by decide, inGX6, tG_of (List.mem_of_getElem? (i := 766) (by decide +kernel)) (by decide +kernel)⟩
theorem p_X6_X6_16 : FP RX6 6 16 (.array .int) true := ⟨RX6, TX6, 27, tyX6, rfl, tyX6_ok, nmX6, by decide +kernel, rfl, fun _ => rfl⟩
theorem f_X6_32 : FL RX6 32 6 17 := ⟨RX6, TX6, 27, rfl, by decide, inGX6, tG_of (List.mem_of_getElem? (i := 767) (by decide +kernel)) (by decide +kernel)⟩
theorem p_X6_X6_17 : FP RX6 6 17 (.array .int) true := ⟨RX6, TX6, 27, tyX6, rfl, tyX6_ok, nmX6, by decide +kernel, rfl, fun _ => rfl⟩
theorem f_X6_35 : FL RX6 35 6 18 := ⟨RX6, TX6, 27, rfl, by decide, inGX6, tG_of (List.mem_of_getElem? (i := 768) (by decide +kernel)) (by decide +kernel)⟩
theorem p_X6_X6_18 : FP RX6 6 18 (.array .boolean) true := ⟨RX6, TX6, 27, tyX6, rfl, tyX6_ok, nmX6, by decide +kernel, rfl, fun _ => rfl⟩
theorem f_X6_38 : FL RX6 38 6 19 := ⟨RX6, TX6, 27, rfl, by decide, inGX6, tG_of (List.mem_of_getElem? (i := 769) (by decide +kernel)) (by decide +kernel)⟩
theorem p_X6_X6_19 : FP RX6 6 19 (.array .int) true := ⟨RX6, TX6, 27, tyX6, rfl, tyX6_ok, nmX6, by decide +kernel, rfl, fun _ => rfl⟩
theorem f_X6_41 : FL RX6 41 6 20 := ⟨RX6, TX6, 27, rfl, by decide, inGX6, tG_of (List.mem_of_getElem? (i := 770) (by decide +kernel)) (by decide +kernel)⟩
theorem p_X6_X6_20 : FP RX6 6 20 (.array .int) true := ⟨RX6, TX6, 27, tyX6, rfl, tyX6_ok, nmX6, by decide +kernel, rfl, fun _ => rfl⟩
theorem f_X6_44 : FL RX6 44 6 21 := ⟨RX6, TX6, 27, rfl, by decide, inGX6, tG_of (List.mem_of_getElem? (i := 771) (by decide +kernel)) (by decide +kernel)⟩
theorem p_X6_X6_21 : FP RX6 6 21 (.array .int) true := ⟨RX6, TX6, 27, tyX6, rfl, tyX6_ok, nmX6, by decide +kernel, rfl, fun _ => rfl⟩
theorem f_X6_47 : FL RX6 47 6 23 := ⟨RX6, TX6, 27, rfl, by decide, inGX6, tG_of (List.mem_of_getElem? (i := 773) (by decide +kernel)) (by decide +kernel)⟩
theorem p_X6_X6_23 : FP RX6 6 23 (.array .boolean) true := ⟨RX6, TX6, 27, tyX6, rfl, tyX6_ok, nmX6, by decide +kernel, rfl, fun _ => rfl⟩
theorem f_X6_50 : FL RX6 50 6 24 := ⟨RX6, TX6, 27, rfl, by decide, inGX6, tG_of (List.mem_of_getElem? (i := 774) (by decide +kernel)) (by decide +kernel)⟩
theorem p_X6_X6_24 : FP RX6 6 24 (.array .int) true := ⟨RX6, TX6, 27, tyX6, rfl, tyX6_ok, nmX6, by decide +kernel, rfl, fun _ => rfl⟩
theorem f_X6_53 : FL RX6 53 6 25 := ⟨RX6, TX6, 27, rfl, by decide, inGX6, tG_of (List.mem_of_getElem? (i := 775) (by decide +kernel)) (by decide +kernel)⟩
theorem p_X6_X6_25 : FP RX6 6 25 (.array .int) true := ⟨RX6, TX6, 27, tyX6, rfl, tyX6_ok, nmX6, by decide +kernel, rfl, fun _ => rfl⟩
theorem ok_6_starts : MOK m6_starts := ⟨by decide +kernel, tG_of (List.mem_of_getElem? (i := 721) (by decide +kernel)) (by decide +kernel), tG_of (List.mem_of_getElem? (i := 71) (by decide +kernel)) (by decide +kernel), by decide +kernel, by decide +kernel⟩
theorem v_6_starts : Jvm.Cond.instanceMethod (mY m6_starts) ∈ tG ∧ Jvm.Cond.selects (mY m6_starts).cls (mY m6_starts) (mY m6_starts) ∈ tG := ⟨tG_of (List.mem_of_getElem? (i := 720) (by decide +kernel)) (by decide +kernel), tG_of (List.mem_of_getElem? (i := 26) (by decide +kernel)) (by decide +kernel)⟩
theorem lk_X6_56 : Lk RX6 56 m6_starts 0 := ⟨ok_6_starts, tG_of (List.mem_of_getElem? (i := 718) (by decide +kernel)) (by decide +kernel), by decide +kernel, by decide⟩
theorem ok_6_in : MOK m6_in := ⟨by decide +kernel, tG_of (List.mem_of_getElem? (i := 838) (by decide +kernel)) (by decide +kernel), tG_of (List.mem_of_getElem? (i := 71) (by decide +kernel)) (by decide +kernel), by decide +kernel, by decide +kernel⟩
theorem s_6_in : Jvm.Cond.static (mY m6_in) ∈ tG := tG_of (List.mem_of_getElem? (i := 837) (by decide +kernel)) (by decide +kernel)
theorem lk_X6_59 : Lk RX6 59 m6_in 3 := ⟨ok_6_in, tG_of (List.mem_of_getElem? (i := 836) (by decide +kernel)) (by decide +kernel), by decide +kernel, by decide⟩
theorem f_X6_63 : FL RX6 63 6 12 := ⟨RX6, TX6, 27, rfl, by decide, inGX6, tG_of (List.mem_of_getElem? (i := 762) (by decide +kernel)) (by decide +kernel)⟩
theorem p_X6_X6_12 : FP RX6 6 12 .int false := ⟨RX6, TX6, 27, tyX6, rfl, tyX6_ok, nmX6, by decide +kernel, rfl, fun q => by cases q⟩
theorem f_X6_67 : FL RX6 67 6 13 := ⟨RX6, TX6, 27, rfl, by decide, inGX6, tG_of (List.mem_of_getElem? (i := 763) (by decide +kernel)) (by decide +kernel)⟩
theorem ok_6_next : MOK m6_next := ⟨by decide +kernel, tG_of (List.mem_of_getElem? (i := 858) (by decide +kernel)) (by decide +kernel), tG_of (List.mem_of_getElem? (i := 71) (by decide +kernel)) (by decide +kernel), by decide +kernel, by decide +kernel⟩
theorem v_6_next : Jvm.Cond.instanceMethod (mY m6_next) ∈ tG ∧ Jvm.Cond.selects (mY m6_next).cls (mY m6_next) (mY m6_next) ∈ tG := ⟨tG_of (List.mem_of_getElem? (i := 857) (by decide +kernel)) (by decide +kernel), tG_of (List.mem_of_getElem? (i := 36) (by decide +kernel)) (by decide +kernel)⟩
theorem lk_X6_70 : Lk RX6 70 m6_next 0 := ⟨ok_6_next, tG_of (List.mem_of_getElem? (i := 855) (by decide +kernel)) (by decide +kernel), by decide +kernel, by decide⟩
theorem p_X6_X6_13 : FP RX6 6 13 .int false := ⟨RX6, TX6, 27, tyX6, rfl, tyX6_ok, nmX6, by decide +kernel, rfl, fun q => by cases q⟩
theorem f_X6_74 : FL RX6 74 6 14 := ⟨RX6, TX6, 27, rfl, by decide, inGX6, tG_of (List.mem_of_getElem? (i := 764) (by decide +kernel)) (by decide +kernel)⟩
theorem p_X6_X6_14 : FP RX6 6 14 .int false := ⟨RX6, TX6, 27, tyX6, rfl, tyX6_ok, nmX6, by decide +kernel, rfl, fun q => by cases q⟩
theorem ok_6_blanks : MOK m6_blanks := ⟨by decide +kernel, tG_of (List.mem_of_getElem? (i := 854) (by decide +kernel)) (by decide +kernel), tG_of (List.mem_of_getElem? (i := 71) (by decide +kernel)) (by decide +kernel), by decide +kernel, by decide +kernel⟩
theorem v_6_blanks : Jvm.Cond.instanceMethod (mY m6_blanks) ∈ tG ∧ Jvm.Cond.selects (mY m6_blanks).cls (mY m6_blanks) (mY m6_blanks) ∈ tG := ⟨tG_of (List.mem_of_getElem? (i := 853) (by decide +kernel)) (by decide +kernel), tG_of (List.mem_of_getElem? (i := 35) (by decide +kernel)) (by decide +kernel)⟩
theorem lk_X6_77 : Lk RX6 77 m6_blanks 0 := ⟨ok_6_blanks, tG_of (List.mem_of_getElem? (i := 851) (by decide +kernel)) (by decide +kernel), by decide +kernel, by decide⟩
theorem ok_6_fails : MOK m6_fails := ⟨by decide +kernel, tG_of (List.mem_of_getElem? (i := 869) (by decide +kernel)) (by decide +kernel), tG_of (List.mem_of_getElem? (i := 71) (by decide +kernel)) (by decide +kernel), by decide +kernel, by decide +kernel⟩
theorem v_6_fails : Jvm.Cond.instanceMethod (mY m6_fails) ∈ tG ∧ Jvm.Cond.selects (mY m6_fails).cls (mY m6_fails) (mY m6_fails) ∈ tG := ⟨tG_of (List.mem_of_getElem? (i := 868) (by decide +kernel)) (by decide +kernel), tG_of (List.mem_of_getElem? (i := 38) (by decide +kernel)) (by decide +kernel)⟩
theorem lk_X6_80 : Lk RX6 80 m6_fails 1 := ⟨ok_6_fails, tG_of (List.mem_of_getElem? (i := 866) (by decide +kernel)) (by decide +kernel), by decide +kernel, by decide⟩
theorem ok_6_take : MOK m6_take := ⟨by decide +kernel, tG_of (List.mem_of_getElem? (i := 873) (by decide +kernel)) (by decide +kernel), tG_of (List.mem_of_getElem? (i := 71) (by decide +kernel)) (by decide +kernel), by decide +kernel, by decide +kernel⟩
theorem v_6_take : Jvm.Cond.instanceMethod (mY m6_take) ∈ tG ∧ Jvm.Cond.selects (mY m6_take).cls (mY m6_take) (mY m6_take) ∈ tG := ⟨tG_of (List.mem_of_getElem? (i := 872) (by decide +kernel)) (by decide +kernel), tG_of (List.mem_of_getElem? (i := 39) (by decide +kernel)) (by decide +kernel)⟩
theorem lk_X6_84 : Lk RX6 84 m6_take 1 := ⟨ok_6_take, tG_of (List.mem_of_getElem? (i := 870) (by decide +kernel)) (by decide +kernel), by decide +kernel, by decide⟩
theorem ok_6_isDigit : MOK m6_isDigit := ⟨by decide +kernel, tG_of (List.mem_of_getElem? (i := 885) (by decide +kernel)) (by decide +kernel), tG_of (List.mem_of_getElem? (i := 71) (by decide +kernel)) (by decide +kernel), by decide +kernel, by decide +kernel⟩
theorem v_6_isDigit : Jvm.Cond.instanceMethod (mY m6_isDigit) ∈ tG ∧ Jvm.Cond.selects (mY m6_isDigit).cls (mY m6_isDigit) (mY m6_isDigit) ∈ tG := ⟨tG_of (List.mem_of_getElem? (i := 884) (by decide +kernel)) (by decide +kernel), tG_of (List.mem_of_getElem? (i := 42) (by decide +kernel)) (by decide +kernel)⟩
theorem lk_X6_88 : Lk RX6 88 m6_isDigit 0 := ⟨ok_6_isDigit, tG_of (List.mem_of_getElem? (i := 882) (by decide +kernel)) (by decide +kernel), by decide +kernel, by decide⟩
theorem ok_6_number : MOK m6_number := ⟨by decide +kernel, tG_of (List.mem_of_getElem? (i := 881) (by decide +kernel)) (by decide +kernel), tG_of (List.mem_of_getElem? (i := 71) (by decide +kernel)) (by decide +kernel), by decide +kernel, by decide +kernel⟩
theorem v_6_number : Jvm.Cond.instanceMethod (mY m6_number) ∈ tG ∧ Jvm.Cond.selects (mY m6_number).cls (mY m6_number) (mY m6_number) ∈ tG := ⟨tG_of (List.mem_of_getElem? (i := 880) (by decide +kernel)) (by decide +kernel), tG_of (List.mem_of_getElem? (i := 41) (by decide +kernel)) (by decide +kernel)⟩
theorem lk_X6_92 : Lk RX6 92 m6_number 1 := ⟨ok_6_number, tG_of (List.mem_of_getElem? (i := 878) (by decide +kernel)) (by decide +kernel), by decide +kernel, by decide⟩
theorem ok_6_digit : MOK m6_digit := ⟨by decide +kernel, tG_of (List.mem_of_getElem? (i := 889) (by decide +kernel)) (by decide +kernel), tG_of (List.mem_of_getElem? (i := 71) (by decide +kernel)) (by decide +kernel), by decide +kernel, by decide +kernel⟩
theorem v_6_digit : Jvm.Cond.instanceMethod (mY m6_digit) ∈ tG ∧ Jvm.Cond.selects (mY m6_digit).cls (mY m6_digit) (mY m6_digit) ∈ tG := ⟨tG_of (List.mem_of_getElem? (i := 888) (by decide +kernel)) (by decide +kernel), tG_of (List.mem_of_getElem? (i := 43) (by decide +kernel)) (by decide +kernel)⟩
theorem lk_X6_96 : Lk RX6 96 m6_digit 1 := ⟨ok_6_digit, tG_of (List.mem_of_getElem? (i := 886) (by decide +kernel)) (by decide +kernel), by decide +kernel, by decide⟩
theorem ok_6_kindOf : MOK m6_kindOf := ⟨by decide +kernel, tG_of (List.mem_of_getElem? (i := 865) (by decide +kernel)) (by decide +kernel), tG_of (List.mem_of_getElem? (i := 71) (by decide +kernel)) (by decide +kernel), by decide +kernel, by decide +kernel⟩
theorem s_6_kindOf : Jvm.Cond.static (mY m6_kindOf) ∈ tG := tG_of (List.mem_of_getElem? (i := 864) (by decide +kernel)) (by decide +kernel)
theorem lk_X6_99 : Lk RX6 99 m6_kindOf 1 := ⟨ok_6_kindOf, tG_of (List.mem_of_getElem? (i := 863) (by decide +kernel)) (by decide +kernel), by decide +kernel, by decide⟩
theorem f_X6_102 : FL RX6 102 6 3 := ⟨RX6, TX6, 27, rfl, by decide, inGX6, tG_of (List.mem_of_getElem? (i := 753) (by decide +kernel)) (by decide +kernel)⟩
theorem ok_6_voice : MOK m6_voice := ⟨by decide +kernel, tG_of (List.mem_of_getElem? (i := 877) (by decide +kernel)) (by decide +kernel), tG_of (List.mem_of_getElem? (i := 71) (by decide +kernel)) (by decide +kernel), by decide +kernel, by decide +kernel⟩
theorem v_6_voice : Jvm.Cond.instanceMethod (mY m6_voice) ∈ tG ∧ Jvm.Cond.selects (mY m6_voice).cls (mY m6_voice) (mY m6_voice) ∈ tG := ⟨tG_of (List.mem_of_getElem? (i := 876) (by decide +kernel)) (by decide +kernel), tG_of (List.mem_of_getElem? (i := 40) (by decide +kernel)) (by decide +kernel)⟩
theorem lk_X6_105 : Lk RX6 105 m6_voice 0 := ⟨ok_6_voice, tG_of (List.mem_of_getElem? (i := 874) (by decide +kernel)) (by decide +kernel), by decide +kernel, by decide⟩
theorem ok_6_readsOptions : MOK m6_readsOptions := ⟨by decide +kernel, tG_of (List.mem_of_getElem? (i := 893) (by decide +kernel)) (by decide +kernel), tG_of (List.mem_of_getElem? (i := 71) (by decide +kernel)) (by decide +kernel), by decide +kernel, by decide +kernel⟩
theorem v_6_readsOptions : Jvm.Cond.instanceMethod (mY m6_readsOptions) ∈ tG ∧ Jvm.Cond.selects (mY m6_readsOptions).cls (mY m6_readsOptions) (mY m6_readsOptions) ∈ tG := ⟨tG_of (List.mem_of_getElem? (i := 892) (by decide +kernel)) (by decide +kernel), tG_of (List.mem_of_getElem? (i := 44) (by decide +kernel)) (by decide +kernel)⟩
theorem lk_X6_108 : Lk RX6 108 m6_readsOptions 1 := ⟨ok_6_readsOptions, tG_of (List.mem_of_getElem? (i := 890) (by decide +kernel)) (by decide +kernel), by decide +kernel, by decide⟩
theorem p_X6_X6_3 : FP RX6 6 3 .int false := ⟨RX6, TX6, 27, tyX6, rfl, tyX6_ok, nmX6, by decide +kernel, rfl, fun q => by cases q⟩
theorem ok_6_readsNode : MOK m6_readsNode := ⟨by decide +kernel, tG_of (List.mem_of_getElem? (i := 862) (by decide +kernel)) (by decide +kernel), tG_of (List.mem_of_getElem? (i := 71) (by decide +kernel)) (by decide +kernel), by decide +kernel, by decide +kernel⟩
theorem v_6_readsNode : Jvm.Cond.instanceMethod (mY m6_readsNode) ∈ tG ∧ Jvm.Cond.selects (mY m6_readsNode).cls (mY m6_readsNode) (mY m6_readsNode) ∈ tG := ⟨tG_of (List.mem_of_getElem? (i := 861) (by decide +kernel)) (by decide +kernel), tG_of (List.mem_of_getElem? (i := 37) (by decide +kernel)) (by decide +kernel)⟩
theorem lk_X6_111 : Lk RX6 111 m6_readsNode 0 := ⟨ok_6_readsNode, tG_of (List.mem_of_getElem? (i := 859) (by decide +kernel)) (by decide +kernel), by decide +kernel, by decide⟩
theorem ok_6_reads : MOK m6_reads := ⟨by decide +kernel, tG_of (List.mem_of_getElem? (i := 850) (by decide +kernel)) (by decide +kernel), tG_of (List.mem_of_getElem? (i := 71) (by decide +kernel)) (by decide +kernel), by decide +kernel, by decide +kernel⟩
theorem v_6_reads : Jvm.Cond.instanceMethod (mY m6_reads) ∈ tG ∧ Jvm.Cond.selects (mY m6_reads).cls (mY m6_reads) (mY m6_reads) ∈ tG := ⟨tG_of (List.mem_of_getElem? (i := 849) (by decide +kernel)) (by decide +kernel), tG_of (List.mem_of_getElem? (i := 34) (by decide +kernel)) (by decide +kernel)⟩
theorem lk_X6_114 : Lk RX6 114 m6_reads 0 := ⟨ok_6_reads, tG_of (List.mem_of_getElem? (i := 847) (by decide +kernel)) (by decide +kernel), by decide +kernel, by decide⟩
theorem f_X6_116 : FL RX6 116 6 1 := ⟨RX6, TX6, 27, rfl, by decide, inGX6, tG_of (List.mem_of_getElem? (i := 751) (by decide +kernel)) (by decide +kernel)⟩
theorem ok_6_of : MOK m6_of := ⟨by decide +kernel, tG_of (List.mem_of_getElem? (i := 733) (by decide +kernel)) (by decide +kernel), tG_of (List.mem_of_getElem? (i := 71) (by decide +kernel)) (by decide +kernel), by decide +kernel, by decide +kernel⟩
theorem v_6_of : Jvm.Cond.instanceMethod (mY m6_of) ∈ tG ∧ Jvm.Cond.selects (mY m6_of).cls (mY m6_of) (mY m6_of) ∈ tG := ⟨tG_of (List.mem_of_getElem? (i := 732) (by decide +kernel)) (by decide +kernel), tG_of (List.mem_of_getElem? (i := 29) (by decide +kernel)) (by decide +kernel)⟩
theorem lk_X6_119 : Lk RX6 119 m6_of 2 := ⟨ok_6_of, tG_of (List.mem_of_getElem? (i := 730) (by decide +kernel)) (by decide +kernel), by decide +kernel, by decide⟩
theorem ok_6_leaves : MOK m6_leaves := ⟨by decide +kernel, tG_of (List.mem_of_getElem? (i := 741) (by decide +kernel)) (by decide +kernel), tG_of (List.mem_of_getElem? (i := 71) (by decide +kernel)) (by decide +kernel), by decide +kernel, by decide +kernel⟩
theorem v_6_leaves : Jvm.Cond.instanceMethod (mY m6_leaves) ∈ tG ∧ Jvm.Cond.selects (mY m6_leaves).cls (mY m6_leaves) (mY m6_leaves) ∈ tG := ⟨tG_of (List.mem_of_getElem? (i := 740) (by decide +kernel)) (by decide +kernel), tG_of (List.mem_of_getElem? (i := 31) (by decide +kernel)) (by decide +kernel)⟩
theorem lk_X6_123 : Lk RX6 123 m6_leaves 1 := ⟨ok_6_leaves, tG_of (List.mem_of_getElem? (i := 738) (by decide +kernel)) (by decide +kernel), by decide +kernel, by decide⟩
theorem f_X6_126 : FL RX6 126 6 15 := ⟨RX6, TX6, 27, rfl, by decide, inGX6, tG_of (List.mem_of_getElem? (i := 765) (by decide +kernel)) (by decide +kernel)⟩
theorem p_X6_X6_15 : FP RX6 6 15 .int false := ⟨RX6, TX6, 27, tyX6, rfl, tyX6_ok, nmX6, by decide +kernel, rfl, fun q => by cases q⟩
theorem ok_6_shownKind : MOK m6_shownKind := ⟨by decide +kernel, tG_of (List.mem_of_getElem? (i := 729) (by decide +kernel)) (by decide +kernel), tG_of (List.mem_of_getElem? (i := 71) (by decide +kernel)) (by decide +kernel), by decide +kernel, by decide +kernel⟩
theorem v_6_shownKind : Jvm.Cond.instanceMethod (mY m6_shownKind) ∈ tG ∧ Jvm.Cond.selects (mY m6_shownKind).cls (mY m6_shownKind) (mY m6_shownKind) ∈ tG := ⟨tG_of (List.mem_of_getElem? (i := 728) (by decide +kernel)) (by decide +kernel), tG_of (List.mem_of_getElem? (i := 28) (by decide +kernel)) (by decide +kernel)⟩
theorem lk_X6_129 : Lk RX6 129 m6_shownKind 1 := ⟨ok_6_shownKind, tG_of (List.mem_of_getElem? (i := 726) (by decide +kernel)) (by decide +kernel), by decide +kernel, by decide⟩
theorem ok_6_does : MOK m6_does := ⟨by decide +kernel, tG_of (List.mem_of_getElem? (i := 737) (by decide +kernel)) (by decide +kernel), tG_of (List.mem_of_getElem? (i := 71) (by decide +kernel)) (by decide +kernel), by decide +kernel, by decide +kernel⟩
theorem v_6_does : Jvm.Cond.instanceMethod (mY m6_does) ∈ tG ∧ Jvm.Cond.selects (mY m6_does).cls (mY m6_does) (mY m6_does) ∈ tG := ⟨tG_of (List.mem_of_getElem? (i := 736) (by decide +kernel)) (by decide +kernel), tG_of (List.mem_of_getElem? (i := 30) (by decide +kernel)) (by decide +kernel)⟩
theorem lk_X6_132 : Lk RX6 132 m6_does 1 := ⟨ok_6_does, tG_of (List.mem_of_getElem? (i := 734) (by decide +kernel)) (by decide +kernel), by decide +kernel, by decide⟩
theorem f_X6_135 : FL RX6 135 6 5 := ⟨RX6, TX6, 27, rfl, by decide, inGX6, tG_of (List.mem_of_getElem? (i := 755) (by decide +kernel)) (by decide +kernel)⟩
theorem f_X6_138 : FL RX6 138 6 6 := ⟨RX6, TX6, 27, rfl, by decide, inGX6, tG_of (List.mem_of_getElem? (i := 756) (by decide +kernel)) (by decide +kernel)⟩
theorem ok_6_placeOf : MOK m6_placeOf := ⟨by decide +kernel, tG_of (List.mem_of_getElem? (i := 749) (by decide +kernel)) (by decide +kernel), tG_of (List.mem_of_getElem? (i := 71) (by decide +kernel)) (by decide +kernel), by decide +kernel, by decide +kernel⟩
theorem v_6_placeOf : Jvm.Cond.instanceMethod (mY m6_placeOf) ∈ tG ∧ Jvm.Cond.selects (mY m6_placeOf).cls (mY m6_placeOf) (mY m6_placeOf) ∈ tG := ⟨tG_of (List.mem_of_getElem? (i := 748) (by decide +kernel)) (by decide +kernel), tG_of (List.mem_of_getElem? (i := 33) (by decide +kernel)) (by decide +kernel)⟩
theorem lk_X6_141 : Lk RX6 141 m6_placeOf 1 := ⟨ok_6_placeOf, tG_of (List.mem_of_getElem? (i := 746) (by decide +kernel)) (by decide +kernel), by decide +kernel, by decide⟩
theorem f_X6_144 : FL RX6 144 6 10 := ⟨RX6, TX6, 27, rfl, by decide, inGX6, tG_of (List.mem_of_getElem? (i := 760) (by decide +kernel)) (by decide +kernel)⟩
theorem p_X6_X6_10 : FP RX6 6 10 .int false := ⟨RX6, TX6, 27, tyX6, rfl, tyX6_ok, nmX6, by decide +kernel, rfl, fun q => by cases q⟩
theorem ok_6_present : MOK m6_present := ⟨by decide +kernel, tG_of (List.mem_of_getElem? (i := 905) (by decide +kernel)) (by decide +kernel), tG_of (List.mem_of_getElem? (i := 71) (by decide +kernel)) (by decide +kernel), by decide +kernel, by decide +kernel⟩
theorem v_6_present : Jvm.Cond.instanceMethod (mY m6_present) ∈ tG ∧ Jvm.Cond.selects (mY m6_present).cls (mY m6_present) (mY m6_present) ∈ tG := ⟨tG_of (List.mem_of_getElem? (i := 904) (by decide +kernel)) (by decide +kernel), tG_of (List.mem_of_getElem? (i := 45) (by decide +kernel)) (by decide +kernel)⟩
theorem lk_X6_147 : Lk RX6 147 m6_present 1 := ⟨ok_6_present, tG_of (List.mem_of_getElem? (i := 902) (by decide +kernel)) (by decide +kernel), by decide +kernel, by decide⟩
theorem p_X6_X6_5 : FP RX6 6 5 .int false := ⟨RX6, TX6, 27, tyX6, rfl, tyX6_ok, nmX6, by decide +kernel, rfl, fun q => by cases q⟩
theorem p_X6_X6_6 : FP RX6 6 6 .int false := ⟨RX6, TX6, 27, tyX6, rfl, tyX6_ok, nmX6, by decide +kernel, rfl, fun q => by cases q⟩
theorem f_X6_150 : FL RX6 150 6 7 := ⟨RX6, TX6, 27, rfl, by decide, inGX6, tG_of (List.mem_of_getElem? (i := 757) (by decide +kernel)) (by decide +kernel)⟩
theorem p_X6_X6_7 : FP RX6 6 7 .int false := ⟨RX6, TX6, 27, tyX6, rfl, tyX6_ok, nmX6, by decide +kernel, rfl, fun q => by cases q⟩
theorem ok_6_carries : MOK m6_carries := ⟨by decide +kernel, tG_of (List.mem_of_getElem? (i := 725) (by decide +kernel)) (by decide +kernel), tG_of (List.mem_of_getElem? (i := 71) (by decide +kernel)) (by decide +kernel), by decide +kernel, by decide +kernel⟩
theorem v_6_carries : Jvm.Cond.instanceMethod (mY m6_carries) ∈ tG ∧ Jvm.Cond.selects (mY m6_carries).cls (mY m6_carries) (mY m6_carries) ∈ tG := ⟨tG_of (List.mem_of_getElem? (i := 724) (by decide +kernel)) (by decide +kernel), tG_of (List.mem_of_getElem? (i := 27) (by decide +kernel)) (by decide +kernel)⟩
theorem lk_X6_153 : Lk RX6 153 m6_carries 1 := ⟨ok_6_carries, tG_of (List.mem_of_getElem? (i := 722) (by decide +kernel)) (by decide +kernel), by decide +kernel, by decide⟩
theorem ok_6_puts : MOK m6_puts := ⟨by decide +kernel, tG_of (List.mem_of_getElem? (i := 745) (by decide +kernel)) (by decide +kernel), tG_of (List.mem_of_getElem? (i := 71) (by decide +kernel)) (by decide +kernel), by decide +kernel, by decide +kernel⟩
theorem v_6_puts : Jvm.Cond.instanceMethod (mY m6_puts) ∈ tG ∧ Jvm.Cond.selects (mY m6_puts).cls (mY m6_puts) (mY m6_puts) ∈ tG := ⟨tG_of (List.mem_of_getElem? (i := 744) (by decide +kernel)) (by decide +kernel), tG_of (List.mem_of_getElem? (i := 32) (by decide +kernel)) (by decide +kernel)⟩
theorem lk_X6_156 : Lk RX6 156 m6_puts 1 := ⟨ok_6_puts, tG_of (List.mem_of_getElem? (i := 742) (by decide +kernel)) (by decide +kernel), by decide +kernel, by decide⟩
theorem ok_6_takes : MOK m6_takes := ⟨by decide +kernel, tG_of (List.mem_of_getElem? (i := 917) (by decide +kernel)) (by decide +kernel), tG_of (List.mem_of_getElem? (i := 71) (by decide +kernel)) (by decide +kernel), by decide +kernel, by decide +kernel⟩
theorem v_6_takes : Jvm.Cond.instanceMethod (mY m6_takes) ∈ tG ∧ Jvm.Cond.selects (mY m6_takes).cls (mY m6_takes) (mY m6_takes) ∈ tG := ⟨tG_of (List.mem_of_getElem? (i := 916) (by decide +kernel)) (by decide +kernel), tG_of (List.mem_of_getElem? (i := 47) (by decide +kernel)) (by decide +kernel)⟩
theorem lk_X6_159 : Lk RX6 159 m6_takes 0 := ⟨ok_6_takes, tG_of (List.mem_of_getElem? (i := 914) (by decide +kernel)) (by decide +kernel), by decide +kernel, by decide⟩
theorem p_X6_X6_1 : FP RX6 6 1 .int false := ⟨RX6, TX6, 27, tyX6, rfl, tyX6_ok, nmX6, by decide +kernel, rfl, fun q => by cases q⟩
theorem ok_6_goesOn : MOK m6_goesOn := ⟨by decide +kernel, tG_of (List.mem_of_getElem? (i := 913) (by decide +kernel)) (by decide +kernel), tG_of (List.mem_of_getElem? (i := 71) (by decide +kernel)) (by decide +kernel), by decide +kernel, by decide +kernel⟩
theorem v_6_goesOn : Jvm.Cond.instanceMethod (mY m6_goesOn) ∈ tG ∧ Jvm.Cond.selects (mY m6_goesOn).cls (mY m6_goesOn) (mY m6_goesOn) ∈ tG := ⟨tG_of (List.mem_of_getElem? (i := 912) (by decide +kernel)) (by decide +kernel), tG_of (List.mem_of_getElem? (i := 46) (by decide +kernel)) (by decide +kernel)⟩
theorem lk_X6_162 : Lk RX6 162 m6_goesOn 1 := ⟨ok_6_goesOn, tG_of (List.mem_of_getElem? (i := 910) (by decide +kernel)) (by decide +kernel), by decide +kernel, by decide⟩
theorem ok_6_isLocked : MOK m6_isLocked := ⟨by decide +kernel, tG_of (List.mem_of_getElem? (i := 925) (by decide +kernel)) (by decide +kernel), tG_of (List.mem_of_getElem? (i := 71) (by decide +kernel)) (by decide +kernel), by decide +kernel, by decide +kernel⟩
theorem v_6_isLocked : Jvm.Cond.instanceMethod (mY m6_isLocked) ∈ tG ∧ Jvm.Cond.selects (mY m6_isLocked).cls (mY m6_isLocked) (mY m6_isLocked) ∈ tG := ⟨tG_of (List.mem_of_getElem? (i := 924) (by decide +kernel)) (by decide +kernel), tG_of (List.mem_of_getElem? (i := 48) (by decide +kernel)) (by decide +kernel)⟩
theorem lk_X6_165 : Lk RX6 165 m6_isLocked 3 := ⟨ok_6_isLocked, tG_of (List.mem_of_getElem? (i := 922) (by decide +kernel)) (by decide +kernel), by decide +kernel, by decide⟩
theorem ok_6_endOf : MOK m6_endOf := ⟨by decide +kernel, tG_of (List.mem_of_getElem? (i := 953) (by decide +kernel)) (by decide +kernel), tG_of (List.mem_of_getElem? (i := 71) (by decide +kernel)) (by decide +kernel), by decide +kernel, by decide +kernel⟩
theorem v_6_endOf : Jvm.Cond.instanceMethod (mY m6_endOf) ∈ tG ∧ Jvm.Cond.selects (mY m6_endOf).cls (mY m6_endOf) (mY m6_endOf) ∈ tG := ⟨tG_of (List.mem_of_getElem? (i := 952) (by decide +kernel)) (by decide +kernel), tG_of (List.mem_of_getElem? (i := 49) (by decide +kernel)) (by decide +kernel)⟩
theorem lk_X6_168 : Lk RX6 168 m6_endOf 1 := ⟨ok_6_endOf, tG_of (List.mem_of_getElem? (i := 950) (by decide +kernel)) (by decide +kernel), by decide +kernel, by decide⟩
theorem ok_6_open : MOK m6_open := ⟨by decide +kernel, tG_of (List.mem_of_getElem? (i := 957) (by decide +kernel)) (by decide +kernel), tG_of (List.mem_of_getElem? (i := 71) (by decide +kernel)) (by decide +kernel), by decide +kernel, by decide +kernel⟩
theorem v_6_open : Jvm.Cond.instanceMethod (mY m6_open) ∈ tG ∧ Jvm.Cond.selects (mY m6_open).cls (mY m6_open) (mY m6_open) ∈ tG := ⟨tG_of (List.mem_of_getElem? (i := 956) (by decide +kernel)) (by decide +kernel), tG_of (List.mem_of_getElem? (i := 50) (by decide +kernel)) (by decide +kernel)⟩
theorem lk_X6_171 : Lk RX6 171 m6_open 0 := ⟨ok_6_open, tG_of (List.mem_of_getElem? (i := 954) (by decide +kernel)) (by decide +kernel), by decide +kernel, by decide⟩
theorem ok_6_isNode : MOK m6_isNode := ⟨by decide +kernel, tG_of (List.mem_of_getElem? (i := 969) (by decide +kernel)) (by decide +kernel), tG_of (List.mem_of_getElem? (i := 71) (by decide +kernel)) (by decide +kernel), by decide +kernel, by decide +kernel⟩
theorem v_6_isNode : Jvm.Cond.instanceMethod (mY m6_isNode) ∈ tG ∧ Jvm.Cond.selects (mY m6_isNode).cls (mY m6_isNode) (mY m6_isNode) ∈ tG := ⟨tG_of (List.mem_of_getElem? (i := 968) (by decide +kernel)) (by decide +kernel), tG_of (List.mem_of_getElem? (i := 51) (by decide +kernel)) (by decide +kernel)⟩
theorem lk_X6_174 : Lk RX6 174 m6_isNode 1 := ⟨ok_6_isNode, tG_of (List.mem_of_getElem? (i := 966) (by decide +kernel)) (by decide +kernel), by decide +kernel, by decide⟩
theorem ok_6_isChoice : MOK m6_isChoice := ⟨by decide +kernel, tG_of (List.mem_of_getElem? (i := 977) (by decide +kernel)) (by decide +kernel), tG_of (List.mem_of_getElem? (i := 71) (by decide +kernel)) (by decide +kernel), by decide +kernel, by decide +kernel⟩
theorem v_6_isChoice : Jvm.Cond.instanceMethod (mY m6_isChoice) ∈ tG ∧ Jvm.Cond.selects (mY m6_isChoice).cls (mY m6_isChoice) (mY m6_isChoice) ∈ tG := ⟨tG_of (List.mem_of_getElem? (i := 976) (by decide +kernel)) (by decide +kernel), tG_of (List.mem_of_getElem? (i := 52) (by decide +kernel)) (by decide +kernel)⟩
theorem lk_X6_178 : Lk RX6 178 m6_isChoice 1 := ⟨ok_6_isChoice, tG_of (List.mem_of_getElem? (i := 974) (by decide +kernel)) (by decide +kernel), by decide +kernel, by decide⟩
theorem f_X6_181 : FL RX6 181 6 22 := ⟨RX6, TX6, 27, rfl, by decide, inGX6, tG_of (List.mem_of_getElem? (i := 772) (by decide +kernel)) (by decide +kernel)⟩
theorem p_X6_X6_22 : FP RX6 6 22 .int false := ⟨RX6, TX6, 27, tyX6, rfl, tyX6_ok, nmX6, by decide +kernel, rfl, fun q => by cases q⟩
theorem ok_6_follows : MOK m6_follows := ⟨by decide +kernel, tG_of (List.mem_of_getElem? (i := 989) (by decide +kernel)) (by decide +kernel), tG_of (List.mem_of_getElem? (i := 71) (by decide +kernel)) (by decide +kernel), by decide +kernel, by decide +kernel⟩
theorem v_6_follows : Jvm.Cond.instanceMethod (mY m6_follows) ∈ tG ∧ Jvm.Cond.selects (mY m6_follows).cls (mY m6_follows) (mY m6_follows) ∈ tG := ⟨tG_of (List.mem_of_getElem? (i := 988) (by decide +kernel)) (by decide +kernel), tG_of (List.mem_of_getElem? (i := 54) (by decide +kernel)) (by decide +kernel)⟩
theorem lk_X6_184 : Lk RX6 184 m6_follows 3 := ⟨ok_6_follows, tG_of (List.mem_of_getElem? (i := 986) (by decide +kernel)) (by decide +kernel), by decide +kernel, by decide⟩
theorem ok_6_charts : MOK m6_charts := ⟨by decide +kernel, tG_of (List.mem_of_getElem? (i := 985) (by decide +kernel)) (by decide +kernel), tG_of (List.mem_of_getElem? (i := 71) (by decide +kernel)) (by decide +kernel), by decide +kernel, by decide +kernel⟩
theorem v_6_charts : Jvm.Cond.instanceMethod (mY m6_charts) ∈ tG ∧ Jvm.Cond.selects (mY m6_charts).cls (mY m6_charts) (mY m6_charts) ∈ tG := ⟨tG_of (List.mem_of_getElem? (i := 984) (by decide +kernel)) (by decide +kernel), tG_of (List.mem_of_getElem? (i := 53) (by decide +kernel)) (by decide +kernel)⟩
theorem lk_X6_188 : Lk RX6 188 m6_charts 0 := ⟨ok_6_charts, tG_of (List.mem_of_getElem? (i := 982) (by decide +kernel)) (by decide +kernel), by decide +kernel, by decide⟩
theorem ok_6_situationsOf : MOK m6_situationsOf := ⟨by decide +kernel, tG_of (List.mem_of_getElem? (i := 993) (by decide +kernel)) (by decide +kernel), tG_of (List.mem_of_getElem? (i := 71) (by decide +kernel)) (by decide +kernel), by decide +kernel, by decide +kernel⟩
theorem v_6_situationsOf : Jvm.Cond.instanceMethod (mY m6_situationsOf) ∈ tG ∧ Jvm.Cond.selects (mY m6_situationsOf).cls (mY m6_situationsOf) (mY m6_situationsOf) ∈ tG := ⟨tG_of (List.mem_of_getElem? (i := 992) (by decide +kernel)) (by decide +kernel), tG_of (List.mem_of_getElem? (i := 55) (by decide +kernel)) (by decide +kernel)⟩
theorem lk_X6_191 : Lk RX6 191 m6_situationsOf 1 := ⟨ok_6_situationsOf, tG_of (List.mem_of_getElem? (i := 990) (by decide +kernel)) (by decide +kernel), by decide +kernel, by decide⟩
theorem ok_6_isEndNumber : MOK m6_isEndNumber := ⟨by decide +kernel, tG_of (List.mem_of_getElem? (i := 1000) (by decide +kernel)) (by decide +kernel), tG_of (List.mem_of_getElem? (i := 71) (by decide +kernel)) (by decide +kernel), by decide +kernel, by decide +kernel⟩
theorem s_6_isEndNumber : Jvm.Cond.static (mY m6_isEndNumber) ∈ tG := tG_of (List.mem_of_getElem? (i := 999) (by decide +kernel)) (by decide +kernel)
theorem lk_X6_194 : Lk RX6 194 m6_isEndNumber 1 := ⟨ok_6_isEndNumber, tG_of (List.mem_of_getElem? (i := 998) (by decide +kernel)) (by decide +kernel), by decide +kernel, by decide⟩
theorem ok_6_stepsTo : MOK m6_stepsTo := ⟨by decide +kernel, tG_of (List.mem_of_getElem? (i := 1004) (by decide +kernel)) (by decide +kernel), tG_of (List.mem_of_getElem? (i := 71) (by decide +kernel)) (by decide +kernel), by decide +kernel, by decide +kernel⟩
theorem v_6_stepsTo : Jvm.Cond.instanceMethod (mY m6_stepsTo) ∈ tG ∧ Jvm.Cond.selects (mY m6_stepsTo).cls (mY m6_stepsTo) (mY m6_stepsTo) ∈ tG := ⟨tG_of (List.mem_of_getElem? (i := 1003) (by decide +kernel)) (by decide +kernel), tG_of (List.mem_of_getElem? (i := 56) (by decide +kernel)) (by decide +kernel)⟩
theorem lk_X6_197 : Lk RX6 197 m6_stepsTo 1 := ⟨ok_6_stepsTo, tG_of (List.mem_of_getElem? (i := 1001) (by decide +kernel)) (by decide +kernel), by decide +kernel, by decide⟩
theorem ok_6_isUsable : MOK m6_isUsable := ⟨by decide +kernel, tG_of (List.mem_of_getElem? (i := 1016) (by decide +kernel)) (by decide +kernel), tG_of (List.mem_of_getElem? (i := 71) (by decide +kernel)) (by decide +kernel), by decide +kernel, by decide +kernel⟩
theorem v_6_isUsable : Jvm.Cond.instanceMethod (mY m6_isUsable) ∈ tG ∧ Jvm.Cond.selects (mY m6_isUsable).cls (mY m6_isUsable) (mY m6_isUsable) ∈ tG := ⟨tG_of (List.mem_of_getElem? (i := 1015) (by decide +kernel)) (by decide +kernel), tG_of (List.mem_of_getElem? (i := 57) (by decide +kernel)) (by decide +kernel)⟩
theorem lk_X6_200 : Lk RX6 200 m6_isUsable 2 := ⟨ok_6_isUsable, tG_of (List.mem_of_getElem? (i := 1013) (by decide +kernel)) (by decide +kernel), by decide +kernel, by decide⟩
theorem ok_6_seenNodes : MOK m6_seenNodes := ⟨by decide +kernel, tG_of (List.mem_of_getElem? (i := 1024) (by decide +kernel)) (by decide +kernel), tG_of (List.mem_of_getElem? (i := 71) (by decide +kernel)) (by decide +kernel), by decide +kernel, by decide +kernel⟩
theorem v_6_seenNodes : Jvm.Cond.instanceMethod (mY m6_seenNodes) ∈ tG ∧ Jvm.Cond.selects (mY m6_seenNodes).cls (mY m6_seenNodes) (mY m6_seenNodes) ∈ tG := ⟨tG_of (List.mem_of_getElem? (i := 1023) (by decide +kernel)) (by decide +kernel), tG_of (List.mem_of_getElem? (i := 58) (by decide +kernel)) (by decide +kernel)⟩
theorem lk_X6_203 : Lk RX6 203 m6_seenNodes 0 := ⟨ok_6_seenNodes, tG_of (List.mem_of_getElem? (i := 1021) (by decide +kernel)) (by decide +kernel), by decide +kernel, by decide⟩
theorem ok_6_savedMoments : MOK m6_savedMoments := ⟨by decide +kernel, tG_of (List.mem_of_getElem? (i := 1028) (by decide +kernel)) (by decide +kernel), tG_of (List.mem_of_getElem? (i := 71) (by decide +kernel)) (by decide +kernel), by decide +kernel, by decide +kernel⟩
theorem v_6_savedMoments : Jvm.Cond.instanceMethod (mY m6_savedMoments) ∈ tG ∧ Jvm.Cond.selects (mY m6_savedMoments).cls (mY m6_savedMoments) (mY m6_savedMoments) ∈ tG := ⟨tG_of (List.mem_of_getElem? (i := 1027) (by decide +kernel)) (by decide +kernel), tG_of (List.mem_of_getElem? (i := 59) (by decide +kernel)) (by decide +kernel)⟩
theorem lk_X6_206 : Lk RX6 206 m6_savedMoments 0 := ⟨ok_6_savedMoments, tG_of (List.mem_of_getElem? (i := 1025) (by decide +kernel)) (by decide +kernel), by decide +kernel, by decide⟩
theorem ok_6_ends : MOK m6_ends := ⟨by decide +kernel, tG_of (List.mem_of_getElem? (i := 1032) (by decide +kernel)) (by decide +kernel), tG_of (List.mem_of_getElem? (i := 71) (by decide +kernel)) (by decide +kernel), by decide +kernel, by decide +kernel⟩
theorem v_6_ends : Jvm.Cond.instanceMethod (mY m6_ends) ∈ tG ∧ Jvm.Cond.selects (mY m6_ends).cls (mY m6_ends) (mY m6_ends) ∈ tG := ⟨tG_of (List.mem_of_getElem? (i := 1031) (by decide +kernel)) (by decide +kernel), tG_of (List.mem_of_getElem? (i := 60) (by decide +kernel)) (by decide +kernel)⟩
theorem lk_X6_209 : Lk RX6 209 m6_ends 0 := ⟨ok_6_ends, tG_of (List.mem_of_getElem? (i := 1029) (by decide +kernel)) (by decide +kernel), by decide +kernel, by decide⟩
theorem f_X6_214 : FL RX6 214 6 26 := ⟨RX6, TX6, 27, rfl, by decide, inGX6, tG_of (List.mem_of_getElem? (i := 776) (by decide +kernel)) (by decide +kernel)⟩
theorem p_X6_X6_26 : FP RX6 6 26 .long false := ⟨RX6, TX6, 27, tyX6, rfl, tyX6_ok, nmX6, by decide +kernel, rfl, fun q => by cases q⟩
theorem ok_6_mixes : MOK m6_mixes := ⟨by decide +kernel, tG_of (List.mem_of_getElem? (i := 1042) (by decide +kernel)) (by decide +kernel), tG_of (List.mem_of_getElem? (i := 71) (by decide +kernel)) (by decide +kernel), by decide +kernel, by decide +kernel⟩
theorem v_6_mixes : Jvm.Cond.instanceMethod (mY m6_mixes) ∈ tG ∧ Jvm.Cond.selects (mY m6_mixes).cls (mY m6_mixes) (mY m6_mixes) ∈ tG := ⟨tG_of (List.mem_of_getElem? (i := 1041) (by decide +kernel)) (by decide +kernel), tG_of (List.mem_of_getElem? (i := 61) (by decide +kernel)) (by decide +kernel)⟩
theorem lk_X6_218 : Lk RX6 218 m6_mixes 1 := ⟨ok_6_mixes, tG_of (List.mem_of_getElem? (i := 1039) (by decide +kernel)) (by decide +kernel), by decide +kernel, by decide⟩
theorem ok_6_option : MOK m6_option := ⟨by decide +kernel, tG_of (List.mem_of_getElem? (i := 973) (by decide +kernel)) (by decide +kernel), tG_of (List.mem_of_getElem? (i := 71) (by decide +kernel)) (by decide +kernel), by decide +kernel, by decide +kernel⟩
theorem v_6_option : Jvm.Cond.instanceMethod (mY m6_option) ∈ tG ∧ Jvm.Cond.selects (mY m6_option).cls (mY m6_option) (mY m6_option) ∈ tG := ⟨tG_of (List.mem_of_getElem? (i := 971) (by decide +kernel)) (by decide +kernel), tG_of (List.mem_of_getElem? (i := 972) (by decide +kernel)) (by decide +kernel)⟩
theorem lk_X6_221 : Lk RX6 221 m6_option 3 := ⟨ok_6_option, tG_of (List.mem_of_getElem? (i := 1050) (by decide +kernel)) (by decide +kernel), by decide +kernel, by decide⟩
theorem ok_6_count : MOK m6_count := ⟨by decide +kernel, tG_of (List.mem_of_getElem? (i := 1020) (by decide +kernel)) (by decide +kernel), tG_of (List.mem_of_getElem? (i := 71) (by decide +kernel)) (by decide +kernel), by decide +kernel, by decide +kernel⟩
theorem v_6_count : Jvm.Cond.instanceMethod (mY m6_count) ∈ tG ∧ Jvm.Cond.selects (mY m6_count).cls (mY m6_count) (mY m6_count) ∈ tG := ⟨tG_of (List.mem_of_getElem? (i := 1018) (by decide +kernel)) (by decide +kernel), tG_of (List.mem_of_getElem? (i := 1019) (by decide +kernel)) (by decide +kernel)⟩
theorem lk_X6_227 : Lk RX6 227 m6_count 1 := ⟨ok_6_count, tG_of (List.mem_of_getElem? (i := 1038) (by decide +kernel)) (by decide +kernel), by decide +kernel, by decide⟩
theorem ok_6_shown : MOK m6_shown := ⟨by decide +kernel, tG_of (List.mem_of_getElem? (i := 949) (by decide +kernel)) (by decide +kernel), tG_of (List.mem_of_getElem? (i := 71) (by decide +kernel)) (by decide +kernel), by decide +kernel, by decide +kernel⟩
theorem v_6_shown : Jvm.Cond.instanceMethod (mY m6_shown) ∈ tG ∧ Jvm.Cond.selects (mY m6_shown).cls (mY m6_shown) (mY m6_shown) ∈ tG := ⟨tG_of (List.mem_of_getElem? (i := 947) (by decide +kernel)) (by decide +kernel), tG_of (List.mem_of_getElem? (i := 948) (by decide +kernel)) (by decide +kernel)⟩
theorem lk_X6_229 : Lk RX6 229 m6_shown 1 := ⟨ok_6_shown, tG_of (List.mem_of_getElem? (i := 1044) (by decide +kernel)) (by decide +kernel), by decide +kernel, by decide⟩
theorem ok_6_portrait : MOK m6_portrait := ⟨by decide +kernel, tG_of (List.mem_of_getElem? (i := 961) (by decide +kernel)) (by decide +kernel), tG_of (List.mem_of_getElem? (i := 71) (by decide +kernel)) (by decide +kernel), by decide +kernel, by decide +kernel⟩
theorem v_6_portrait : Jvm.Cond.instanceMethod (mY m6_portrait) ∈ tG ∧ Jvm.Cond.selects (mY m6_portrait).cls (mY m6_portrait) (mY m6_portrait) ∈ tG := ⟨tG_of (List.mem_of_getElem? (i := 959) (by decide +kernel)) (by decide +kernel), tG_of (List.mem_of_getElem? (i := 960) (by decide +kernel)) (by decide +kernel)⟩
theorem lk_X6_232 : Lk RX6 232 m6_portrait 2 := ⟨ok_6_portrait, tG_of (List.mem_of_getElem? (i := 1045) (by decide +kernel)) (by decide +kernel), by decide +kernel, by decide⟩
theorem ok_6_mixesNode : MOK m6_mixesNode := ⟨by decide +kernel, tG_of (List.mem_of_getElem? (i := 1049) (by decide +kernel)) (by decide +kernel), tG_of (List.mem_of_getElem? (i := 71) (by decide +kernel)) (by decide +kernel), by decide +kernel, by decide +kernel⟩
theorem v_6_mixesNode : Jvm.Cond.instanceMethod (mY m6_mixesNode) ∈ tG ∧ Jvm.Cond.selects (mY m6_mixesNode).cls (mY m6_mixesNode) (mY m6_mixesNode) ∈ tG := ⟨tG_of (List.mem_of_getElem? (i := 1048) (by decide +kernel)) (by decide +kernel), tG_of (List.mem_of_getElem? (i := 62) (by decide +kernel)) (by decide +kernel)⟩
theorem lk_X6_236 : Lk RX6 236 m6_mixesNode 1 := ⟨ok_6_mixesNode, tG_of (List.mem_of_getElem? (i := 1046) (by decide +kernel)) (by decide +kernel), by decide +kernel, by decide⟩
theorem nw_X5 : (∀ j, j < 4 → ([vN, vN, vN, vN] : List AV)[j]? = some (dfv (tyX5 j)) ∧ ∀ G : GD, cv G (dfv (tyX5 j)) = defaultValue (tyX5 j)) ∧ (∀ v ∈ ([vN, vN, vN, vN] : List AV), vok v) := by
  refine ⟨fun j hj => ?_, fun v hv => ?_⟩
  · rcases (by omega : j = 0 ∨ j = 1 ∨ j = 2 ∨ j = 3) with rfl | rfl | rfl | rfl <;> exact ⟨rfl, fun G => rfl⟩
  · simp only [List.mem_cons, List.not_mem_nil, or_false] at hv
    rcases hv with rfl | rfl | rfl | rfl <;> first | trivial | (exact ⟨by decide, by decide⟩)
theorem ok_5_init : MOK m5_init := ⟨by decide +kernel, tG_of (List.mem_of_getElem? (i := 83) (by decide +kernel)) (by decide +kernel), tG_of (List.mem_of_getElem? (i := 64) (by decide +kernel)) (by decide +kernel), by decide +kernel, by decide +kernel⟩
theorem i_5_init : Jvm.Cond.instanceMethod (mY m5_init) ∈ tG := tG_of (List.mem_of_getElem? (i := 82) (by decide +kernel)) (by decide +kernel)
theorem l_L_9 : Jvm.Cond.methodLink RL 9 (mY m5_init) ∈ tG := tG_of (List.mem_of_getElem? (i := 81) (by decide +kernel)) (by decide +kernel)
theorem nw_X6 : (∀ j, j < 27 → ([vN, vI 0, vN, vI 0, vN, vI 0, vI 0, vI 0, vN, vN, vI 0, vN, vI 0, vI 0, vI 0, vI 0, vN, vN, vN, vN, vN, vN, vI 0, vN, vN, vN, vL 0] : List AV)[j]? = some (dfv (tyX6 j)) ∧ ∀ G : GD, cv G (dfv (tyX6 j)) = defaultValue (tyX6 j)) ∧ (∀ v ∈ ([vN, vI 0, vN, vI 0, vN, vI 0, vI 0, vI 0, vN, vN, vI 0, vN, vI 0, vI 0, vI 0, vI 0, vN, vN, vN, vN, vN, vN, vI 0, vN, vN, vN, vL 0] : List AV), vok v) := by
  refine ⟨fun j hj => ?_, fun v hv => ?_⟩
  · rcases (by omega : j = 0 ∨ j = 1 ∨ j = 2 ∨ j = 3 ∨ j = 4 ∨ j = 5 ∨ j = 6 ∨ j = 7 ∨ j = 8 ∨ j = 9 ∨ j = 10 ∨ j = 11 ∨ j = 12 ∨ j = 13 ∨ j = 14 ∨ j = 15 ∨ j = 16 ∨ j = 17 ∨ j = 18 ∨ j = 19 ∨ j = 20 ∨ j = 21 ∨ j = 22 ∨ j = 23 ∨ j = 24 ∨ j = 25 ∨ j = 26) with rfl | rfl | rfl | rfl | rfl | rfl | rfl | rfl | rfl | rfl | rfl | rfl | rfl | rfl | rfl | rfl | rfl | rfl | rfl | rfl | rfl | rfl | rfl | rfl | rfl | rfl | rfl <;> exact ⟨rfl, fun G => rfl⟩
  · simp only [List.mem_cons, List.not_mem_nil, or_false] at hv
    rcases hv with rfl | rfl | rfl | rfl | rfl | rfl | rfl | rfl | rfl | rfl | rfl | rfl | rfl | rfl | rfl | rfl | rfl | rfl | rfl | rfl | rfl | rfl | rfl | rfl | rfl | rfl | rfl <;> first | trivial | (exact ⟨by decide, by decide⟩)
theorem ok_6_init : MOK m6_init := ⟨by decide +kernel, tG_of (List.mem_of_getElem? (i := 716) (by decide +kernel)) (by decide +kernel), tG_of (List.mem_of_getElem? (i := 71) (by decide +kernel)) (by decide +kernel), by decide +kernel, by decide +kernel⟩
theorem i_6_init : Jvm.Cond.instanceMethod (mY m6_init) ∈ tG := tG_of (List.mem_of_getElem? (i := 715) (by decide +kernel)) (by decide +kernel)
theorem l_L_12 : Jvm.Cond.methodLink RL 12 (mY m6_init) ∈ tG := tG_of (List.mem_of_getElem? (i := 714) (by decide +kernel)) (by decide +kernel)
theorem ok_5_type : MOK m5_type := ⟨by decide +kernel, tG_of (List.mem_of_getElem? (i := 355) (by decide +kernel)) (by decide +kernel), tG_of (List.mem_of_getElem? (i := 64) (by decide +kernel)) (by decide +kernel), by decide +kernel, by decide +kernel⟩
theorem v_5_type : Jvm.Cond.instanceMethod (mY m5_type) ∈ tG ∧ Jvm.Cond.selects (mY m5_type).cls (mY m5_type) (mY m5_type) ∈ tG := ⟨tG_of (List.mem_of_getElem? (i := 353) (by decide +kernel)) (by decide +kernel), tG_of (List.mem_of_getElem? (i := 354) (by decide +kernel)) (by decide +kernel)⟩
theorem lk_L_13 : Lk RL 13 m5_type 1 := ⟨ok_5_type, tG_of (List.mem_of_getElem? (i := 352) (by decide +kernel)) (by decide +kernel), by decide +kernel, by decide⟩
theorem ok_6_type : MOK m6_type := ⟨by decide +kernel, tG_of (List.mem_of_getElem? (i := 835) (by decide +kernel)) (by decide +kernel), tG_of (List.mem_of_getElem? (i := 71) (by decide +kernel)) (by decide +kernel), by decide +kernel, by decide +kernel⟩
theorem v_6_type : Jvm.Cond.instanceMethod (mY m6_type) ∈ tG ∧ Jvm.Cond.selects (mY m6_type).cls (mY m6_type) (mY m6_type) ∈ tG := ⟨tG_of (List.mem_of_getElem? (i := 833) (by decide +kernel)) (by decide +kernel), tG_of (List.mem_of_getElem? (i := 834) (by decide +kernel)) (by decide +kernel)⟩
theorem lk_L_17 : Lk RL 17 m6_type 1 := ⟨ok_6_type, tG_of (List.mem_of_getElem? (i := 832) (by decide +kernel)) (by decide +kernel), by decide +kernel, by decide⟩
theorem ok_5_clearText : MOK m5_clearText := ⟨by decide +kernel, tG_of (List.mem_of_getElem? (i := 363) (by decide +kernel)) (by decide +kernel), tG_of (List.mem_of_getElem? (i := 64) (by decide +kernel)) (by decide +kernel), by decide +kernel, by decide +kernel⟩
theorem v_5_clearText : Jvm.Cond.instanceMethod (mY m5_clearText) ∈ tG ∧ Jvm.Cond.selects (mY m5_clearText).cls (mY m5_clearText) (mY m5_clearText) ∈ tG := ⟨tG_of (List.mem_of_getElem? (i := 361) (by decide +kernel)) (by decide +kernel), tG_of (List.mem_of_getElem? (i := 362) (by decide +kernel)) (by decide +kernel)⟩
theorem lk_L_18 : Lk RL 18 m5_clearText 0 := ⟨ok_5_clearText, tG_of (List.mem_of_getElem? (i := 360) (by decide +kernel)) (by decide +kernel), by decide +kernel, by decide⟩
theorem ok_6_clearText : MOK m6_clearText := ⟨by decide +kernel, tG_of (List.mem_of_getElem? (i := 842) (by decide +kernel)) (by decide +kernel), tG_of (List.mem_of_getElem? (i := 71) (by decide +kernel)) (by decide +kernel), by decide +kernel, by decide +kernel⟩
theorem v_6_clearText : Jvm.Cond.instanceMethod (mY m6_clearText) ∈ tG ∧ Jvm.Cond.selects (mY m6_clearText).cls (mY m6_clearText) (mY m6_clearText) ∈ tG := ⟨tG_of (List.mem_of_getElem? (i := 840) (by decide +kernel)) (by decide +kernel), tG_of (List.mem_of_getElem? (i := 841) (by decide +kernel)) (by decide +kernel)⟩
theorem lk_L_22 : Lk RL 22 m6_clearText 0 := ⟨ok_6_clearText, tG_of (List.mem_of_getElem? (i := 839) (by decide +kernel)) (by decide +kernel), by decide +kernel, by decide⟩
theorem ok_5_fault : MOK m5_fault := ⟨by decide +kernel, tG_of (List.mem_of_getElem? (i := 367) (by decide +kernel)) (by decide +kernel), tG_of (List.mem_of_getElem? (i := 64) (by decide +kernel)) (by decide +kernel), by decide +kernel, by decide +kernel⟩
theorem v_5_fault : Jvm.Cond.instanceMethod (mY m5_fault) ∈ tG ∧ Jvm.Cond.selects (mY m5_fault).cls (mY m5_fault) (mY m5_fault) ∈ tG := ⟨tG_of (List.mem_of_getElem? (i := 365) (by decide +kernel)) (by decide +kernel), tG_of (List.mem_of_getElem? (i := 366) (by decide +kernel)) (by decide +kernel)⟩
theorem lk_L_23 : Lk RL 23 m5_fault 0 := ⟨ok_5_fault, tG_of (List.mem_of_getElem? (i := 364) (by decide +kernel)) (by decide +kernel), by decide +kernel, by decide⟩
theorem ok_6_fault : MOK m6_fault := ⟨by decide +kernel, tG_of (List.mem_of_getElem? (i := 846) (by decide +kernel)) (by decide +kernel), tG_of (List.mem_of_getElem? (i := 71) (by decide +kernel)) (by decide +kernel), by decide +kernel, by decide +kernel⟩
theorem v_6_fault : Jvm.Cond.instanceMethod (mY m6_fault) ∈ tG ∧ Jvm.Cond.selects (mY m6_fault).cls (mY m6_fault) (mY m6_fault) ∈ tG := ⟨tG_of (List.mem_of_getElem? (i := 844) (by decide +kernel)) (by decide +kernel), tG_of (List.mem_of_getElem? (i := 845) (by decide +kernel)) (by decide +kernel)⟩
theorem lk_L_26 : Lk RL 26 m6_fault 0 := ⟨ok_6_fault, tG_of (List.mem_of_getElem? (i := 843) (by decide +kernel)) (by decide +kernel), by decide +kernel, by decide⟩
theorem ok_5_read : MOK m5_read := ⟨by decide +kernel, tG_of (List.mem_of_getElem? (i := 534) (by decide +kernel)) (by decide +kernel), tG_of (List.mem_of_getElem? (i := 64) (by decide +kernel)) (by decide +kernel), by decide +kernel, by decide +kernel⟩
theorem v_5_read : Jvm.Cond.instanceMethod (mY m5_read) ∈ tG ∧ Jvm.Cond.selects (mY m5_read).cls (mY m5_read) (mY m5_read) ∈ tG := ⟨tG_of (List.mem_of_getElem? (i := 532) (by decide +kernel)) (by decide +kernel), tG_of (List.mem_of_getElem? (i := 533) (by decide +kernel)) (by decide +kernel)⟩
theorem lk_L_27 : Lk RL 27 m5_read 0 := ⟨ok_5_read, tG_of (List.mem_of_getElem? (i := 531) (by decide +kernel)) (by decide +kernel), by decide +kernel, by decide⟩
theorem ok_6_read : MOK m6_read := ⟨by decide +kernel, tG_of (List.mem_of_getElem? (i := 897) (by decide +kernel)) (by decide +kernel), tG_of (List.mem_of_getElem? (i := 71) (by decide +kernel)) (by decide +kernel), by decide +kernel, by decide +kernel⟩
theorem v_6_read : Jvm.Cond.instanceMethod (mY m6_read) ∈ tG ∧ Jvm.Cond.selects (mY m6_read).cls (mY m6_read) (mY m6_read) ∈ tG := ⟨tG_of (List.mem_of_getElem? (i := 895) (by decide +kernel)) (by decide +kernel), tG_of (List.mem_of_getElem? (i := 896) (by decide +kernel)) (by decide +kernel)⟩
theorem lk_L_30 : Lk RL 30 m6_read 0 := ⟨ok_6_read, tG_of (List.mem_of_getElem? (i := 894) (by decide +kernel)) (by decide +kernel), by decide +kernel, by decide⟩
theorem ok_5_begin : MOK m5_begin := ⟨by decide +kernel, tG_of (List.mem_of_getElem? (i := 538) (by decide +kernel)) (by decide +kernel), tG_of (List.mem_of_getElem? (i := 64) (by decide +kernel)) (by decide +kernel), by decide +kernel, by decide +kernel⟩
theorem v_5_begin : Jvm.Cond.instanceMethod (mY m5_begin) ∈ tG ∧ Jvm.Cond.selects (mY m5_begin).cls (mY m5_begin) (mY m5_begin) ∈ tG := ⟨tG_of (List.mem_of_getElem? (i := 536) (by decide +kernel)) (by decide +kernel), tG_of (List.mem_of_getElem? (i := 537) (by decide +kernel)) (by decide +kernel)⟩
theorem lk_L_31 : Lk RL 31 m5_begin 0 := ⟨ok_5_begin, tG_of (List.mem_of_getElem? (i := 535) (by decide +kernel)) (by decide +kernel), by decide +kernel, by decide⟩
theorem ok_6_begin : MOK m6_begin := ⟨by decide +kernel, tG_of (List.mem_of_getElem? (i := 901) (by decide +kernel)) (by decide +kernel), tG_of (List.mem_of_getElem? (i := 71) (by decide +kernel)) (by decide +kernel), by decide +kernel, by decide +kernel⟩
theorem v_6_begin : Jvm.Cond.instanceMethod (mY m6_begin) ∈ tG ∧ Jvm.Cond.selects (mY m6_begin).cls (mY m6_begin) (mY m6_begin) ∈ tG := ⟨tG_of (List.mem_of_getElem? (i := 899) (by decide +kernel)) (by decide +kernel), tG_of (List.mem_of_getElem? (i := 900) (by decide +kernel)) (by decide +kernel)⟩
theorem lk_L_34 : Lk RL 34 m6_begin 0 := ⟨ok_6_begin, tG_of (List.mem_of_getElem? (i := 898) (by decide +kernel)) (by decide +kernel), by decide +kernel, by decide⟩
theorem ok_5_go : MOK m5_go := ⟨by decide +kernel, tG_of (List.mem_of_getElem? (i := 544) (by decide +kernel)) (by decide +kernel), tG_of (List.mem_of_getElem? (i := 64) (by decide +kernel)) (by decide +kernel), by decide +kernel, by decide +kernel⟩
theorem v_5_go : Jvm.Cond.instanceMethod (mY m5_go) ∈ tG ∧ Jvm.Cond.selects (mY m5_go).cls (mY m5_go) (mY m5_go) ∈ tG := ⟨tG_of (List.mem_of_getElem? (i := 542) (by decide +kernel)) (by decide +kernel), tG_of (List.mem_of_getElem? (i := 543) (by decide +kernel)) (by decide +kernel)⟩
theorem lk_L_35 : Lk RL 35 m5_go 0 := ⟨ok_5_go, tG_of (List.mem_of_getElem? (i := 541) (by decide +kernel)) (by decide +kernel), by decide +kernel, by decide⟩
theorem ok_6_go : MOK m6_go := ⟨by decide +kernel, tG_of (List.mem_of_getElem? (i := 909) (by decide +kernel)) (by decide +kernel), tG_of (List.mem_of_getElem? (i := 71) (by decide +kernel)) (by decide +kernel), by decide +kernel, by decide +kernel⟩
theorem v_6_go : Jvm.Cond.instanceMethod (mY m6_go) ∈ tG ∧ Jvm.Cond.selects (mY m6_go).cls (mY m6_go) (mY m6_go) ∈ tG := ⟨tG_of (List.mem_of_getElem? (i := 907) (by decide +kernel)) (by decide +kernel), tG_of (List.mem_of_getElem? (i := 908) (by decide +kernel)) (by decide +kernel)⟩
theorem lk_L_38 : Lk RL 38 m6_go 0 := ⟨ok_6_go, tG_of (List.mem_of_getElem? (i := 906) (by decide +kernel)) (by decide +kernel), by decide +kernel, by decide⟩
theorem ok_5_choose : MOK m5_choose := ⟨by decide +kernel, tG_of (List.mem_of_getElem? (i := 572) (by decide +kernel)) (by decide +kernel), tG_of (List.mem_of_getElem? (i := 64) (by decide +kernel)) (by decide +kernel), by decide +kernel, by decide +kernel⟩
theorem v_5_choose : Jvm.Cond.instanceMethod (mY m5_choose) ∈ tG ∧ Jvm.Cond.selects (mY m5_choose).cls (mY m5_choose) (mY m5_choose) ∈ tG := ⟨tG_of (List.mem_of_getElem? (i := 570) (by decide +kernel)) (by decide +kernel), tG_of (List.mem_of_getElem? (i := 571) (by decide +kernel)) (by decide +kernel)⟩
theorem lk_L_39 : Lk RL 39 m5_choose 1 := ⟨ok_5_choose, tG_of (List.mem_of_getElem? (i := 569) (by decide +kernel)) (by decide +kernel), by decide +kernel, by decide⟩
theorem ok_6_choose : MOK m6_choose := ⟨by decide +kernel, tG_of (List.mem_of_getElem? (i := 921) (by decide +kernel)) (by decide +kernel), tG_of (List.mem_of_getElem? (i := 71) (by decide +kernel)) (by decide +kernel), by decide +kernel, by decide +kernel⟩
theorem v_6_choose : Jvm.Cond.instanceMethod (mY m6_choose) ∈ tG ∧ Jvm.Cond.selects (mY m6_choose).cls (mY m6_choose) (mY m6_choose) ∈ tG := ⟨tG_of (List.mem_of_getElem? (i := 919) (by decide +kernel)) (by decide +kernel), tG_of (List.mem_of_getElem? (i := 920) (by decide +kernel)) (by decide +kernel)⟩
theorem lk_L_42 : Lk RL 42 m6_choose 1 := ⟨ok_6_choose, tG_of (List.mem_of_getElem? (i := 918) (by decide +kernel)) (by decide +kernel), by decide +kernel, by decide⟩
theorem ok_5_skip : MOK m5_skip := ⟨by decide +kernel, tG_of (List.mem_of_getElem? (i := 578) (by decide +kernel)) (by decide +kernel), tG_of (List.mem_of_getElem? (i := 64) (by decide +kernel)) (by decide +kernel), by decide +kernel, by decide +kernel⟩
theorem v_5_skip : Jvm.Cond.instanceMethod (mY m5_skip) ∈ tG ∧ Jvm.Cond.selects (mY m5_skip).cls (mY m5_skip) (mY m5_skip) ∈ tG := ⟨tG_of (List.mem_of_getElem? (i := 576) (by decide +kernel)) (by decide +kernel), tG_of (List.mem_of_getElem? (i := 577) (by decide +kernel)) (by decide +kernel)⟩
theorem lk_L_43 : Lk RL 43 m5_skip 0 := ⟨ok_5_skip, tG_of (List.mem_of_getElem? (i := 575) (by decide +kernel)) (by decide +kernel), by decide +kernel, by decide⟩
theorem ok_6_skip : MOK m6_skip := ⟨by decide +kernel, tG_of (List.mem_of_getElem? (i := 929) (by decide +kernel)) (by decide +kernel), tG_of (List.mem_of_getElem? (i := 71) (by decide +kernel)) (by decide +kernel), by decide +kernel, by decide +kernel⟩
theorem v_6_skip : Jvm.Cond.instanceMethod (mY m6_skip) ∈ tG ∧ Jvm.Cond.selects (mY m6_skip).cls (mY m6_skip) (mY m6_skip) ∈ tG := ⟨tG_of (List.mem_of_getElem? (i := 927) (by decide +kernel)) (by decide +kernel), tG_of (List.mem_of_getElem? (i := 928) (by decide +kernel)) (by decide +kernel)⟩
theorem lk_L_46 : Lk RL 46 m6_skip 0 := ⟨ok_6_skip, tG_of (List.mem_of_getElem? (i := 926) (by decide +kernel)) (by decide +kernel), by decide +kernel, by decide⟩
theorem ok_5_back : MOK m5_back := ⟨by decide +kernel, tG_of (List.mem_of_getElem? (i := 582) (by decide +kernel)) (by decide +kernel), tG_of (List.mem_of_getElem? (i := 64) (by decide +kernel)) (by decide +kernel), by decide +kernel, by decide +kernel⟩
theorem v_5_back : Jvm.Cond.instanceMethod (mY m5_back) ∈ tG ∧ Jvm.Cond.selects (mY m5_back).cls (mY m5_back) (mY m5_back) ∈ tG := ⟨tG_of (List.mem_of_getElem? (i := 580) (by decide +kernel)) (by decide +kernel), tG_of (List.mem_of_getElem? (i := 581) (by decide +kernel)) (by decide +kernel)⟩
theorem lk_L_47 : Lk RL 47 m5_back 1 := ⟨ok_5_back, tG_of (List.mem_of_getElem? (i := 579) (by decide +kernel)) (by decide +kernel), by decide +kernel, by decide⟩
theorem ok_6_back : MOK m6_back := ⟨by decide +kernel, tG_of (List.mem_of_getElem? (i := 933) (by decide +kernel)) (by decide +kernel), tG_of (List.mem_of_getElem? (i := 71) (by decide +kernel)) (by decide +kernel), by decide +kernel, by decide +kernel⟩
theorem v_6_back : Jvm.Cond.instanceMethod (mY m6_back) ∈ tG ∧ Jvm.Cond.selects (mY m6_back).cls (mY m6_back) (mY m6_back) ∈ tG := ⟨tG_of (List.mem_of_getElem? (i := 931) (by decide +kernel)) (by decide +kernel), tG_of (List.mem_of_getElem? (i := 932) (by decide +kernel)) (by decide +kernel)⟩
theorem lk_L_50 : Lk RL 50 m6_back 1 := ⟨ok_6_back, tG_of (List.mem_of_getElem? (i := 930) (by decide +kernel)) (by decide +kernel), by decide +kernel, by decide⟩
theorem ok_5_again : MOK m5_again := ⟨by decide +kernel, tG_of (List.mem_of_getElem? (i := 590) (by decide +kernel)) (by decide +kernel), tG_of (List.mem_of_getElem? (i := 64) (by decide +kernel)) (by decide +kernel), by decide +kernel, by decide +kernel⟩
theorem v_5_again : Jvm.Cond.instanceMethod (mY m5_again) ∈ tG ∧ Jvm.Cond.selects (mY m5_again).cls (mY m5_again) (mY m5_again) ∈ tG := ⟨tG_of (List.mem_of_getElem? (i := 588) (by decide +kernel)) (by decide +kernel), tG_of (List.mem_of_getElem? (i := 589) (by decide +kernel)) (by decide +kernel)⟩
theorem lk_L_51 : Lk RL 51 m5_again 0 := ⟨ok_5_again, tG_of (List.mem_of_getElem? (i := 587) (by decide +kernel)) (by decide +kernel), by decide +kernel, by decide⟩
theorem ok_6_again : MOK m6_again := ⟨by decide +kernel, tG_of (List.mem_of_getElem? (i := 937) (by decide +kernel)) (by decide +kernel), tG_of (List.mem_of_getElem? (i := 71) (by decide +kernel)) (by decide +kernel), by decide +kernel, by decide +kernel⟩
theorem v_6_again : Jvm.Cond.instanceMethod (mY m6_again) ∈ tG ∧ Jvm.Cond.selects (mY m6_again).cls (mY m6_again) (mY m6_again) ∈ tG := ⟨tG_of (List.mem_of_getElem? (i := 935) (by decide +kernel)) (by decide +kernel), tG_of (List.mem_of_getElem? (i := 936) (by decide +kernel)) (by decide +kernel)⟩
theorem lk_L_54 : Lk RL 54 m6_again 0 := ⟨ok_6_again, tG_of (List.mem_of_getElem? (i := 934) (by decide +kernel)) (by decide +kernel), by decide +kernel, by decide⟩
theorem ok_5_save : MOK m5_save := ⟨by decide +kernel, tG_of (List.mem_of_getElem? (i := 598) (by decide +kernel)) (by decide +kernel), tG_of (List.mem_of_getElem? (i := 64) (by decide +kernel)) (by decide +kernel), by decide +kernel, by decide +kernel⟩
theorem v_5_save : Jvm.Cond.instanceMethod (mY m5_save) ∈ tG ∧ Jvm.Cond.selects (mY m5_save).cls (mY m5_save) (mY m5_save) ∈ tG := ⟨tG_of (List.mem_of_getElem? (i := 596) (by decide +kernel)) (by decide +kernel), tG_of (List.mem_of_getElem? (i := 597) (by decide +kernel)) (by decide +kernel)⟩
theorem lk_L_55 : Lk RL 55 m5_save 1 := ⟨ok_5_save, tG_of (List.mem_of_getElem? (i := 595) (by decide +kernel)) (by decide +kernel), by decide +kernel, by decide⟩
theorem ok_6_save : MOK m6_save := ⟨by decide +kernel, tG_of (List.mem_of_getElem? (i := 941) (by decide +kernel)) (by decide +kernel), tG_of (List.mem_of_getElem? (i := 71) (by decide +kernel)) (by decide +kernel), by decide +kernel, by decide +kernel⟩
theorem v_6_save : Jvm.Cond.instanceMethod (mY m6_save) ∈ tG ∧ Jvm.Cond.selects (mY m6_save).cls (mY m6_save) (mY m6_save) ∈ tG := ⟨tG_of (List.mem_of_getElem? (i := 939) (by decide +kernel)) (by decide +kernel), tG_of (List.mem_of_getElem? (i := 940) (by decide +kernel)) (by decide +kernel)⟩
theorem lk_L_58 : Lk RL 58 m6_save 1 := ⟨ok_6_save, tG_of (List.mem_of_getElem? (i := 938) (by decide +kernel)) (by decide +kernel), by decide +kernel, by decide⟩
theorem ok_5_restore : MOK m5_restore := ⟨by decide +kernel, tG_of (List.mem_of_getElem? (i := 606) (by decide +kernel)) (by decide +kernel), tG_of (List.mem_of_getElem? (i := 64) (by decide +kernel)) (by decide +kernel), by decide +kernel, by decide +kernel⟩
theorem v_5_restore : Jvm.Cond.instanceMethod (mY m5_restore) ∈ tG ∧ Jvm.Cond.selects (mY m5_restore).cls (mY m5_restore) (mY m5_restore) ∈ tG := ⟨tG_of (List.mem_of_getElem? (i := 604) (by decide +kernel)) (by decide +kernel), tG_of (List.mem_of_getElem? (i := 605) (by decide +kernel)) (by decide +kernel)⟩
theorem lk_L_59 : Lk RL 59 m5_restore 1 := ⟨ok_5_restore, tG_of (List.mem_of_getElem? (i := 603) (by decide +kernel)) (by decide +kernel), by decide +kernel, by decide⟩
theorem ok_6_restore : MOK m6_restore := ⟨by decide +kernel, tG_of (List.mem_of_getElem? (i := 945) (by decide +kernel)) (by decide +kernel), tG_of (List.mem_of_getElem? (i := 71) (by decide +kernel)) (by decide +kernel), by decide +kernel, by decide +kernel⟩
theorem v_6_restore : Jvm.Cond.instanceMethod (mY m6_restore) ∈ tG ∧ Jvm.Cond.selects (mY m6_restore).cls (mY m6_restore) (mY m6_restore) ∈ tG := ⟨tG_of (List.mem_of_getElem? (i := 943) (by decide +kernel)) (by decide +kernel), tG_of (List.mem_of_getElem? (i := 944) (by decide +kernel)) (by decide +kernel)⟩
theorem lk_L_62 : Lk RL 62 m6_restore 1 := ⟨ok_6_restore, tG_of (List.mem_of_getElem? (i := 942) (by decide +kernel)) (by decide +kernel), by decide +kernel, by decide⟩
theorem lk_L_63 : Lk RL 63 m5_shown 1 := ⟨ok_5_shown, tG_of (List.mem_of_getElem? (i := 611) (by decide +kernel)) (by decide +kernel), by decide +kernel, by decide⟩
theorem lk_L_66 : Lk RL 66 m6_shown 1 := ⟨ok_6_shown, tG_of (List.mem_of_getElem? (i := 946) (by decide +kernel)) (by decide +kernel), by decide +kernel, by decide⟩
theorem lk_L_67 : Lk RL 67 m5_portrait 2 := ⟨ok_5_portrait, tG_of (List.mem_of_getElem? (i := 622) (by decide +kernel)) (by decide +kernel), by decide +kernel, by decide⟩
theorem lk_L_71 : Lk RL 71 m6_portrait 2 := ⟨ok_6_portrait, tG_of (List.mem_of_getElem? (i := 958) (by decide +kernel)) (by decide +kernel), by decide +kernel, by decide⟩
theorem lk_L_72 : Lk RL 72 m5_node 2 := ⟨ok_5_node, tG_of (List.mem_of_getElem? (i := 626) (by decide +kernel)) (by decide +kernel), by decide +kernel, by decide⟩
theorem ok_6_node : MOK m6_node := ⟨by decide +kernel, tG_of (List.mem_of_getElem? (i := 965) (by decide +kernel)) (by decide +kernel), tG_of (List.mem_of_getElem? (i := 71) (by decide +kernel)) (by decide +kernel), by decide +kernel, by decide +kernel⟩
theorem v_6_node : Jvm.Cond.instanceMethod (mY m6_node) ∈ tG ∧ Jvm.Cond.selects (mY m6_node).cls (mY m6_node) (mY m6_node) ∈ tG := ⟨tG_of (List.mem_of_getElem? (i := 963) (by decide +kernel)) (by decide +kernel), tG_of (List.mem_of_getElem? (i := 964) (by decide +kernel)) (by decide +kernel)⟩
theorem lk_L_76 : Lk RL 76 m6_node 2 := ⟨ok_6_node, tG_of (List.mem_of_getElem? (i := 962) (by decide +kernel)) (by decide +kernel), by decide +kernel, by decide⟩
theorem lk_L_77 : Lk RL 77 m5_option 3 := ⟨ok_5_option, tG_of (List.mem_of_getElem? (i := 632) (by decide +kernel)) (by decide +kernel), by decide +kernel, by decide⟩
theorem lk_L_81 : Lk RL 81 m6_option 3 := ⟨ok_6_option, tG_of (List.mem_of_getElem? (i := 970) (by decide +kernel)) (by decide +kernel), by decide +kernel, by decide⟩
theorem lk_L_82 : Lk RL 82 m5_situations 1 := ⟨ok_5_situations, tG_of (List.mem_of_getElem? (i := 636) (by decide +kernel)) (by decide +kernel), by decide +kernel, by decide⟩
theorem ok_6_situations : MOK m6_situations := ⟨by decide +kernel, tG_of (List.mem_of_getElem? (i := 981) (by decide +kernel)) (by decide +kernel), tG_of (List.mem_of_getElem? (i := 71) (by decide +kernel)) (by decide +kernel), by decide +kernel, by decide +kernel⟩
theorem v_6_situations : Jvm.Cond.instanceMethod (mY m6_situations) ∈ tG ∧ Jvm.Cond.selects (mY m6_situations).cls (mY m6_situations) (mY m6_situations) ∈ tG := ⟨tG_of (List.mem_of_getElem? (i := 979) (by decide +kernel)) (by decide +kernel), tG_of (List.mem_of_getElem? (i := 980) (by decide +kernel)) (by decide +kernel)⟩
theorem lk_L_85 : Lk RL 85 m6_situations 1 := ⟨ok_6_situations, tG_of (List.mem_of_getElem? (i := 978) (by decide +kernel)) (by decide +kernel), by decide +kernel, by decide⟩
theorem ok_5_choicesTo : MOK m5_choicesTo := ⟨by decide +kernel, tG_of (List.mem_of_getElem? (i := 651) (by decide +kernel)) (by decide +kernel), tG_of (List.mem_of_getElem? (i := 64) (by decide +kernel)) (by decide +kernel), by decide +kernel, by decide +kernel⟩
theorem v_5_choicesTo : Jvm.Cond.instanceMethod (mY m5_choicesTo) ∈ tG ∧ Jvm.Cond.selects (mY m5_choicesTo).cls (mY m5_choicesTo) (mY m5_choicesTo) ∈ tG := ⟨tG_of (List.mem_of_getElem? (i := 649) (by decide +kernel)) (by decide +kernel), tG_of (List.mem_of_getElem? (i := 650) (by decide +kernel)) (by decide +kernel)⟩
theorem lk_L_86 : Lk RL 86 m5_choicesTo 1 := ⟨ok_5_choicesTo, tG_of (List.mem_of_getElem? (i := 648) (by decide +kernel)) (by decide +kernel), by decide +kernel, by decide⟩
theorem ok_6_choicesTo : MOK m6_choicesTo := ⟨by decide +kernel, tG_of (List.mem_of_getElem? (i := 997) (by decide +kernel)) (by decide +kernel), tG_of (List.mem_of_getElem? (i := 71) (by decide +kernel)) (by decide +kernel), by decide +kernel, by decide +kernel⟩
theorem v_6_choicesTo : Jvm.Cond.instanceMethod (mY m6_choicesTo) ∈ tG ∧ Jvm.Cond.selects (mY m6_choicesTo).cls (mY m6_choicesTo) (mY m6_choicesTo) ∈ tG := ⟨tG_of (List.mem_of_getElem? (i := 995) (by decide +kernel)) (by decide +kernel), tG_of (List.mem_of_getElem? (i := 996) (by decide +kernel)) (by decide +kernel)⟩
theorem lk_L_89 : Lk RL 89 m6_choicesTo 1 := ⟨ok_6_choicesTo, tG_of (List.mem_of_getElem? (i := 994) (by decide +kernel)) (by decide +kernel), by decide +kernel, by decide⟩
theorem ok_5_wayTo : MOK m5_wayTo := ⟨by decide +kernel, tG_of (List.mem_of_getElem? (i := 660) (by decide +kernel)) (by decide +kernel), tG_of (List.mem_of_getElem? (i := 64) (by decide +kernel)) (by decide +kernel), by decide +kernel, by decide +kernel⟩
theorem v_5_wayTo : Jvm.Cond.instanceMethod (mY m5_wayTo) ∈ tG ∧ Jvm.Cond.selects (mY m5_wayTo).cls (mY m5_wayTo) (mY m5_wayTo) ∈ tG := ⟨tG_of (List.mem_of_getElem? (i := 658) (by decide +kernel)) (by decide +kernel), tG_of (List.mem_of_getElem? (i := 659) (by decide +kernel)) (by decide +kernel)⟩
theorem lk_L_90 : Lk RL 90 m5_wayTo 2 := ⟨ok_5_wayTo, tG_of (List.mem_of_getElem? (i := 657) (by decide +kernel)) (by decide +kernel), by decide +kernel, by decide⟩
theorem ok_6_wayTo : MOK m6_wayTo := ⟨by decide +kernel, tG_of (List.mem_of_getElem? (i := 1008) (by decide +kernel)) (by decide +kernel), tG_of (List.mem_of_getElem? (i := 71) (by decide +kernel)) (by decide +kernel), by decide +kernel, by decide +kernel⟩
theorem v_6_wayTo : Jvm.Cond.instanceMethod (mY m6_wayTo) ∈ tG ∧ Jvm.Cond.selects (mY m6_wayTo).cls (mY m6_wayTo) (mY m6_wayTo) ∈ tG := ⟨tG_of (List.mem_of_getElem? (i := 1006) (by decide +kernel)) (by decide +kernel), tG_of (List.mem_of_getElem? (i := 1007) (by decide +kernel)) (by decide +kernel)⟩
theorem lk_L_93 : Lk RL 93 m6_wayTo 2 := ⟨ok_6_wayTo, tG_of (List.mem_of_getElem? (i := 1005) (by decide +kernel)) (by decide +kernel), by decide +kernel, by decide⟩
theorem lk_L_94 : Lk RL 94 m5_usable 2 := ⟨ok_5_usable, tG_of (List.mem_of_getElem? (i := 666) (by decide +kernel)) (by decide +kernel), by decide +kernel, by decide⟩
theorem ok_6_usable : MOK m6_usable := ⟨by decide +kernel, tG_of (List.mem_of_getElem? (i := 1012) (by decide +kernel)) (by decide +kernel), tG_of (List.mem_of_getElem? (i := 71) (by decide +kernel)) (by decide +kernel), by decide +kernel, by decide +kernel⟩
theorem v_6_usable : Jvm.Cond.instanceMethod (mY m6_usable) ∈ tG ∧ Jvm.Cond.selects (mY m6_usable).cls (mY m6_usable) (mY m6_usable) ∈ tG := ⟨tG_of (List.mem_of_getElem? (i := 1010) (by decide +kernel)) (by decide +kernel), tG_of (List.mem_of_getElem? (i := 1011) (by decide +kernel)) (by decide +kernel)⟩
theorem lk_L_97 : Lk RL 97 m6_usable 2 := ⟨ok_6_usable, tG_of (List.mem_of_getElem? (i := 1009) (by decide +kernel)) (by decide +kernel), by decide +kernel, by decide⟩
theorem lk_L_98 : Lk RL 98 m5_count 1 := ⟨ok_5_count, tG_of (List.mem_of_getElem? (i := 675) (by decide +kernel)) (by decide +kernel), by decide +kernel, by decide⟩
theorem lk_L_101 : Lk RL 101 m6_count 1 := ⟨ok_6_count, tG_of (List.mem_of_getElem? (i := 1017) (by decide +kernel)) (by decide +kernel), by decide +kernel, by decide⟩
theorem ok_5_digest : MOK m5_digest := ⟨by decide +kernel, tG_of (List.mem_of_getElem? (i := 694) (by decide +kernel)) (by decide +kernel), tG_of (List.mem_of_getElem? (i := 64) (by decide +kernel)) (by decide +kernel), by decide +kernel, by decide +kernel⟩
theorem v_5_digest : Jvm.Cond.instanceMethod (mY m5_digest) ∈ tG ∧ Jvm.Cond.selects (mY m5_digest).cls (mY m5_digest) (mY m5_digest) ∈ tG := ⟨tG_of (List.mem_of_getElem? (i := 692) (by decide +kernel)) (by decide +kernel), tG_of (List.mem_of_getElem? (i := 693) (by decide +kernel)) (by decide +kernel)⟩
theorem lk_L_102 : Lk RL 102 m5_digest 0 := ⟨ok_5_digest, tG_of (List.mem_of_getElem? (i := 691) (by decide +kernel)) (by decide +kernel), by decide +kernel, by decide⟩
theorem ok_6_digest : MOK m6_digest := ⟨by decide +kernel, tG_of (List.mem_of_getElem? (i := 1036) (by decide +kernel)) (by decide +kernel), tG_of (List.mem_of_getElem? (i := 71) (by decide +kernel)) (by decide +kernel), by decide +kernel, by decide +kernel⟩
theorem v_6_digest : Jvm.Cond.instanceMethod (mY m6_digest) ∈ tG ∧ Jvm.Cond.selects (mY m6_digest).cls (mY m6_digest) (mY m6_digest) ∈ tG := ⟨tG_of (List.mem_of_getElem? (i := 1034) (by decide +kernel)) (by decide +kernel), tG_of (List.mem_of_getElem? (i := 1035) (by decide +kernel)) (by decide +kernel)⟩
theorem lk_L_106 : Lk RL 106 m6_digest 0 := ⟨ok_6_digest, tG_of (List.mem_of_getElem? (i := 1033) (by decide +kernel)) (by decide +kernel), by decide +kernel, by decide⟩
end
