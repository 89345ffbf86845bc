/-! ===== methods, and what their calls and fields need of the tables ===== -/
theorem inGX0 : ∀ w ∈ u_ws RX0 TX0 8, w ∈ tG := fun w h => tG_of (inX0 w h) (List.all_eq_true.mp (by decide +kernel : (u_ws RX0 TX0 8).all goodWord = true) w h)
theorem inGX1 : ∀ w ∈ u_ws RX1 TX1 4, w ∈ tG := fun w h => tG_of (inX1 w h) (List.all_eq_true.mp (by decide +kernel : (u_ws RX1 TX1 4).all goodWord = true) w h)
theorem inGX2 : ∀ w ∈ u_ws RX2 TX2 6, w ∈ tG := fun w h => tG_of (inX2 w h) (List.all_eq_true.mp (by decide +kernel : (u_ws RX2 TX2 6).all goodWord = true) w h)
theorem inGX3 : ∀ w ∈ u_ws RX3 TX3 6, w ∈ tG := fun w h => tG_of (inX3 w h) (List.all_eq_true.mp (by decide +kernel : (u_ws RX3 TX3 6).all goodWord = true) w h)
theorem inGX4 : ∀ w ∈ u_ws RX4 TX4 5, w ∈ tG := fun w h => tG_of (inX4 w h) (List.all_eq_true.mp (by decide +kernel : (u_ws RX4 TX4 5).all goodWord = true) w h)
theorem inGX5 : ∀ w ∈ u_ws RX5 TX5 4, w ∈ tG := fun w h => tG_of (inX5 w h) (List.all_eq_true.mp (by decide +kernel : (u_ws RX5 TX5 4).all goodWord = true) w h)
theorem inGX6 : ∀ w ∈ u_ws RX6 TX6 27, w ∈ tG := fun w h => tG_of (inX6 w h) (List.all_eq_true.mp (by decide +kernel : (u_ws RX6 TX6 27).all goodWord = true) w h)
def m0_init : MT := (yX0_init, cX0_init, 1, none, true, 8, 7958)
def m0_draw : MT := (yX0_draw, cX0_draw, 6, none, false, 0, 0)
def m0_reachedWith : MT := (yX0_reachedWith, cX0_reachedWith, 4, (some .int), false, 0, 0)
def m0_reachedEnds : MT := (yX0_reachedEnds, cX0_reachedEnds, 3, (some .int), false, 0, 0)
def m0_wayLength : MT := (yX0_wayLength, cX0_wayLength, 2, (some .int), false, 0, 0)
def m0_wayChoice : MT := (yX0_wayChoice, cX0_wayChoice, 6, (some .int), false, 0, 0)
def m0_canUse : MT := (yX0_canUse, cX0_canUse, 5, (some .boolean), false, 0, 0)
def m0_follow : MT := (yX0_follow, cX0_follow, 9, none, false, 0, 0)
def m0_arrive : MT := (yX0_arrive, cX0_arrive, 5, none, false, 0, 0)
def m0_isReached : MT := (yX0_isReached, cX0_isReached, 4, (some .boolean), false, 0, 0)
def m0_isSituation : MT := (yX0_isSituation, cX0_isSituation, 1, (some .boolean), false, 0, 0)
def m0_nodeOf : MT := (yX0_nodeOf, cX0_nodeOf, 1, (some .int), false, 0, 0)
def m0_flagsOf : MT := (yX0_flagsOf, cX0_flagsOf, 1, (some .int), false, 0, 0)
def m1_init : MT := (yX1_init, cX1_init, 1, none, true, 2, 6)
def m1_makeEmpty : MT := (yX1_makeEmpty, cX1_makeEmpty, 1, none, false, 0, 0)
def m1_makeLike : MT := (yX1_makeLike, cX1_makeLike, 2, none, false, 0, 0)
def m1_comeFrom : MT := (yX1_comeFrom, cX1_comeFrom, 5, none, false, 0, 0)
def m1_carryOut : MT := (yX1_carryOut, cX1_carryOut, 5, (some .int), false, 0, 0)
def m1_putAt : MT := (yX1_putAt, cX1_putAt, 4, none, false, 0, 0)
def m1_hide : MT := (yX1_hide, cX1_hide, 3, none, false, 0, 0)
def m2_init : MT := (yX2_init, cX2_init, 2, none, true, 73, 287)
def m2_now : MT := (yX2_now, cX2_now, 1, (some (.object "PictureScript$Moment")), false, 0, 0)
def m2_startScript : MT := (yX2_startScript, cX2_startScript, 3, none, false, 0, 0)
def m2_startAnew : MT := (yX2_startAnew, cX2_startAnew, 2, none, false, 0, 0)
def m2_goOn : MT := (yX2_goOn, cX2_goOn, 4, (some .boolean), false, 0, 0)
def m2_turnBack : MT := (yX2_turnBack, cX2_turnBack, 2, (some .boolean), false, 0, 0)
def m2_turnForth : MT := (yX2_turnForth, cX2_turnForth, 1, (some .boolean), false, 0, 0)
def m2_keepIn : MT := (yX2_keepIn, cX2_keepIn, 2, none, false, 0, 0)
def m2_takeFrom : MT := (yX2_takeFrom, cX2_takeFrom, 2, (some .boolean), false, 0, 0)
def m2_seenNodes : MT := (yX2_seenNodes, cX2_seenNodes, 3, (some .int), false, 0, 0)
def m2_usedSlots : MT := (yX2_usedSlots, cX2_usedSlots, 3, (some .int), false, 0, 0)
def m2_keepOneMoment : MT := (yX2_keepOneMoment, cX2_keepOneMoment, 1, none, false, 0, 0)
def m2_forgetEarliest : MT := (yX2_forgetEarliest, cX2_forgetEarliest, 3, none, false, 0, 0)
def m2_see : MT := (yX2_see, cX2_see, 3, (some .boolean), false, 0, 0)
def m3_init : MT := (yX3_init, cX3_init, 1, none, true, 5, 522)
def m3_clear : MT := (yX3_clear, cX3_clear, 1, none, false, 0, 0)
def m3_addNode : MT := (yX3_addNode, cX3_addNode, 2, none, false, 0, 0)
def m3_addNumber : MT := (yX3_addNumber, cX3_addNumber, 4, none, false, 0, 0)
def m3_addOption : MT := (yX3_addOption, cX3_addOption, 7, none, false, 0, 0)
def m3_has : MT := (yX3_has, cX3_has, 2, (some .boolean), false, 0, 0)
def m3_kindOf : MT := (yX3_kindOf, cX3_kindOf, 2, (some .int), false, 0, 0)
def m3_optionsOf : MT := (yX3_optionsOf, cX3_optionsOf, 2, (some .int), false, 0, 0)
def m3_numberOf : MT := (yX3_numberOf, cX3_numberOf, 3, (some .int), false, 0, 0)
def m3_optionPart : MT := (yX3_optionPart, cX3_optionPart, 4, (some .int), false, 0, 0)
def m3_isOpen : MT := (yX3_isOpen, cX3_isOpen, 6, (some .boolean), false, 0, 0)
def m3_openOptions : MT := (yX3_openOptions, cX3_openOptions, 5, (some .int), false, 0, 0)
def m3_isShown : MT := (yX3_isShown, cX3_isShown, 3, (some .boolean), false, 0, 0)
def m3_shownKind : MT := (yX3_shownKind, cX3_shownKind, 3, (some .int), false, 0, 0)
def m3_shownNumber : MT := (yX3_shownNumber, cX3_shownNumber, 2, (some .int), false, 0, 0)
def m4_init : MT := (yX4_init, cX4_init, 1, none, true, 7, 628)
def m4_append : MT := (yX4_append, cX4_append, 2, (some .boolean), false, 0, 0)
def m4_byteAt : MT := (yX4_byteAt, cX4_byteAt, 2, (some .int), false, 0, 0)
def m4_findFault : MT := (yX4_findFault, cX4_findFault, 2, (some .int), false, 0, 0)
def m4_takeNode : MT := (yX4_takeNode, cX4_takeNode, 2, (some .boolean), false, 0, 0)
def m4_takeOptions : MT := (yX4_takeOptions, cX4_takeOptions, 2, (some .boolean), false, 0, 0)
def m4_takeOption : MT := (yX4_takeOption, cX4_takeOption, 3, (some .boolean), false, 0, 0)
def m4_addVoice : MT := (yX4_addVoice, cX4_addVoice, 2, (some .boolean), false, 0, 0)
def m4_addPlusOrMinus : MT := (yX4_addPlusOrMinus, cX4_addPlusOrMinus, 2, (some .boolean), false, 0, 0)
def m4_addDigit : MT := (yX4_addDigit, cX4_addDigit, 2, (some .boolean), false, 0, 0)
def m4_addNumber : MT := (yX4_addNumber, cX4_addNumber, 2, (some .boolean), false, 0, 0)
def m4_takeDigit : MT := (yX4_takeDigit, cX4_takeDigit, 2, (some .boolean), false, 0, 0)
def m4_takeNumber : MT := (yX4_takeNumber, cX4_takeNumber, 3, (some .boolean), false, 0, 0)
def m4_takeSign : MT := (yX4_takeSign, cX4_takeSign, 2, (some .boolean), false, 0, 0)
def m4_skipBlanks : MT := (yX4_skipBlanks, cX4_skipBlanks, 1, none, false, 0, 0)
def m4_isAtDigit : MT := (yX4_isAtDigit, cX4_isAtDigit, 1, (some .boolean), false, 0, 0)
def m4_isAtEnd : MT := (yX4_isAtEnd, cX4_isAtEnd, 1, (some .boolean), false, 0, 0)
def m4_here : MT := (yX4_here, cX4_here, 1, (some .int), false, 0, 0)
def m5_init : MT := (yX5_init, cX5_init, 1, none, true, 97, 9420)
def m5_type : MT := (yX5_type, cX5_type, 2, (some .int), false, 0, 0)
def m5_clearText : MT := (yX5_clearText, cX5_clearText, 2, (some .int), false, 0, 0)
def m5_fault : MT := (yX5_fault, cX5_fault, 1, (some .int), false, 0, 0)
def m5_read : MT := (yX5_read, cX5_read, 2, (some .int), false, 0, 0)
def m5_begin : MT := (yX5_begin, cX5_begin, 1, (some .int), false, 0, 0)
def m5_go : MT := (yX5_go, cX5_go, 1, (some .int), false, 0, 0)
def m5_choose : MT := (yX5_choose, cX5_choose, 3, (some .int), false, 0, 0)
def m5_skip : MT := (yX5_skip, cX5_skip, 3, (some .int), false, 0, 0)
def m5_back : MT := (yX5_back, cX5_back, 2, (some .int), false, 0, 0)
def m5_again : MT := (yX5_again, cX5_again, 1, (some .int), false, 0, 0)
def m5_save : MT := (yX5_save, cX5_save, 2, (some .int), false, 0, 0)
def m5_restore : MT := (yX5_restore, cX5_restore, 2, (some .int), false, 0, 0)
def m5_shown : MT := (yX5_shown, cX5_shown, 3, (some .int), false, 0, 0)
def m5_portrait : MT := (yX5_portrait, cX5_portrait, 4, (some .int), false, 0, 0)
def m5_node : MT := (yX5_node, cX5_node, 3, (some .int), false, 0, 0)
def m5_option : MT := (yX5_option, cX5_option, 4, (some .int), false, 0, 0)
def m5_situations : MT := (yX5_situations, cX5_situations, 2, (some .int), false, 0, 0)
def m5_choicesTo : MT := (yX5_choicesTo, cX5_choicesTo, 3, (some .int), false, 0, 0)
def m5_wayTo : MT := (yX5_wayTo, cX5_wayTo, 4, (some .int), false, 0, 0)
def m5_usable : MT := (yX5_usable, cX5_usable, 3, (some .int), false, 0, 0)
def m5_count : MT := (yX5_count, cX5_count, 2, (some .int), false, 0, 0)
def m5_digest : MT := (yX5_digest, cX5_digest, 4, (some .long), false, 0, 0)
def m5_digestNode : MT := (yX5_digestNode, cX5_digestNode, 8, (some .long), false, 0, 0)
def m5_isLineShown : MT := (yX5_isLineShown, cX5_isLineShown, 1, (some .boolean), false, 0, 0)
def m5_goOnFromLine : MT := (yX5_goOnFromLine, cX5_goOnFromLine, 1, (some .boolean), false, 0, 0)
def m5_endIndex : MT := (yX5_endIndex, cX5_endIndex, 1, (some .int), false, 0, 0)
def m6_init : MT := (yX6_init, cX6_init, 1, none, true, 15, 8964)
def m6_in : MT := (yX6_in, cX6_in, 3, (some .boolean), false, 0, 0)
def m6_type : MT := (yX6_type, cX6_type, 2, (some .int), false, 0, 0)
def m6_clearText : MT := (yX6_clearText, cX6_clearText, 2, (some .int), false, 0, 0)
def m6_next : MT := (yX6_next, cX6_next, 1, (some .int), false, 0, 0)
def m6_isDigit : MT := (yX6_isDigit, cX6_isDigit, 1, (some .boolean), false, 0, 0)
def m6_blanks : MT := (yX6_blanks, cX6_blanks, 1, none, false, 0, 0)
def m6_fails : MT := (yX6_fails, cX6_fails, 2, none, false, 0, 0)
def m6_take : MT := (yX6_take, cX6_take, 3, (some .int), false, 0, 0)
def m6_voice : MT := (yX6_voice, cX6_voice, 1, (some .int), false, 0, 0)
def m6_digit : MT := (yX6_digit, cX6_digit, 3, (some .int), false, 0, 0)
def m6_number : MT := (yX6_number, cX6_number, 4, (some .int), false, 0, 0)
def m6_kindOf : MT := (yX6_kindOf, cX6_kindOf, 1, (some .int), false, 0, 0)
def m6_readsOptions : MT := (yX6_readsOptions, cX6_readsOptions, 5, none, false, 0, 0)
def m6_readsNode : MT := (yX6_readsNode, cX6_readsNode, 4, none, false, 0, 0)
def m6_reads : MT := (yX6_reads, cX6_reads, 1, none, false, 0, 0)
def m6_fault : MT := (yX6_fault, cX6_fault, 1, (some .int), false, 0, 0)
def m6_of : MT := (yX6_of, cX6_of, 3, (some .int), false, 0, 0)
def m6_shownKind : MT := (yX6_shownKind, cX6_shownKind, 3, (some .int), false, 0, 0)
def m6_endOf : MT := (yX6_endOf, cX6_endOf, 2, (some .int), false, 0, 0)
def m6_leaves : MT := (yX6_leaves, cX6_leaves, 3, none, false, 0, 0)
def m6_does : MT := (yX6_does, cX6_does, 4, (some .int), false, 0, 0)
def m6_carries : MT := (yX6_carries, cX6_carries, 4, (some .int), false, 0, 0)
def m6_isLocked : MT := (yX6_isLocked, cX6_isLocked, 6, (some .boolean), false, 0, 0)
def m6_placeOf : MT := (yX6_placeOf, cX6_placeOf, 2, (some .int), false, 0, 0)
def m6_present : MT := (yX6_present, cX6_present, 2, (some .int), false, 0, 0)
def m6_puts : MT := (yX6_puts, cX6_puts, 4, none, false, 0, 0)
def m6_takes : MT := (yX6_takes, cX6_takes, 2, none, false, 0, 0)
def m6_starts : MT := (yX6_starts, cX6_starts, 2, none, false, 0, 0)
def m6_goesOn : MT := (yX6_goesOn, cX6_goesOn, 3, none, false, 0, 0)
def m6_read : MT := (yX6_read, cX6_read, 2, (some .int), false, 0, 0)
def m6_begin : MT := (yX6_begin, cX6_begin, 1, (some .int), false, 0, 0)
def m6_go : MT := (yX6_go, cX6_go, 1, (some .int), false, 0, 0)
def m6_choose : MT := (yX6_choose, cX6_choose, 3, (some .int), false, 0, 0)
def m6_skip : MT := (yX6_skip, cX6_skip, 4, (some .int), false, 0, 0)
def m6_back : MT := (yX6_back, cX6_back, 2, (some .int), false, 0, 0)
def m6_again : MT := (yX6_again, cX6_again, 1, (some .int), false, 0, 0)
def m6_save : MT := (yX6_save, cX6_save, 3, (some .int), false, 0, 0)
def m6_restore : MT := (yX6_restore, cX6_restore, 3, (some .int), false, 0, 0)
def m6_open : MT := (yX6_open, cX6_open, 4, (some .int), false, 0, 0)
def m6_shown : MT := (yX6_shown, cX6_shown, 4, (some .int), false, 0, 0)
def m6_portrait : MT := (yX6_portrait, cX6_portrait, 3, (some .int), false, 0, 0)
def m6_isNode : MT := (yX6_isNode, cX6_isNode, 2, (some .boolean), false, 0, 0)
def m6_node : MT := (yX6_node, cX6_node, 3, (some .int), false, 0, 0)
def m6_isChoice : MT := (yX6_isChoice, cX6_isChoice, 2, (some .boolean), false, 0, 0)
def m6_option : MT := (yX6_option, cX6_option, 5, (some .int), false, 0, 0)
def m6_follows : MT := (yX6_follows, cX6_follows, 7, none, false, 0, 0)
def m6_charts : MT := (yX6_charts, cX6_charts, 4, none, false, 0, 0)
def m6_situationsOf : MT := (yX6_situationsOf, cX6_situationsOf, 4, (some .int), false, 0, 0)
def m6_situations : MT := (yX6_situations, cX6_situations, 2, (some .int), false, 0, 0)
def m6_isEndNumber : MT := (yX6_isEndNumber, cX6_isEndNumber, 1, (some .boolean), false, 0, 0)
def m6_stepsTo : MT := (yX6_stepsTo, cX6_stepsTo, 4, (some .int), false, 0, 0)
def m6_choicesTo : MT := (yX6_choicesTo, cX6_choicesTo, 2, (some .int), false, 0, 0)
def m6_wayTo : MT := (yX6_wayTo, cX6_wayTo, 7, (some .int), false, 0, 0)
def m6_isUsable : MT := (yX6_isUsable, cX6_isUsable, 4, (some .int), false, 0, 0)
def m6_usable : MT := (yX6_usable, cX6_usable, 3, (some .int), false, 0, 0)
def m6_seenNodes : MT := (yX6_seenNodes, cX6_seenNodes, 3, (some .int), false, 0, 0)
def m6_savedMoments : MT := (yX6_savedMoments, cX6_savedMoments, 3, (some .int), false, 0, 0)
def m6_ends : MT := (yX6_ends, cX6_ends, 3, (some .int), false, 0, 0)
def m6_count : MT := (yX6_count, cX6_count, 2, (some .int), false, 0, 0)
def m6_mixes : MT := (yX6_mixes, cX6_mixes, 2, none, false, 0, 0)
def m6_mixesNode : MT := (yX6_mixesNode, cX6_mixesNode, 4, none, false, 0, 0)
def m6_digest : MT := (yX6_digest, cX6_digest, 2, (some .long), false, 0, 0)
def mJ7_fill : MT := (yJ7_fill_53178, cJ7_fill_53178, 4, none, false, 0, 0)
def mL_law : MT := (yL_law, cL_law, 4, (some .boolean), false, 0, 0)
theorem oi_i : Jvm.Cond.instanceMethod objectInit ∈ tG := tG_of (List.mem_of_getElem? (i := 85) (by decide +kernel)) (by decide +kernel)
theorem oi_c : Jvm.Cond.code objectInit ⟨#[0xb1]⟩ 1 none ∈ tG := tG_of (List.mem_of_getElem? (i := 86) (by decide +kernel)) (by decide +kernel)
theorem ac_n : Jvm.Cond.native arraycopyName ∈ tG := tG_of (List.mem_of_getElem? (i := 568) (by decide +kernel)) (by decide +kernel)
theorem ac_s : Jvm.Cond.static arraycopyName ∈ tG := tG_of (List.mem_of_getElem? (i := 567) (by decide +kernel)) (by decide +kernel)
theorem ac_i : Jvm.Cond.initialized "java/lang/System" ∈ tG := tG_of (List.mem_of_getElem? (i := 78) (by decide +kernel)) (by decide +kernel)
theorem oi_X0_3 : Jvm.Cond.methodLink RX0 3 objectInit ∈ tG := tG_of (List.mem_of_getElem? (i := 201) (by decide +kernel)) (by decide +kernel)
theorem na_int : Jvm.Cond.arrayClass (tyF 0) ∈ tG := tG_of (List.mem_of_getElem? (i := 120) (by decide +kernel)) (by decide +kernel)
theorem f_X0_9 : FL RX0 9 0 1 := ⟨RX0, TX0, 8, rfl, by decide, inGX0, tG_of (List.mem_of_getElem? (i := 206) (by decide +kernel)) (by decide +kernel)⟩
theorem p_X0_X0_1 : FP RX0 0 1 (.array .int) true := ⟨RX0, TX0, 8, tyX0, rfl, tyX0_ok, nmX0, by decide +kernel, rfl, fun _ => rfl⟩
theorem f_X0_15 : FL RX0 15 0 2 := ⟨RX0, TX0, 8, rfl, by decide, inGX0, tG_of (List.mem_of_getElem? (i := 207) (by decide +kernel)) (by decide +kernel)⟩
theorem p_X0_X0_2 : FP RX0 0 2 (.array .int) true := ⟨RX0, TX0, 8, tyX0, rfl, tyX0_ok, nmX0, by decide +kernel, rfl, fun _ => rfl⟩
theorem f_X0_18 : FL RX0 18 0 3 := ⟨RX0, TX0, 8, rfl, by decide, inGX0, tG_of (List.mem_of_getElem? (i := 208) (by decide +kernel)) (by decide +kernel)⟩
theorem p_X0_X0_3 : FP RX0 0 3 (.array .int) true := ⟨RX0, TX0, 8, tyX0, rfl, tyX0_ok, nmX0, by decide +kernel, rfl, fun _ => rfl⟩
theorem f_X0_21 : FL RX0 21 0 4 := ⟨RX0, TX0, 8, rfl, by decide, inGX0, tG_of (List.mem_of_getElem? (i := 209) (by decide +kernel)) (by decide +kernel)⟩
theorem p_X0_X0_4 : FP RX0 0 4 (.array .int) true := ⟨RX0, TX0, 8, tyX0, rfl, tyX0_ok, nmX0, by decide +kernel, rfl, fun _ => rfl⟩
theorem f_X0_24 : FL RX0 24 0 6 := ⟨RX0, TX0, 8, rfl, by decide, inGX0, tG_of (List.mem_of_getElem? (i := 211) (by decide +kernel)) (by decide +kernel)⟩
theorem p_X0_X0_6 : FP RX0 0 6 (.array .int) true := ⟨RX0, TX0, 8, tyX0, rfl, tyX0_ok, nmX0, by decide +kernel, rfl, fun _ => rfl⟩
theorem nw_X1 : (∀ j, j < 4 → ([vI 0, vI 0, vN, vN] : List AV)[j]? = some (dfv (tyX1 j)) ∧ ∀ G : GD, cv G (dfv (tyX1 j)) = defaultValue (tyX1 j)) ∧ (∀ v ∈ ([vI 0, vI 0, vN, vN] : List AV), vok v) := by
  refine ⟨fun j hj => ?_, fun v hv => ?_⟩
  · rcases (by omega : j = 0 ∨ j = 1 ∨ j = 2 ∨ j = 3) with rfl | rfl | rfl | rfl <;> exact ⟨rfl, fun G => rfl⟩
  · simp only [List.mem_cons, List.not_mem_nil, or_false] at hv
    rcases hv with rfl | rfl | rfl | rfl <;> first | trivial | (exact ⟨by decide, by decide⟩)
theorem ok_1_init : MOK m1_init := ⟨by decide +kernel, tG_of (List.mem_of_getElem? (i := 152) (by decide +kernel)) (by decide +kernel), tG_of (List.mem_of_getElem? (i := 68) (by decide +kernel)) (by decide +kernel), by decide +kernel, by decide +kernel⟩
theorem i_1_init : Jvm.Cond.instanceMethod (mY m1_init) ∈ tG := tG_of (List.mem_of_getElem? (i := 151) (by decide +kernel)) (by decide +kernel)
theorem f_X0_30 : FL RX0 30 0 7 := ⟨RX0, TX0, 8, rfl, by decide, inGX0, tG_of (List.mem_of_getElem? (i := 212) (by decide +kernel)) (by decide +kernel)⟩
theorem p_X0_X0_7 : FP RX0 0 7 (.object "PictureScript$Moment") true := ⟨RX0, TX0, 8, tyX0, rfl, tyX0_ok, nmX0, by decide +kernel, rfl, fun _ => rfl⟩
theorem f_X0_34 : FL RX0 34 0 0 := ⟨RX0, TX0, 8, rfl, by decide, inGX0, tG_of (List.mem_of_getElem? (i := 204) (by decide +kernel)) (by decide +kernel)⟩
theorem p_X0_X0_0 : FP RX0 0 0 .int false := ⟨RX0, TX0, 8, tyX0, rfl, tyX0_ok, nmX0, by decide +kernel, rfl, fun q => by cases q⟩
theorem f_X0_38 : FL RX0 38 0 5 := ⟨RX0, TX0, 8, rfl, by decide, inGX0, tG_of (List.mem_of_getElem? (i := 210) (by decide +kernel)) (by decide +kernel)⟩
theorem p_X0_X0_5 : FP RX0 0 5 .int false := ⟨RX0, TX0, 8, tyX0, rfl, tyX0_ok, nmX0, by decide +kernel, rfl, fun q => by cases q⟩
theorem ok_J7_fill : MOK mJ7_fill := ⟨by decide +kernel, tG_of (List.mem_of_getElem? (i := 252) (by decide +kernel)) (by decide +kernel), tG_of (List.mem_of_getElem? (i := 70) (by decide +kernel)) (by decide +kernel), by decide +kernel, by decide +kernel⟩
theorem s_J7_fill : Jvm.Cond.static (mY mJ7_fill) ∈ tG := tG_of (List.mem_of_getElem? (i := 251) (by decide +kernel)) (by decide +kernel)
theorem lk_X0_41 : Lk RX0 41 mJ7_fill 2 := ⟨ok_J7_fill, tG_of (List.mem_of_getElem? (i := 294) (by decide +kernel)) (by decide +kernel), by decide +kernel, by decide⟩
theorem ok_1_makeEmpty : MOK m1_makeEmpty := ⟨by decide +kernel, tG_of (List.mem_of_getElem? (i := 249) (by decide +kernel)) (by decide +kernel), tG_of (List.mem_of_getElem? (i := 68) (by decide +kernel)) (by decide +kernel), by decide +kernel, by decide +kernel⟩
theorem v_1_makeEmpty : Jvm.Cond.instanceMethod (mY m1_makeEmpty) ∈ tG ∧ Jvm.Cond.selects (mY m1_makeEmpty).cls (mY m1_makeEmpty) (mY m1_makeEmpty) ∈ tG := ⟨tG_of (List.mem_of_getElem? (i := 247) (by decide +kernel)) (by decide +kernel), tG_of (List.mem_of_getElem? (i := 248) (by decide +kernel)) (by decide +kernel)⟩
theorem lk_X0_47 : Lk RX0 47 m1_makeEmpty 0 := ⟨ok_1_makeEmpty, tG_of (List.mem_of_getElem? (i := 295) (by decide +kernel)) (by decide +kernel), by decide +kernel, by decide⟩
theorem ok_0_follow : MOK m0_follow := ⟨by decide +kernel, tG_of (List.mem_of_getElem? (i := 299) (by decide +kernel)) (by decide +kernel), tG_of (List.mem_of_getElem? (i := 69) (by decide +kernel)) (by decide +kernel), by decide +kernel, by decide +kernel⟩
theorem v_0_follow : Jvm.Cond.instanceMethod (mY m0_follow) ∈ tG ∧ Jvm.Cond.selects (mY m0_follow).cls (mY m0_follow) (mY m0_follow) ∈ tG := ⟨tG_of (List.mem_of_getElem? (i := 298) (by decide +kernel)) (by decide +kernel), tG_of (List.mem_of_getElem? (i := 5) (by decide +kernel)) (by decide +kernel)⟩
theorem lk_X0_50 : Lk RX0 50 m0_follow 4 := ⟨ok_0_follow, tG_of (List.mem_of_getElem? (i := 296) (by decide +kernel)) (by decide +kernel), by decide +kernel, by decide⟩
theorem ok_0_nodeOf : MOK m0_nodeOf := ⟨by decide +kernel, tG_of (List.mem_of_getElem? (i := 314) (by decide +kernel)) (by decide +kernel), tG_of (List.mem_of_getElem? (i := 69) (by decide +kernel)) (by decide +kernel), by decide +kernel, by decide +kernel⟩
theorem s_0_nodeOf : Jvm.Cond.static (mY m0_nodeOf) ∈ tG := tG_of (List.mem_of_getElem? (i := 313) (by decide +kernel)) (by decide +kernel)
theorem lk_X0_54 : Lk RX0 54 m0_nodeOf 1 := ⟨ok_0_nodeOf, tG_of (List.mem_of_getElem? (i := 312) (by decide +kernel)) (by decide +kernel), by decide +kernel, by decide⟩
theorem ok_0_flagsOf : MOK m0_flagsOf := ⟨by decide +kernel, tG_of (List.mem_of_getElem? (i := 325) (by decide +kernel)) (by decide +kernel), tG_of (List.mem_of_getElem? (i := 69) (by decide +kernel)) (by decide +kernel), by decide +kernel, by decide +kernel⟩
theorem s_0_flagsOf : Jvm.Cond.static (mY m0_flagsOf) ∈ tG := tG_of (List.mem_of_getElem? (i := 324) (by decide +kernel)) (by decide +kernel)
theorem lk_X0_58 : Lk RX0 58 m0_flagsOf 1 := ⟨ok_0_flagsOf, tG_of (List.mem_of_getElem? (i := 323) (by decide +kernel)) (by decide +kernel), by decide +kernel, by decide⟩
theorem ok_3_isOpen : MOK m3_isOpen := ⟨by decide +kernel, tG_of (List.mem_of_getElem? (i := 329) (by decide +kernel)) (by decide +kernel), tG_of (List.mem_of_getElem? (i := 66) (by decide +kernel)) (by decide +kernel), by decide +kernel, by decide +kernel⟩
theorem v_3_isOpen : Jvm.Cond.instanceMethod (mY m3_isOpen) ∈ tG ∧ Jvm.Cond.selects (mY m3_isOpen).cls (mY m3_isOpen) (mY m3_isOpen) ∈ tG := ⟨tG_of (List.mem_of_getElem? (i := 327) (by decide +kernel)) (by decide +kernel), tG_of (List.mem_of_getElem? (i := 328) (by decide +kernel)) (by decide +kernel)⟩
theorem lk_X0_61 : Lk RX0 61 m3_isOpen 3 := ⟨ok_3_isOpen, tG_of (List.mem_of_getElem? (i := 326) (by decide +kernel)) (by decide +kernel), by decide +kernel, by decide⟩
theorem f_X0_67 : FL RX0 67 1 1 := ⟨RX1, TX1, 4, rfl, by decide, inGX1, tG_of (List.mem_of_getElem? (i := 159) (by decide +kernel)) (by decide +kernel)⟩
theorem p_X0_X1_1 : FP RX0 1 1 .int false := ⟨RX1, TX1, 4, tyX1, rfl, tyX1_ok, nmX1, by decide +kernel, rfl, fun q => by cases q⟩
theorem ok_3_optionPart : MOK m3_optionPart := ⟨by decide +kernel, tG_of (List.mem_of_getElem? (i := 337) (by decide +kernel)) (by decide +kernel), tG_of (List.mem_of_getElem? (i := 66) (by decide +kernel)) (by decide +kernel), by decide +kernel, by decide +kernel⟩
theorem v_3_optionPart : Jvm.Cond.instanceMethod (mY m3_optionPart) ∈ tG ∧ Jvm.Cond.selects (mY m3_optionPart).cls (mY m3_optionPart) (mY m3_optionPart) ∈ tG := ⟨tG_of (List.mem_of_getElem? (i := 335) (by decide +kernel)) (by decide +kernel), tG_of (List.mem_of_getElem? (i := 336) (by decide +kernel)) (by decide +kernel)⟩
theorem lk_X0_70 : Lk RX0 70 m3_optionPart 3 := ⟨ok_3_optionPart, tG_of (List.mem_of_getElem? (i := 338) (by decide +kernel)) (by decide +kernel), by decide +kernel, by decide⟩
theorem ok_0_isReached : MOK m0_isReached := ⟨by decide +kernel, tG_of (List.mem_of_getElem? (i := 647) (by decide +kernel)) (by decide +kernel), tG_of (List.mem_of_getElem? (i := 69) (by decide +kernel)) (by decide +kernel), by decide +kernel, by decide +kernel⟩
theorem v_0_isReached : Jvm.Cond.instanceMethod (mY m0_isReached) ∈ tG ∧ Jvm.Cond.selects (mY m0_isReached).cls (mY m0_isReached) (mY m0_isReached) ∈ tG := ⟨tG_of (List.mem_of_getElem? (i := 646) (by decide +kernel)) (by decide +kernel), tG_of (List.mem_of_getElem? (i := 24) (by decide +kernel)) (by decide +kernel)⟩
theorem lk_X0_74 : Lk RX0 74 m0_isReached 2 := ⟨ok_0_isReached, tG_of (List.mem_of_getElem? (i := 644) (by decide +kernel)) (by decide +kernel), by decide +kernel, by decide⟩
theorem ok_0_isSituation : MOK m0_isSituation := ⟨by decide +kernel, tG_of (List.mem_of_getElem? (i := 302) (by decide +kernel)) (by decide +kernel), tG_of (List.mem_of_getElem? (i := 69) (by decide +kernel)) (by decide +kernel), by decide +kernel, by decide +kernel⟩
theorem s_0_isSituation : Jvm.Cond.static (mY m0_isSituation) ∈ tG := tG_of (List.mem_of_getElem? (i := 301) (by decide +kernel)) (by decide +kernel)
theorem lk_X0_78 : Lk RX0 78 m0_isSituation 1 := ⟨ok_0_isSituation, tG_of (List.mem_of_getElem? (i := 300) (by decide +kernel)) (by decide +kernel), by decide +kernel, by decide⟩
theorem ok_0_wayLength : MOK m0_wayLength := ⟨by decide +kernel, tG_of (List.mem_of_getElem? (i := 656) (by decide +kernel)) (by decide +kernel), tG_of (List.mem_of_getElem? (i := 69) (by decide +kernel)) (by decide +kernel), by decide +kernel, by decide +kernel⟩
theorem v_0_wayLength : Jvm.Cond.instanceMethod (mY m0_wayLength) ∈ tG ∧ Jvm.Cond.selects (mY m0_wayLength).cls (mY m0_wayLength) (mY m0_wayLength) ∈ tG := ⟨tG_of (List.mem_of_getElem? (i := 654) (by decide +kernel)) (by decide +kernel), tG_of (List.mem_of_getElem? (i := 655) (by decide +kernel)) (by decide +kernel)⟩
theorem lk_X0_82 : Lk RX0 82 m0_wayLength 1 := ⟨ok_0_wayLength, tG_of (List.mem_of_getElem? (i := 665) (by decide +kernel)) (by decide +kernel), by decide +kernel, by decide⟩
theorem ok_1_comeFrom : MOK m1_comeFrom := ⟨by decide +kernel, tG_of (List.mem_of_getElem? (i := 256) (by decide +kernel)) (by decide +kernel), tG_of (List.mem_of_getElem? (i := 68) (by decide +kernel)) (by decide +kernel), by decide +kernel, by decide +kernel⟩
theorem v_1_comeFrom : Jvm.Cond.instanceMethod (mY m1_comeFrom) ∈ tG ∧ Jvm.Cond.selects (mY m1_comeFrom).cls (mY m1_comeFrom) (mY m1_comeFrom) ∈ tG := ⟨tG_of (List.mem_of_getElem? (i := 254) (by decide +kernel)) (by decide +kernel), tG_of (List.mem_of_getElem? (i := 255) (by decide +kernel)) (by decide +kernel)⟩
theorem lk_X0_85 : Lk RX0 85 m1_comeFrom 2 := ⟨ok_1_comeFrom, tG_of (List.mem_of_getElem? (i := 303) (by decide +kernel)) (by decide +kernel), by decide +kernel, by decide⟩
theorem f_X0_89 : FL RX0 89 1 0 := ⟨RX1, TX1, 4, rfl, by decide, inGX1, tG_of (List.mem_of_getElem? (i := 157) (by decide +kernel)) (by decide +kernel)⟩
theorem ok_3_shownKind : MOK m3_shownKind := ⟨by decide +kernel, tG_of (List.mem_of_getElem? (i := 307) (by decide +kernel)) (by decide +kernel), tG_of (List.mem_of_getElem? (i := 66) (by decide +kernel)) (by decide +kernel), by decide +kernel, by decide +kernel⟩
theorem v_3_shownKind : Jvm.Cond.instanceMethod (mY m3_shownKind) ∈ tG ∧ Jvm.Cond.selects (mY m3_shownKind).cls (mY m3_shownKind) (mY m3_shownKind) ∈ tG := ⟨tG_of (List.mem_of_getElem? (i := 305) (by decide +kernel)) (by decide +kernel), tG_of (List.mem_of_getElem? (i := 306) (by decide +kernel)) (by decide +kernel)⟩
theorem lk_X0_92 : Lk RX0 92 m3_shownKind 1 := ⟨ok_3_shownKind, tG_of (List.mem_of_getElem? (i := 304) (by decide +kernel)) (by decide +kernel), by decide +kernel, by decide⟩
theorem ok_0_arrive : MOK m0_arrive := ⟨by decide +kernel, tG_of (List.mem_of_getElem? (i := 311) (by decide +kernel)) (by decide +kernel), tG_of (List.mem_of_getElem? (i := 69) (by decide +kernel)) (by decide +kernel), by decide +kernel, by decide +kernel⟩
theorem v_0_arrive : Jvm.Cond.instanceMethod (mY m0_arrive) ∈ tG ∧ Jvm.Cond.selects (mY m0_arrive).cls (mY m0_arrive) (mY m0_arrive) ∈ tG := ⟨tG_of (List.mem_of_getElem? (i := 310) (by decide +kernel)) (by decide +kernel), tG_of (List.mem_of_getElem? (i := 6) (by decide +kernel)) (by decide +kernel)⟩
theorem lk_X0_95 : Lk RX0 95 m0_arrive 2 := ⟨ok_0_arrive, tG_of (List.mem_of_getElem? (i := 308) (by decide +kernel)) (by decide +kernel), by decide +kernel, by decide⟩
theorem ok_3_shownNumber : MOK m3_shownNumber := ⟨by decide +kernel, tG_of (List.mem_of_getElem? (i := 318) (by decide +kernel)) (by decide +kernel), tG_of (List.mem_of_getElem? (i := 66) (by decide +kernel)) (by decide +kernel), by decide +kernel, by decide +kernel⟩
theorem v_3_shownNumber : Jvm.Cond.instanceMethod (mY m3_shownNumber) ∈ tG ∧ Jvm.Cond.selects (mY m3_shownNumber).cls (mY m3_shownNumber) (mY m3_shownNumber) ∈ tG := ⟨tG_of (List.mem_of_getElem? (i := 316) (by decide +kernel)) (by decide +kernel), tG_of (List.mem_of_getElem? (i := 317) (by decide +kernel)) (by decide +kernel)⟩
theorem lk_X0_98 : Lk RX0 98 m3_shownNumber 1 := ⟨ok_3_shownNumber, tG_of (List.mem_of_getElem? (i := 315) (by decide +kernel)) (by decide +kernel), by decide +kernel, by decide⟩
theorem ok_5_endIndex : MOK m5_endIndex := ⟨by decide +kernel, tG_of (List.mem_of_getElem? (i := 322) (by decide +kernel)) (by decide +kernel), tG_of (List.mem_of_getElem? (i := 64) (by decide +kernel)) (by decide +kernel), by decide +kernel, by decide +kernel⟩
theorem s_5_endIndex : Jvm.Cond.static (mY m5_endIndex) ∈ tG := tG_of (List.mem_of_getElem? (i := 321) (by decide +kernel)) (by decide +kernel)
theorem oi_X1_3 : Jvm.Cond.methodLink RX1 3 objectInit ∈ tG := tG_of (List.mem_of_getElem? (i := 153) (by decide +kernel)) (by decide +kernel)
theorem f_X1_9 : FL RX1 9 1 2 := ⟨RX1, TX1, 4, rfl, by decide, inGX1, tG_of (List.mem_of_getElem? (i := 161) (by decide +kernel)) (by decide +kernel)⟩
theorem p_X1_X1_2 : FP RX1 1 2 (.array .int) true := ⟨RX1, TX1, 4, tyX1, rfl, tyX1_ok, nmX1, by decide +kernel, rfl, fun _ => rfl⟩
theorem f_X1_15 : FL RX1 15 1 3 := ⟨RX1, TX1, 4, rfl, by decide, inGX1, tG_of (List.mem_of_getElem? (i := 163) (by decide +kernel)) (by decide +kernel)⟩
theorem p_X1_X1_3 : FP RX1 1 3 (.array .int) true := ⟨RX1, TX1, 4, tyX1, rfl, tyX1_ok, nmX1, by decide +kernel, rfl, fun _ => rfl⟩
theorem f_X1_18 : FL RX1 18 1 0 := ⟨RX1, TX1, 4, rfl, by decide, inGX1, tG_of (List.mem_of_getElem? (i := 154) (by decide +kernel)) (by decide +kernel)⟩
theorem p_X1_X1_0 : FP RX1 1 0 .int false := ⟨RX1, TX1, 4, tyX1, rfl, tyX1_ok, nmX1, by decide +kernel, rfl, fun q => by cases q⟩
theorem f_X1_22 : FL RX1 22 1 1 := ⟨RX1, TX1, 4, rfl, by decide, inGX1, tG_of (List.mem_of_getElem? (i := 158) (by decide +kernel)) (by decide +kernel)⟩
theorem p_X1_X1_1 : FP RX1 1 1 .int false := ⟨RX1, TX1, 4, tyX1, rfl, tyX1_ok, nmX1, by decide +kernel, rfl, fun q => by cases q⟩
theorem lk_X1_25 : Lk RX1 25 mJ7_fill 2 := ⟨ok_J7_fill, tG_of (List.mem_of_getElem? (i := 250) (by decide +kernel)) (by decide +kernel), by decide +kernel, by decide⟩
theorem ac_X1_31 : Jvm.Cond.methodLink RX1 31 arraycopyName ∈ tG := tG_of (List.mem_of_getElem? (i := 566) (by decide +kernel)) (by decide +kernel)
theorem ok_3_isShown : MOK m3_isShown := ⟨by decide +kernel, tG_of (List.mem_of_getElem? (i := 260) (by decide +kernel)) (by decide +kernel), tG_of (List.mem_of_getElem? (i := 66) (by decide +kernel)) (by decide +kernel), by decide +kernel, by decide +kernel⟩
theorem v_3_isShown : Jvm.Cond.instanceMethod (mY m3_isShown) ∈ tG ∧ Jvm.Cond.selects (mY m3_isShown).cls (mY m3_isShown) (mY m3_isShown) ∈ tG := ⟨tG_of (List.mem_of_getElem? (i := 258) (by decide +kernel)) (by decide +kernel), tG_of (List.mem_of_getElem? (i := 259) (by decide +kernel)) (by decide +kernel)⟩
theorem lk_X1_37 : Lk RX1 37 m3_isShown 1 := ⟨ok_3_isShown, tG_of (List.mem_of_getElem? (i := 257) (by decide +kernel)) (by decide +kernel), by decide +kernel, by decide⟩
theorem ok_1_carryOut : MOK m1_carryOut := ⟨by decide +kernel, tG_of (List.mem_of_getElem? (i := 272) (by decide +kernel)) (by decide +kernel), tG_of (List.mem_of_getElem? (i := 68) (by decide +kernel)) (by decide +kernel), by decide +kernel, by decide +kernel⟩
theorem v_1_carryOut : Jvm.Cond.instanceMethod (mY m1_carryOut) ∈ tG ∧ Jvm.Cond.selects (mY m1_carryOut).cls (mY m1_carryOut) (mY m1_carryOut) ∈ tG := ⟨tG_of (List.mem_of_getElem? (i := 271) (by decide +kernel)) (by decide +kernel), tG_of (List.mem_of_getElem? (i := 1) (by decide +kernel)) (by decide +kernel)⟩
theorem lk_X1_43 : Lk RX1 43 m1_carryOut 2 := ⟨ok_1_carryOut, tG_of (List.mem_of_getElem? (i := 269) (by decide +kernel)) (by decide +kernel), by decide +kernel, by decide⟩
theorem ok_3_numberOf : MOK m3_numberOf := ⟨by decide +kernel, tG_of (List.mem_of_getElem? (i := 276) (by decide +kernel)) (by decide +kernel), tG_of (List.mem_of_getElem? (i := 66) (by decide +kernel)) (by decide +kernel), by decide +kernel, by decide +kernel⟩
theorem v_3_numberOf : Jvm.Cond.instanceMethod (mY m3_numberOf) ∈ tG ∧ Jvm.Cond.selects (mY m3_numberOf).cls (mY m3_numberOf) (mY m3_numberOf) ∈ tG := ⟨tG_of (List.mem_of_getElem? (i := 274) (by decide +kernel)) (by decide +kernel), tG_of (List.mem_of_getElem? (i := 275) (by decide +kernel)) (by decide +kernel)⟩
theorem lk_X1_47 : Lk RX1 47 m3_numberOf 2 := ⟨ok_3_numberOf, tG_of (List.mem_of_getElem? (i := 273) (by decide +kernel)) (by decide +kernel), by decide +kernel, by decide⟩
theorem ok_3_kindOf : MOK m3_kindOf := ⟨by decide +kernel, tG_of (List.mem_of_getElem? (i := 264) (by decide +kernel)) (by decide +kernel), tG_of (List.mem_of_getElem? (i := 66) (by decide +kernel)) (by decide +kernel), by decide +kernel, by decide +kernel⟩
theorem v_3_kindOf : Jvm.Cond.instanceMethod (mY m3_kindOf) ∈ tG ∧ Jvm.Cond.selects (mY m3_kindOf).cls (mY m3_kindOf) (mY m3_kindOf) ∈ tG := ⟨tG_of (List.mem_of_getElem? (i := 262) (by decide +kernel)) (by decide +kernel), tG_of (List.mem_of_getElem? (i := 263) (by decide +kernel)) (by decide +kernel)⟩
theorem lk_X1_51 : Lk RX1 51 m3_kindOf 1 := ⟨ok_3_kindOf, tG_of (List.mem_of_getElem? (i := 277) (by decide +kernel)) (by decide +kernel), by decide +kernel, by decide⟩
theorem ok_1_putAt : MOK m1_putAt := ⟨by decide +kernel, tG_of (List.mem_of_getElem? (i := 281) (by decide +kernel)) (by decide +kernel), tG_of (List.mem_of_getElem? (i := 68) (by decide +kernel)) (by decide +kernel), by decide +kernel, by decide +kernel⟩
theorem v_1_putAt : Jvm.Cond.instanceMethod (mY m1_putAt) ∈ tG ∧ Jvm.Cond.selects (mY m1_putAt).cls (mY m1_putAt) (mY m1_putAt) ∈ tG := ⟨tG_of (List.mem_of_getElem? (i := 280) (by decide +kernel)) (by decide +kernel), tG_of (List.mem_of_getElem? (i := 2) (by decide +kernel)) (by decide +kernel)⟩
theorem lk_X1_55 : Lk RX1 55 m1_putAt 3 := ⟨ok_1_putAt, tG_of (List.mem_of_getElem? (i := 278) (by decide +kernel)) (by decide +kernel), by decide +kernel, by decide⟩
theorem ok_1_hide : MOK m1_hide := ⟨by decide +kernel, tG_of (List.mem_of_getElem? (i := 285) (by decide +kernel)) (by decide +kernel), tG_of (List.mem_of_getElem? (i := 68) (by decide +kernel)) (by decide +kernel), by decide +kernel, by decide +kernel⟩
theorem v_1_hide : Jvm.Cond.instanceMethod (mY m1_hide) ∈ tG ∧ Jvm.Cond.selects (mY m1_hide).cls (mY m1_hide) (mY m1_hide) ∈ tG := ⟨tG_of (List.mem_of_getElem? (i := 284) (by decide +kernel)) (by decide +kernel), tG_of (List.mem_of_getElem? (i := 3) (by decide +kernel)) (by decide +kernel)⟩
theorem lk_X1_59 : Lk RX1 59 m1_hide 1 := ⟨ok_1_hide, tG_of (List.mem_of_getElem? (i := 282) (by decide +kernel)) (by decide +kernel), by decide +kernel, by decide⟩
theorem oi_X2_3 : Jvm.Cond.methodLink RX2 3 objectInit ∈ tG := tG_of (List.mem_of_getElem? (i := 146) (by decide +kernel)) (by decide +kernel)
theorem f_X2_11 : FL RX2 11 2 0 := ⟨RX2, TX2, 6, rfl, by decide, inGX2, tG_of (List.mem_of_getElem? (i := 175) (by decide +kernel)) (by decide +kernel)⟩
theorem p_X2_X2_0 : FP RX2 2 0 (.array (.object "PictureScript$Moment")) true := ⟨RX2, TX2, 6, tyX2, rfl, tyX2_ok, nmX2, by decide +kernel, rfl, fun _ => rfl⟩
theorem f_X2_17 : FL RX2 17 2 3 := ⟨RX2, TX2, 6, rfl, by decide, inGX2, tG_of (List.mem_of_getElem? (i := 180) (by decide +kernel)) (by decide +kernel)⟩
theorem p_X2_X2_3 : FP RX2 2 3 (.array (.object "PictureScript$Moment")) true := ⟨RX2, TX2, 6, tyX2, rfl, tyX2_ok, nmX2, by decide +kernel, rfl, fun _ => rfl⟩
theorem na_boolean : Jvm.Cond.arrayClass (tyF 2) ∈ tG := tG_of (List.mem_of_getElem? (i := 174) (by decide +kernel)) (by decide +kernel)
theorem f_X2_20 : FL RX2 20 2 4 := ⟨RX2, TX2, 6, rfl, by decide, inGX2, tG_of (List.mem_of_getElem? (i := 181) (by decide +kernel)) (by decide +kernel)⟩
theorem p_X2_X2_4 : FP RX2 2 4 (.array .boolean) true := ⟨RX2, TX2, 6, tyX2, rfl, tyX2_ok, nmX2, by decide +kernel, rfl, fun _ => rfl⟩
theorem f_X2_24 : FL RX2 24 2 5 := ⟨RX2, TX2, 6, rfl, by decide, inGX2, tG_of (List.mem_of_getElem? (i := 182) (by decide +kernel)) (by decide +kernel)⟩
theorem p_X2_X2_5 : FP RX2 2 5 (.array .boolean) true := ⟨RX2, TX2, 6, tyX2, rfl, tyX2_ok, nmX2, by decide +kernel, rfl, fun _ => rfl⟩
theorem f_X2_28 : FL RX2 28 2 2 := ⟨RX2, TX2, 6, rfl, by decide, inGX2, tG_of (List.mem_of_getElem? (i := 178) (by decide +kernel)) (by decide +kernel)⟩
theorem ok_2_startAnew : MOK m2_startAnew := ⟨by decide +kernel, tG_of (List.mem_of_getElem? (i := 237) (by decide +kernel)) (by decide +kernel), tG_of (List.mem_of_getElem? (i := 67) (by decide +kernel)) (by decide +kernel), by decide +kernel, by decide +kernel⟩
theorem v_2_startAnew : Jvm.Cond.instanceMethod (mY m2_startAnew) ∈ tG ∧ Jvm.Cond.selects (mY m2_startAnew).cls (mY m2_startAnew) (mY m2_startAnew) ∈ tG := ⟨tG_of (List.mem_of_getElem? (i := 235) (by decide +kernel)) (by decide +kernel), tG_of (List.mem_of_getElem? (i := 236) (by decide +kernel)) (by decide +kernel)⟩
theorem lk_X2_32 : Lk RX2 32 m2_startAnew 1 := ⟨ok_2_startAnew, tG_of (List.mem_of_getElem? (i := 234) (by decide +kernel)) (by decide +kernel), by decide +kernel, by decide⟩
theorem ok_2_keepOneMoment : MOK m2_keepOneMoment := ⟨by decide +kernel, tG_of (List.mem_of_getElem? (i := 241) (by decide +kernel)) (by decide +kernel), tG_of (List.mem_of_getElem? (i := 67) (by decide +kernel)) (by decide +kernel), by decide +kernel, by decide +kernel⟩
theorem v_2_keepOneMoment : Jvm.Cond.instanceMethod (mY m2_keepOneMoment) ∈ tG ∧ Jvm.Cond.selects (mY m2_keepOneMoment).cls (mY m2_keepOneMoment) (mY m2_keepOneMoment) ∈ tG := ⟨tG_of (List.mem_of_getElem? (i := 240) (by decide +kernel)) (by decide +kernel), tG_of (List.mem_of_getElem? (i := 0) (by decide +kernel)) (by decide +kernel)⟩
theorem lk_X2_36 : Lk RX2 36 m2_keepOneMoment 0 := ⟨ok_2_keepOneMoment, tG_of (List.mem_of_getElem? (i := 238) (by decide +kernel)) (by decide +kernel), by decide +kernel, by decide⟩
theorem ok_2_now : MOK m2_now := ⟨by decide +kernel, tG_of (List.mem_of_getElem? (i := 245) (by decide +kernel)) (by decide +kernel), tG_of (List.mem_of_getElem? (i := 67) (by decide +kernel)) (by decide +kernel), by decide +kernel, by decide +kernel⟩
theorem v_2_now : Jvm.Cond.instanceMethod (mY m2_now) ∈ tG ∧ Jvm.Cond.selects (mY m2_now).cls (mY m2_now) (mY m2_now) ∈ tG := ⟨tG_of (List.mem_of_getElem? (i := 243) (by decide +kernel)) (by decide +kernel), tG_of (List.mem_of_getElem? (i := 244) (by decide +kernel)) (by decide +kernel)⟩
theorem lk_X2_39 : Lk RX2 39 m2_now 0 := ⟨ok_2_now, tG_of (List.mem_of_getElem? (i := 242) (by decide +kernel)) (by decide +kernel), by decide +kernel, by decide⟩
theorem lk_X2_43 : Lk RX2 43 m1_makeEmpty 0 := ⟨ok_1_makeEmpty, tG_of (List.mem_of_getElem? (i := 246) (by decide +kernel)) (by decide +kernel), by decide +kernel, by decide⟩
theorem lk_X2_46 : Lk RX2 46 m1_comeFrom 2 := ⟨ok_1_comeFrom, tG_of (List.mem_of_getElem? (i := 253) (by decide +kernel)) (by decide +kernel), by decide +kernel, by decide⟩
theorem f_X2_50 : FL RX2 50 1 0 := ⟨RX1, TX1, 4, rfl, by decide, inGX1, tG_of (List.mem_of_getElem? (i := 155) (by decide +kernel)) (by decide +kernel)⟩
theorem ok_2_see : MOK m2_see := ⟨by decide +kernel, tG_of (List.mem_of_getElem? (i := 289) (by decide +kernel)) (by decide +kernel), tG_of (List.mem_of_getElem? (i := 67) (by decide +kernel)) (by decide +kernel), by decide +kernel, by decide +kernel⟩
theorem v_2_see : Jvm.Cond.instanceMethod (mY m2_see) ∈ tG ∧ Jvm.Cond.selects (mY m2_see).cls (mY m2_see) (mY m2_see) ∈ tG := ⟨tG_of (List.mem_of_getElem? (i := 288) (by decide +kernel)) (by decide +kernel), tG_of (List.mem_of_getElem? (i := 4) (by decide +kernel)) (by decide +kernel)⟩
theorem lk_X2_53 : Lk RX2 53 m2_see 1 := ⟨ok_2_see, tG_of (List.mem_of_getElem? (i := 286) (by decide +kernel)) (by decide +kernel), by decide +kernel, by decide⟩
theorem p_X2_X2_2 : FP RX2 2 2 .int false := ⟨RX2, TX2, 6, tyX2, rfl, tyX2_ok, nmX2, by decide +kernel, rfl, fun q => by cases q⟩
theorem ok_2_forgetEarliest : MOK m2_forgetEarliest := ⟨by decide +kernel, tG_of (List.mem_of_getElem? (i := 561) (by decide +kernel)) (by decide +kernel), tG_of (List.mem_of_getElem? (i := 67) (by decide +kernel)) (by decide +kernel), by decide +kernel, by decide +kernel⟩
theorem v_2_forgetEarliest : Jvm.Cond.instanceMethod (mY m2_forgetEarliest) ∈ tG ∧ Jvm.Cond.selects (mY m2_forgetEarliest).cls (mY m2_forgetEarliest) (mY m2_forgetEarliest) ∈ tG := ⟨tG_of (List.mem_of_getElem? (i := 560) (by decide +kernel)) (by decide +kernel), tG_of (List.mem_of_getElem? (i := 23) (by decide +kernel)) (by decide +kernel)⟩
theorem lk_X2_57 : Lk RX2 57 m2_forgetEarliest 0 := ⟨ok_2_forgetEarliest, tG_of (List.mem_of_getElem? (i := 558) (by decide +kernel)) (by decide +kernel), by decide +kernel, by decide⟩
theorem f_X2_60 : FL RX2 60 2 1 := ⟨RX2, TX2, 6, rfl, by decide, inGX2, tG_of (List.mem_of_getElem? (i := 176) (by decide +kernel)) (by decide +kernel)⟩
theorem p_X2_X2_1 : FP RX2 2 1 .int false := ⟨RX2, TX2, 6, tyX2, rfl, tyX2_ok, nmX2, by decide +kernel, rfl, fun q => by cases q⟩
theorem ok_1_makeLike : MOK m1_makeLike := ⟨by decide +kernel, tG_of (List.mem_of_getElem? (i := 565) (by decide +kernel)) (by decide +kernel), tG_of (List.mem_of_getElem? (i := 68) (by decide +kernel)) (by decide +kernel), by decide +kernel, by decide +kernel⟩
theorem v_1_makeLike : Jvm.Cond.instanceMethod (mY m1_makeLike) ∈ tG ∧ Jvm.Cond.selects (mY m1_makeLike).cls (mY m1_makeLike) (mY m1_makeLike) ∈ tG := ⟨tG_of (List.mem_of_getElem? (i := 563) (by decide +kernel)) (by decide +kernel), tG_of (List.mem_of_getElem? (i := 564) (by decide +kernel)) (by decide +kernel)⟩
theorem lk_X2_63 : Lk RX2 63 m1_makeLike 1 := ⟨ok_1_makeLike, tG_of (List.mem_of_getElem? (i := 562) (by decide +kernel)) (by decide +kernel), by decide +kernel, by decide⟩
theorem oi_X3_3 : Jvm.Cond.methodLink RX3 3 objectInit ∈ tG := tG_of (List.mem_of_getElem? (i := 98) (by decide +kernel)) (by decide +kernel)
theorem f_X3_9 : FL RX3 9 3 1 := ⟨RX3, TX3, 6, rfl, by decide, inGX3, tG_of (List.mem_of_getElem? (i := 101) (by decide +kernel)) (by decide +kernel)⟩
theorem p_X3_X3_1 : FP RX3 3 1 (.array .int) true := ⟨RX3, TX3, 6, tyX3, rfl, tyX3_ok, nmX3, by decide +kernel, rfl, fun _ => rfl⟩
theorem f_X3_15 : FL RX3 15 3 2 := ⟨RX3, TX3, 6, rfl, by decide, inGX3, tG_of (List.mem_of_getElem? (i := 102) (by decide +kernel)) (by decide +kernel)⟩
theorem p_X3_X3_2 : FP RX3 3 2 (.array .int) true := ⟨RX3, TX3, 6, tyX3, rfl, tyX3_ok, nmX3, by decide +kernel, rfl, fun _ => rfl⟩
theorem f_X3_18 : FL RX3 18 3 3 := ⟨RX3, TX3, 6, rfl, by decide, inGX3, tG_of (List.mem_of_getElem? (i := 103) (by decide +kernel)) (by decide +kernel)⟩
theorem p_X3_X3_3 : FP RX3 3 3 (.array .int) true := ⟨RX3, TX3, 6, tyX3, rfl, tyX3_ok, nmX3, by decide +kernel, rfl, fun _ => rfl⟩
theorem f_X3_21 : FL RX3 21 3 4 := ⟨RX3, TX3, 6, rfl, by decide, inGX3, tG_of (List.mem_of_getElem? (i := 104) (by decide +kernel)) (by decide +kernel)⟩
theorem p_X3_X3_4 : FP RX3 3 4 (.array .int) true := ⟨RX3, TX3, 6, tyX3, rfl, tyX3_ok, nmX3, by decide +kernel, rfl, fun _ => rfl⟩
theorem f_X3_24 : FL RX3 24 3 5 := ⟨RX3, TX3, 6, rfl, by decide, inGX3, tG_of (List.mem_of_getElem? (i := 105) (by decide +kernel)) (by decide +kernel)⟩
theorem p_X3_X3_5 : FP RX3 3 5 (.array .int) true := ⟨RX3, TX3, 6, tyX3, rfl, tyX3_ok, nmX3, by decide +kernel, rfl, fun _ => rfl⟩
theorem f_X3_27 : FL RX3 27 3 0 := ⟨RX3, TX3, 6, rfl, by decide, inGX3, tG_of (List.mem_of_getElem? (i := 99) (by decide +kernel)) (by decide +kernel)⟩
theorem p_X3_X3_0 : FP RX3 3 0 .int false := ⟨RX3, TX3, 6, tyX3, rfl, tyX3_ok, nmX3, by decide +kernel, rfl, fun q => by cases q⟩
theorem ok_3_has : MOK m3_has := ⟨by decide +kernel, tG_of (List.mem_of_getElem? (i := 268) (by decide +kernel)) (by decide +kernel), tG_of (List.mem_of_getElem? (i := 66) (by decide +kernel)) (by decide +kernel), by decide +kernel, by decide +kernel⟩
theorem v_3_has : Jvm.Cond.instanceMethod (mY m3_has) ∈ tG ∧ Jvm.Cond.selects (mY m3_has).cls (mY m3_has) (mY m3_has) ∈ tG := ⟨tG_of (List.mem_of_getElem? (i := 266) (by decide +kernel)) (by decide +kernel), tG_of (List.mem_of_getElem? (i := 267) (by decide +kernel)) (by decide +kernel)⟩
theorem lk_X3_31 : Lk RX3 31 m3_has 1 := ⟨ok_3_has, tG_of (List.mem_of_getElem? (i := 265) (by decide +kernel)) (by decide +kernel), by decide +kernel, by decide⟩
theorem ok_3_optionsOf : MOK m3_optionsOf := ⟨by decide +kernel, tG_of (List.mem_of_getElem? (i := 333) (by decide +kernel)) (by decide +kernel), tG_of (List.mem_of_getElem? (i := 66) (by decide +kernel)) (by decide +kernel), by decide +kernel, by decide +kernel⟩
theorem v_3_optionsOf : Jvm.Cond.instanceMethod (mY m3_optionsOf) ∈ tG ∧ Jvm.Cond.selects (mY m3_optionsOf).cls (mY m3_optionsOf) (mY m3_optionsOf) ∈ tG := ⟨tG_of (List.mem_of_getElem? (i := 331) (by decide +kernel)) (by decide +kernel), tG_of (List.mem_of_getElem? (i := 332) (by decide +kernel)) (by decide +kernel)⟩
theorem lk_X3_35 : Lk RX3 35 m3_optionsOf 1 := ⟨ok_3_optionsOf, tG_of (List.mem_of_getElem? (i := 330) (by decide +kernel)) (by decide +kernel), by decide +kernel, by decide⟩
theorem lk_X3_39 : Lk RX3 39 m3_optionPart 3 := ⟨ok_3_optionPart, tG_of (List.mem_of_getElem? (i := 334) (by decide +kernel)) (by decide +kernel), by decide +kernel, by decide⟩
theorem lk_X3_43 : Lk RX3 43 m3_kindOf 1 := ⟨ok_3_kindOf, tG_of (List.mem_of_getElem? (i := 261) (by decide +kernel)) (by decide +kernel), by decide +kernel, by decide⟩
theorem lk_X3_46 : Lk RX3 46 m3_isOpen 3 := ⟨ok_3_isOpen, tG_of (List.mem_of_getElem? (i := 621) (by decide +kernel)) (by decide +kernel), by decide +kernel, by decide⟩
theorem lk_X3_50 : Lk RX3 50 m3_numberOf 2 := ⟨ok_3_numberOf, tG_of (List.mem_of_getElem? (i := 319) (by decide +kernel)) (by decide +kernel), by decide +kernel, by decide⟩
theorem oi_X4_3 : Jvm.Cond.methodLink RX4 3 objectInit ∈ tG := tG_of (List.mem_of_getElem? (i := 92) (by decide +kernel)) (by decide +kernel)
theorem na_byte : Jvm.Cond.arrayClass (tyF 1) ∈ tG := tG_of (List.mem_of_getElem? (i := 119) (by decide +kernel)) (by decide +kernel)
theorem f_X4_9 : FL RX4 9 4 1 := ⟨RX4, TX4, 5, rfl, by decide, inGX4, tG_of (List.mem_of_getElem? (i := 123) (by decide +kernel)) (by decide +kernel)⟩
theorem p_X4_X4_1 : FP RX4 4 1 (.array .byte) true := ⟨RX4, TX4, 5, tyX4, rfl, tyX4_ok, nmX4, by decide +kernel, rfl, fun _ => rfl⟩
theorem nw_X3 : (∀ j, j < 6 → ([vI 0, vN, vN, vN, vN, vN] : List AV)[j]? = some (dfv (tyX3 j)) ∧ ∀ G : GD, cv G (dfv (tyX3 j)) = defaultValue (tyX3 j)) ∧ (∀ v ∈ ([vI 0, vN, vN, vN, vN, vN] : List AV), vok v) := by
  refine ⟨fun j hj => ?_, fun v hv => ?_⟩
  · rcases (by omega : j = 0 ∨ j = 1 ∨ j = 2 ∨ j = 3 ∨ j = 4 ∨ j = 5) with rfl | rfl | rfl | rfl | rfl | rfl <;> exact ⟨rfl, fun G => rfl⟩
  · simp only [List.mem_cons, List.not_mem_nil, or_false] at hv
    rcases hv with rfl | rfl | rfl | rfl | rfl | rfl <;> first | trivial | (exact ⟨by decide, by decide⟩)
theorem ok_3_init : MOK m3_init := ⟨by decide +kernel, tG_of (List.mem_of_getElem? (i := 97) (by decide +kernel)) (by decide +kernel), tG_of (List.mem_of_getElem? (i := 66) (by decide +kernel)) (by decide +kernel), by decide +kernel, by decide +kernel⟩
theorem i_3_init : Jvm.Cond.instanceMethod (mY m3_init) ∈ tG := tG_of (List.mem_of_getElem? (i := 96) (by decide +kernel)) (by decide +kernel)
theorem f_X4_18 : FL RX4 18 4 2 := ⟨RX4, TX4, 5, rfl, by decide, inGX4, tG_of (List.mem_of_getElem? (i := 124) (by decide +kernel)) (by decide +kernel)⟩
theorem p_X4_X4_2 : FP RX4 4 2 (.object "PictureScript$Script") false := ⟨RX4, TX4, 5, tyX4, rfl, tyX4_ok, nmX4, by decide +kernel, rfl, fun q => by cases q⟩
theorem f_X4_22 : FL RX4 22 4 0 := ⟨RX4, TX4, 5, rfl, by decide, inGX4, tG_of (List.mem_of_getElem? (i := 121) (by decide +kernel)) (by decide +kernel)⟩
theorem p_X4_X4_0 : FP RX4 4 0 .int false := ⟨RX4, TX4, 5, tyX4, rfl, tyX4_ok, nmX4, by decide +kernel, rfl, fun q => by cases q⟩
theorem f_X4_26 : FL RX4 26 4 3 := ⟨RX4, TX4, 5, rfl, by decide, inGX4, tG_of (List.mem_of_getElem? (i := 126) (by decide +kernel)) (by decide +kernel)⟩
theorem p_X4_X4_3 : FP RX4 4 3 .int false := ⟨RX4, TX4, 5, tyX4, rfl, tyX4_ok, nmX4, by decide +kernel, rfl, fun q => by cases q⟩
theorem ok_3_clear : MOK m3_clear := ⟨by decide +kernel, tG_of (List.mem_of_getElem? (i := 375) (by decide +kernel)) (by decide +kernel), tG_of (List.mem_of_getElem? (i := 66) (by decide +kernel)) (by decide +kernel), by decide +kernel, by decide +kernel⟩
theorem v_3_clear : Jvm.Cond.instanceMethod (mY m3_clear) ∈ tG ∧ Jvm.Cond.selects (mY m3_clear).cls (mY m3_clear) (mY m3_clear) ∈ tG := ⟨tG_of (List.mem_of_getElem? (i := 373) (by decide +kernel)) (by decide +kernel), tG_of (List.mem_of_getElem? (i := 374) (by decide +kernel)) (by decide +kernel)⟩
theorem lk_X4_29 : Lk RX4 29 m3_clear 0 := ⟨ok_3_clear, tG_of (List.mem_of_getElem? (i := 372) (by decide +kernel)) (by decide +kernel), by decide +kernel, by decide⟩
theorem ok_4_skipBlanks : MOK m4_skipBlanks := ⟨by decide +kernel, tG_of (List.mem_of_getElem? (i := 379) (by decide +kernel)) (by decide +kernel), tG_of (List.mem_of_getElem? (i := 65) (by decide +kernel)) (by decide +kernel), by decide +kernel, by decide +kernel⟩
theorem v_4_skipBlanks : Jvm.Cond.instanceMethod (mY m4_skipBlanks) ∈ tG ∧ Jvm.Cond.selects (mY m4_skipBlanks).cls (mY m4_skipBlanks) (mY m4_skipBlanks) ∈ tG := ⟨tG_of (List.mem_of_getElem? (i := 378) (by decide +kernel)) (by decide +kernel), tG_of (List.mem_of_getElem? (i := 7) (by decide +kernel)) (by decide +kernel)⟩
theorem lk_X4_32 : Lk RX4 32 m4_skipBlanks 0 := ⟨ok_4_skipBlanks, tG_of (List.mem_of_getElem? (i := 376) (by decide +kernel)) (by decide +kernel), by decide +kernel, by decide⟩
theorem ok_4_isAtEnd : MOK m4_isAtEnd := ⟨by decide +kernel, tG_of (List.mem_of_getElem? (i := 387) (by decide +kernel)) (by decide +kernel), tG_of (List.mem_of_getElem? (i := 65) (by decide +kernel)) (by decide +kernel), by decide +kernel, by decide +kernel⟩
theorem v_4_isAtEnd : Jvm.Cond.instanceMethod (mY m4_isAtEnd) ∈ tG ∧ Jvm.Cond.selects (mY m4_isAtEnd).cls (mY m4_isAtEnd) (mY m4_isAtEnd) ∈ tG := ⟨tG_of (List.mem_of_getElem? (i := 386) (by decide +kernel)) (by decide +kernel), tG_of (List.mem_of_getElem? (i := 9) (by decide +kernel)) (by decide +kernel)⟩
theorem lk_X4_35 : Lk RX4 35 m4_isAtEnd 0 := ⟨ok_4_isAtEnd, tG_of (List.mem_of_getElem? (i := 384) (by decide +kernel)) (by decide +kernel), by decide +kernel, by decide⟩
theorem ok_4_takeNode : MOK m4_takeNode := ⟨by decide +kernel, tG_of (List.mem_of_getElem? (i := 391) (by decide +kernel)) (by decide +kernel), tG_of (List.mem_of_getElem? (i := 65) (by decide +kernel)) (by decide +kernel), by decide +kernel, by decide +kernel⟩
theorem v_4_takeNode : Jvm.Cond.instanceMethod (mY m4_takeNode) ∈ tG ∧ Jvm.Cond.selects (mY m4_takeNode).cls (mY m4_takeNode) (mY m4_takeNode) ∈ tG := ⟨tG_of (List.mem_of_getElem? (i := 390) (by decide +kernel)) (by decide +kernel), tG_of (List.mem_of_getElem? (i := 10) (by decide +kernel)) (by decide +kernel)⟩
theorem lk_X4_39 : Lk RX4 39 m4_takeNode 0 := ⟨ok_4_takeNode, tG_of (List.mem_of_getElem? (i := 388) (by decide +kernel)) (by decide +kernel), by decide +kernel, by decide⟩
theorem ok_4_takeSign : MOK m4_takeSign := ⟨by decide +kernel, tG_of (List.mem_of_getElem? (i := 518) (by decide +kernel)) (by decide +kernel), tG_of (List.mem_of_getElem? (i := 65) (by decide +kernel)) (by decide +kernel), by decide +kernel, by decide +kernel⟩
theorem v_4_takeSign : Jvm.Cond.instanceMethod (mY m4_takeSign) ∈ tG ∧ Jvm.Cond.selects (mY m4_takeSign).cls (mY m4_takeSign) (mY m4_takeSign) ∈ tG := ⟨tG_of (List.mem_of_getElem? (i := 517) (by decide +kernel)) (by decide +kernel), tG_of (List.mem_of_getElem? (i := 18) (by decide +kernel)) (by decide +kernel)⟩
theorem lk_X4_42 : Lk RX4 42 m4_takeSign 1 := ⟨ok_4_takeSign, tG_of (List.mem_of_getElem? (i := 515) (by decide +kernel)) (by decide +kernel), by decide +kernel, by decide⟩
theorem ok_4_here : MOK m4_here := ⟨by decide +kernel, tG_of (List.mem_of_getElem? (i := 383) (by decide +kernel)) (by decide +kernel), tG_of (List.mem_of_getElem? (i := 65) (by decide +kernel)) (by decide +kernel), by decide +kernel, by decide +kernel⟩
theorem v_4_here : Jvm.Cond.instanceMethod (mY m4_here) ∈ tG ∧ Jvm.Cond.selects (mY m4_here).cls (mY m4_here) (mY m4_here) ∈ tG := ⟨tG_of (List.mem_of_getElem? (i := 382) (by decide +kernel)) (by decide +kernel), tG_of (List.mem_of_getElem? (i := 8) (by decide +kernel)) (by decide +kernel)⟩
theorem lk_X4_48 : Lk RX4 48 m4_here 0 := ⟨ok_4_here, tG_of (List.mem_of_getElem? (i := 380) (by decide +kernel)) (by decide +kernel), by decide +kernel, by decide⟩
theorem ok_3_addNode : MOK m3_addNode := ⟨by decide +kernel, tG_of (List.mem_of_getElem? (i := 482) (by decide +kernel)) (by decide +kernel), tG_of (List.mem_of_getElem? (i := 66) (by decide +kernel)) (by decide +kernel), by decide +kernel, by decide +kernel⟩
theorem v_3_addNode : Jvm.Cond.instanceMethod (mY m3_addNode) ∈ tG ∧ Jvm.Cond.selects (mY m3_addNode).cls (mY m3_addNode) (mY m3_addNode) ∈ tG := ⟨tG_of (List.mem_of_getElem? (i := 480) (by decide +kernel)) (by decide +kernel), tG_of (List.mem_of_getElem? (i := 481) (by decide +kernel)) (by decide +kernel)⟩
theorem lk_X4_58 : Lk RX4 58 m3_addNode 1 := ⟨ok_3_addNode, tG_of (List.mem_of_getElem? (i := 479) (by decide +kernel)) (by decide +kernel), by decide +kernel, by decide⟩
theorem ok_4_addVoice : MOK m4_addVoice := ⟨by decide +kernel, tG_of (List.mem_of_getElem? (i := 486) (by decide +kernel)) (by decide +kernel), tG_of (List.mem_of_getElem? (i := 65) (by decide +kernel)) (by decide +kernel), by decide +kernel, by decide +kernel⟩
theorem v_4_addVoice : Jvm.Cond.instanceMethod (mY m4_addVoice) ∈ tG ∧ Jvm.Cond.selects (mY m4_addVoice).cls (mY m4_addVoice) (mY m4_addVoice) ∈ tG := ⟨tG_of (List.mem_of_getElem? (i := 485) (by decide +kernel)) (by decide +kernel), tG_of (List.mem_of_getElem? (i := 11) (by decide +kernel)) (by decide +kernel)⟩
theorem lk_X4_62 : Lk RX4 62 m4_addVoice 0 := ⟨ok_4_addVoice, tG_of (List.mem_of_getElem? (i := 483) (by decide +kernel)) (by decide +kernel), by decide +kernel, by decide⟩
theorem ok_4_addNumber : MOK m4_addNumber := ⟨by decide +kernel, tG_of (List.mem_of_getElem? (i := 494) (by decide +kernel)) (by decide +kernel), tG_of (List.mem_of_getElem? (i := 65) (by decide +kernel)) (by decide +kernel), by decide +kernel, by decide +kernel⟩
theorem v_4_addNumber : Jvm.Cond.instanceMethod (mY m4_addNumber) ∈ tG ∧ Jvm.Cond.selects (mY m4_addNumber).cls (mY m4_addNumber) (mY m4_addNumber) ∈ tG := ⟨tG_of (List.mem_of_getElem? (i := 493) (by decide +kernel)) (by decide +kernel), tG_of (List.mem_of_getElem? (i := 12) (by decide +kernel)) (by decide +kernel)⟩
theorem lk_X4_65 : Lk RX4 65 m4_addNumber 1 := ⟨ok_4_addNumber, tG_of (List.mem_of_getElem? (i := 491) (by decide +kernel)) (by decide +kernel), by decide +kernel, by decide⟩
theorem ok_4_addDigit : MOK m4_addDigit := ⟨by decide +kernel, tG_of (List.mem_of_getElem? (i := 506) (by decide +kernel)) (by decide +kernel), tG_of (List.mem_of_getElem? (i := 65) (by decide +kernel)) (by decide +kernel), by decide +kernel, by decide +kernel⟩
theorem v_4_addDigit : Jvm.Cond.instanceMethod (mY m4_addDigit) ∈ tG ∧ Jvm.Cond.selects (mY m4_addDigit).cls (mY m4_addDigit) (mY m4_addDigit) ∈ tG := ⟨tG_of (List.mem_of_getElem? (i := 505) (by decide +kernel)) (by decide +kernel), tG_of (List.mem_of_getElem? (i := 15) (by decide +kernel)) (by decide +kernel)⟩
theorem lk_X4_69 : Lk RX4 69 m4_addDigit 1 := ⟨ok_4_addDigit, tG_of (List.mem_of_getElem? (i := 503) (by decide +kernel)) (by decide +kernel), by decide +kernel, by decide⟩
theorem ok_4_addPlusOrMinus : MOK m4_addPlusOrMinus := ⟨by decide +kernel, tG_of (List.mem_of_getElem? (i := 514) (by decide +kernel)) (by decide +kernel), tG_of (List.mem_of_getElem? (i := 65) (by decide +kernel)) (by decide +kernel), by decide +kernel, by decide +kernel⟩
theorem v_4_addPlusOrMinus : Jvm.Cond.instanceMethod (mY m4_addPlusOrMinus) ∈ tG ∧ Jvm.Cond.selects (mY m4_addPlusOrMinus).cls (mY m4_addPlusOrMinus) (mY m4_addPlusOrMinus) ∈ tG := ⟨tG_of (List.mem_of_getElem? (i := 513) (by decide +kernel)) (by decide +kernel), tG_of (List.mem_of_getElem? (i := 17) (by decide +kernel)) (by decide +kernel)⟩
theorem lk_X4_72 : Lk RX4 72 m4_addPlusOrMinus 0 := ⟨ok_4_addPlusOrMinus, tG_of (List.mem_of_getElem? (i := 511) (by decide +kernel)) (by decide +kernel), by decide +kernel, by decide⟩
theorem ok_4_takeOptions : MOK m4_takeOptions := ⟨by decide +kernel, tG_of (List.mem_of_getElem? (i := 522) (by decide +kernel)) (by decide +kernel), tG_of (List.mem_of_getElem? (i := 65) (by decide +kernel)) (by decide +kernel), by decide +kernel, by decide +kernel⟩
theorem v_4_takeOptions : Jvm.Cond.instanceMethod (mY m4_takeOptions) ∈ tG ∧ Jvm.Cond.selects (mY m4_takeOptions).cls (mY m4_takeOptions) (mY m4_takeOptions) ∈ tG := ⟨tG_of (List.mem_of_getElem? (i := 521) (by decide +kernel)) (by decide +kernel), tG_of (List.mem_of_getElem? (i := 19) (by decide +kernel)) (by decide +kernel)⟩
theorem lk_X4_75 : Lk RX4 75 m4_takeOptions 0 := ⟨ok_4_takeOptions, tG_of (List.mem_of_getElem? (i := 519) (by decide +kernel)) (by decide +kernel), by decide +kernel, by decide⟩
theorem ok_4_takeOption : MOK m4_takeOption := ⟨by decide +kernel, tG_of (List.mem_of_getElem? (i := 526) (by decide +kernel)) (by decide +kernel), tG_of (List.mem_of_getElem? (i := 65) (by decide +kernel)) (by decide +kernel), by decide +kernel, by decide +kernel⟩
theorem v_4_takeOption : Jvm.Cond.instanceMethod (mY m4_takeOption) ∈ tG ∧ Jvm.Cond.selects (mY m4_takeOption).cls (mY m4_takeOption) (mY m4_takeOption) ∈ tG := ⟨tG_of (List.mem_of_getElem? (i := 525) (by decide +kernel)) (by decide +kernel), tG_of (List.mem_of_getElem? (i := 20) (by decide +kernel)) (by decide +kernel)⟩
theorem lk_X4_78 : Lk RX4 78 m4_takeOption 0 := ⟨ok_4_takeOption, tG_of (List.mem_of_getElem? (i := 523) (by decide +kernel)) (by decide +kernel), by decide +kernel, by decide⟩
theorem ok_4_takeNumber : MOK m4_takeNumber := ⟨by decide +kernel, tG_of (List.mem_of_getElem? (i := 498) (by decide +kernel)) (by decide +kernel), tG_of (List.mem_of_getElem? (i := 65) (by decide +kernel)) (by decide +kernel), by decide +kernel, by decide +kernel⟩
theorem v_4_takeNumber : Jvm.Cond.instanceMethod (mY m4_takeNumber) ∈ tG ∧ Jvm.Cond.selects (mY m4_takeNumber).cls (mY m4_takeNumber) (mY m4_takeNumber) ∈ tG := ⟨tG_of (List.mem_of_getElem? (i := 497) (by decide +kernel)) (by decide +kernel), tG_of (List.mem_of_getElem? (i := 13) (by decide +kernel)) (by decide +kernel)⟩
theorem lk_X4_81 : Lk RX4 81 m4_takeNumber 1 := ⟨ok_4_takeNumber, tG_of (List.mem_of_getElem? (i := 495) (by decide +kernel)) (by decide +kernel), by decide +kernel, by decide⟩
theorem f_X4_84 : FL RX4 84 4 4 := ⟨RX4, TX4, 5, rfl, by decide, inGX4, tG_of (List.mem_of_getElem? (i := 127) (by decide +kernel)) (by decide +kernel)⟩
theorem ok_3_addOption : MOK m3_addOption := ⟨by decide +kernel, tG_of (List.mem_of_getElem? (i := 530) (by decide +kernel)) (by decide +kernel), tG_of (List.mem_of_getElem? (i := 66) (by decide +kernel)) (by decide +kernel), by decide +kernel, by decide +kernel⟩
theorem v_3_addOption : Jvm.Cond.instanceMethod (mY m3_addOption) ∈ tG ∧ Jvm.Cond.selects (mY m3_addOption).cls (mY m3_addOption) (mY m3_addOption) ∈ tG := ⟨tG_of (List.mem_of_getElem? (i := 528) (by decide +kernel)) (by decide +kernel), tG_of (List.mem_of_getElem? (i := 529) (by decide +kernel)) (by decide +kernel)⟩
theorem lk_X4_87 : Lk RX4 87 m3_addOption 3 := ⟨ok_3_addOption, tG_of (List.mem_of_getElem? (i := 527) (by decide +kernel)) (by decide +kernel), by decide +kernel, by decide⟩
theorem ok_4_takeDigit : MOK m4_takeDigit := ⟨by decide +kernel, tG_of (List.mem_of_getElem? (i := 510) (by decide +kernel)) (by decide +kernel), tG_of (List.mem_of_getElem? (i := 65) (by decide +kernel)) (by decide +kernel), by decide +kernel, by decide +kernel⟩
theorem v_4_takeDigit : Jvm.Cond.instanceMethod (mY m4_takeDigit) ∈ tG ∧ Jvm.Cond.selects (mY m4_takeDigit).cls (mY m4_takeDigit) (mY m4_takeDigit) ∈ tG := ⟨tG_of (List.mem_of_getElem? (i := 509) (by decide +kernel)) (by decide +kernel), tG_of (List.mem_of_getElem? (i := 16) (by decide +kernel)) (by decide +kernel)⟩
theorem lk_X4_91 : Lk RX4 91 m4_takeDigit 1 := ⟨ok_4_takeDigit, tG_of (List.mem_of_getElem? (i := 507) (by decide +kernel)) (by decide +kernel), by decide +kernel, by decide⟩
theorem ok_3_addNumber : MOK m3_addNumber := ⟨by decide +kernel, tG_of (List.mem_of_getElem? (i := 490) (by decide +kernel)) (by decide +kernel), tG_of (List.mem_of_getElem? (i := 66) (by decide +kernel)) (by decide +kernel), by decide +kernel, by decide +kernel⟩
theorem v_3_addNumber : Jvm.Cond.instanceMethod (mY m3_addNumber) ∈ tG ∧ Jvm.Cond.selects (mY m3_addNumber).cls (mY m3_addNumber) (mY m3_addNumber) ∈ tG := ⟨tG_of (List.mem_of_getElem? (i := 488) (by decide +kernel)) (by decide +kernel), tG_of (List.mem_of_getElem? (i := 489) (by decide +kernel)) (by decide +kernel)⟩
theorem lk_X4_94 : Lk RX4 94 m3_addNumber 1 := ⟨ok_3_addNumber, tG_of (List.mem_of_getElem? (i := 487) (by decide +kernel)) (by decide +kernel), by decide +kernel, by decide⟩
theorem p_X4_X4_4 : FP RX4 4 4 .int false := ⟨RX4, TX4, 5, tyX4, rfl, tyX4_ok, nmX4, by decide +kernel, rfl, fun q => by cases q⟩
theorem ok_4_isAtDigit : MOK m4_isAtDigit := ⟨by decide +kernel, tG_of (List.mem_of_getElem? (i := 502) (by decide +kernel)) (by decide +kernel), tG_of (List.mem_of_getElem? (i := 65) (by decide +kernel)) (by decide +kernel), by decide +kernel, by decide +kernel⟩
theorem v_4_isAtDigit : Jvm.Cond.instanceMethod (mY m4_isAtDigit) ∈ tG ∧ Jvm.Cond.selects (mY m4_isAtDigit).cls (mY m4_isAtDigit) (mY m4_isAtDigit) ∈ tG := ⟨tG_of (List.mem_of_getElem? (i := 501) (by decide +kernel)) (by decide +kernel), tG_of (List.mem_of_getElem? (i := 14) (by decide +kernel)) (by decide +kernel)⟩
theorem lk_X4_96 : Lk RX4 96 m4_isAtDigit 0 := ⟨ok_4_isAtDigit, tG_of (List.mem_of_getElem? (i := 499) (by decide +kernel)) (by decide +kernel), by decide +kernel, by decide⟩
theorem oi_X5_3 : Jvm.Cond.methodLink RX5 3 objectInit ∈ tG := tG_of (List.mem_of_getElem? (i := 84) (by decide +kernel)) (by decide +kernel)
theorem nw_X4 : (∀ j, j < 5 → ([vI 0, vN, vN, vI 0, vI 0] : List AV)[j]? = some (dfv (tyX4 j)) ∧ ∀ G : GD, cv G (dfv (tyX4 j)) = defaultValue (tyX4 j)) ∧ (∀ v ∈ ([vI 0, vN, vN, vI 0, vI 0] : List AV), vok v) := by
  refine ⟨fun j hj => ?_, fun v hv => ?_⟩
  · rcases (by omega : j = 0 ∨ j = 1 ∨ j = 2 ∨ j = 3 ∨ j = 4) with rfl | rfl | rfl | rfl | rfl <;> exact ⟨rfl, fun G => rfl⟩
  · simp only [List.mem_cons, List.not_mem_nil, or_false] at hv
    rcases hv with rfl | rfl | rfl | rfl | rfl <;> first | trivial | (exact ⟨by decide, by decide⟩)
theorem ok_4_init : MOK m4_init := ⟨by decide +kernel, tG_of (List.mem_of_getElem? (i := 91) (by decide +kernel)) (by decide +kernel), tG_of (List.mem_of_getElem? (i := 65) (by decide +kernel)) (by decide +kernel), by decide +kernel, by decide +kernel⟩
theorem i_4_init : Jvm.Cond.instanceMethod (mY m4_init) ∈ tG := tG_of (List.mem_of_getElem? (i := 90) (by decide +kernel)) (by decide +kernel)
theorem f_X5_12 : FL RX5 12 5 0 := ⟨RX5, TX5, 4, rfl, by decide, inGX5, tG_of (List.mem_of_getElem? (i := 339) (by decide +kernel)) (by decide +kernel)⟩
theorem p_X5_X5_0 : FP RX5 5 0 (.object "PictureScript$Text") true := ⟨RX5, TX5, 4, tyX5, rfl, tyX5_ok, nmX5, by decide +kernel, rfl, fun _ => rfl⟩
theorem f_X5_19 : FL RX5 19 5 1 := ⟨RX5, TX5, 4, rfl, by decide, inGX5, tG_of (List.mem_of_getElem? (i := 340) (by decide +kernel)) (by decide +kernel)⟩
theorem p_X5_X5_1 : FP RX5 5 1 (.object "PictureScript$Script") false := ⟨RX5, TX5, 4, tyX5, rfl, tyX5_ok, nmX5, by decide +kernel, rfl, fun q => by cases q⟩
theorem nw_X2 : (∀ j, j < 6 → ([vN, vI 0, vI 0, vN, vN, vN] : List AV)[j]? = some (dfv (tyX2 j)) ∧ ∀ G : GD, cv G (dfv (tyX2 j)) = defaultValue (tyX2 j)) ∧ (∀ v ∈ ([vN, vI 0, vI 0, vN, vN, vN] : List AV), vok v) := by
  refine ⟨fun j hj => ?_, fun v hv => ?_⟩
  · rcases (by omega : j = 0 ∨ j = 1 ∨ j = 2 ∨ j = 3 ∨ j = 4 ∨ j = 5) with rfl | rfl | rfl | rfl | rfl | rfl <;> exact ⟨rfl, fun G => rfl⟩
  · simp only [List.mem_cons, List.not_mem_nil, or_false] at hv
    rcases hv with rfl | rfl | rfl | rfl | rfl | rfl <;> first | trivial | (exact ⟨by decide, by decide⟩)
theorem ok_2_init : MOK m2_init := ⟨by decide +kernel, tG_of (List.mem_of_getElem? (i := 145) (by decide +kernel)) (by decide +kernel), tG_of (List.mem_of_getElem? (i := 67) (by decide +kernel)) (by decide +kernel), by decide +kernel, by decide +kernel⟩
theorem i_2_init : Jvm.Cond.instanceMethod (mY m2_init) ∈ tG := tG_of (List.mem_of_getElem? (i := 144) (by decide +kernel)) (by decide +kernel)
theorem l_X5_25 : Jvm.Cond.methodLink RX5 25 (mY m2_init) ∈ tG := tG_of (List.mem_of_getElem? (i := 143) (by decide +kernel)) (by decide +kernel)
theorem f_X5_26 : FL RX5 26 5 2 := ⟨RX5, TX5, 4, rfl, by decide, inGX5, tG_of (List.mem_of_getElem? (i := 341) (by decide +kernel)) (by decide +kernel)⟩
theorem p_X5_X5_2 : FP RX5 5 2 (.object "PictureScript$Play") true := ⟨RX5, TX5, 4, tyX5, rfl, tyX5_ok, nmX5, by decide +kernel, rfl, fun _ => rfl⟩
theorem nw_X0 : (∀ j, j < 8 → ([vI 0, vN, vN, vN, vN, vI 0, vN, vN] : List AV)[j]? = some (dfv (tyX0 j)) ∧ ∀ G : GD, cv G (dfv (tyX0 j)) = defaultValue (tyX0 j)) ∧ (∀ v ∈ ([vI 0, vN, vN, vN, vN, vI 0, vN, vN] : List AV), vok v) := by
  refine ⟨fun j hj => ?_, fun v hv => ?_⟩
  · rcases (by omega : j = 0 ∨ j = 1 ∨ j = 2 ∨ j = 3 ∨ j = 4 ∨ j = 5 ∨ j = 6 ∨ j = 7) with rfl | rfl | rfl | rfl | rfl | rfl | rfl | rfl <;> exact ⟨rfl, fun G => rfl⟩
  · simp only [List.mem_cons, List.not_mem_nil, or_false] at hv
    rcases hv with rfl | rfl | rfl | rfl | rfl | rfl | rfl | rfl <;> first | trivial | (exact ⟨by decide, by decide⟩)
theorem ok_0_init : MOK m0_init := ⟨by decide +kernel, tG_of (List.mem_of_getElem? (i := 200) (by decide +kernel)) (by decide +kernel), tG_of (List.mem_of_getElem? (i := 69) (by decide +kernel)) (by decide +kernel), by decide +kernel, by decide +kernel⟩
theorem i_0_init : Jvm.Cond.instanceMethod (mY m0_init) ∈ tG := tG_of (List.mem_of_getElem? (i := 199) (by decide +kernel)) (by decide +kernel)
theorem f_X5_33 : FL RX5 33 5 3 := ⟨RX5, TX5, 4, rfl, by decide, inGX5, tG_of (List.mem_of_getElem? (i := 342) (by decide +kernel)) (by decide +kernel)⟩
theorem p_X5_X5_3 : FP RX5 5 3 (.object "PictureScript$Chart") true := ⟨RX5, TX5, 4, tyX5, rfl, tyX5_ok, nmX5, by decide +kernel, rfl, fun _ => rfl⟩
theorem ok_2_startScript : MOK m2_startScript := ⟨by decide +kernel, tG_of (List.mem_of_getElem? (i := 233) (by decide +kernel)) (by decide +kernel), tG_of (List.mem_of_getElem? (i := 67) (by decide +kernel)) (by decide +kernel), by decide +kernel, by decide +kernel⟩
theorem v_2_startScript : Jvm.Cond.instanceMethod (mY m2_startScript) ∈ tG ∧ Jvm.Cond.selects (mY m2_startScript).cls (mY m2_startScript) (mY m2_startScript) ∈ tG := ⟨tG_of (List.mem_of_getElem? (i := 231) (by decide +kernel)) (by decide +kernel), tG_of (List.mem_of_getElem? (i := 232) (by decide +kernel)) (by decide +kernel)⟩
theorem lk_X5_37 : Lk RX5 37 m2_startScript 1 := ⟨ok_2_startScript, tG_of (List.mem_of_getElem? (i := 230) (by decide +kernel)) (by decide +kernel), by decide +kernel, by decide⟩
theorem ok_0_draw : MOK m0_draw := ⟨by decide +kernel, tG_of (List.mem_of_getElem? (i := 293) (by decide +kernel)) (by decide +kernel), tG_of (List.mem_of_getElem? (i := 69) (by decide +kernel)) (by decide +kernel), by decide +kernel, by decide +kernel⟩
theorem v_0_draw : Jvm.Cond.instanceMethod (mY m0_draw) ∈ tG ∧ Jvm.Cond.selects (mY m0_draw).cls (mY m0_draw) (mY m0_draw) ∈ tG := ⟨tG_of (List.mem_of_getElem? (i := 291) (by decide +kernel)) (by decide +kernel), tG_of (List.mem_of_getElem? (i := 292) (by decide +kernel)) (by decide +kernel)⟩
theorem lk_X5_41 : Lk RX5 41 m0_draw 1 := ⟨ok_0_draw, tG_of (List.mem_of_getElem? (i := 290) (by decide +kernel)) (by decide +kernel), by decide +kernel, by decide⟩
theorem ok_4_append : MOK m4_append := ⟨by decide +kernel, tG_of (List.mem_of_getElem? (i := 359) (by decide +kernel)) (by decide +kernel), tG_of (List.mem_of_getElem? (i := 65) (by decide +kernel)) (by decide +kernel), by decide +kernel, by decide +kernel⟩
theorem v_4_append : Jvm.Cond.instanceMethod (mY m4_append) ∈ tG ∧ Jvm.Cond.selects (mY m4_append).cls (mY m4_append) (mY m4_append) ∈ tG := ⟨tG_of (List.mem_of_getElem? (i := 357) (by decide +kernel)) (by decide +kernel), tG_of (List.mem_of_getElem? (i := 358) (by decide +kernel)) (by decide +kernel)⟩
theorem lk_X5_44 : Lk RX5 44 m4_append 1 := ⟨ok_4_append, tG_of (List.mem_of_getElem? (i := 356) (by decide +kernel)) (by decide +kernel), by decide +kernel, by decide⟩
theorem f_X5_48 : FL RX5 48 4 0 := ⟨RX4, TX4, 5, rfl, by decide, inGX4, tG_of (List.mem_of_getElem? (i := 122) (by decide +kernel)) (by decide +kernel)⟩
theorem p_X5_X4_0 : FP RX5 4 0 .int false := ⟨RX4, TX4, 5, tyX4, rfl, tyX4_ok, nmX4, by decide +kernel, rfl, fun q => by cases q⟩
theorem ok_4_findFault : MOK m4_findFault := ⟨by decide +kernel, tG_of (List.mem_of_getElem? (i := 371) (by decide +kernel)) (by decide +kernel), tG_of (List.mem_of_getElem? (i := 65) (by decide +kernel)) (by decide +kernel), by decide +kernel, by decide +kernel⟩
theorem v_4_findFault : Jvm.Cond.instanceMethod (mY m4_findFault) ∈ tG ∧ Jvm.Cond.selects (mY m4_findFault).cls (mY m4_findFault) (mY m4_findFault) ∈ tG := ⟨tG_of (List.mem_of_getElem? (i := 369) (by decide +kernel)) (by decide +kernel), tG_of (List.mem_of_getElem? (i := 370) (by decide +kernel)) (by decide +kernel)⟩
theorem lk_X5_52 : Lk RX5 52 m4_findFault 0 := ⟨ok_4_findFault, tG_of (List.mem_of_getElem? (i := 368) (by decide +kernel)) (by decide +kernel), by decide +kernel, by decide⟩
theorem f_X5_56 : FL RX5 56 4 2 := ⟨RX4, TX4, 5, rfl, by decide, inGX4, tG_of (List.mem_of_getElem? (i := 125) (by decide +kernel)) (by decide +kernel)⟩
theorem p_X5_X4_2 : FP RX5 4 2 (.object "PictureScript$Script") false := ⟨RX4, TX4, 5, tyX4, rfl, tyX4_ok, nmX4, by decide +kernel, rfl, fun q => by cases q⟩
theorem f_X5_59 : FL RX5 59 3 0 := ⟨RX3, TX3, 6, rfl, by decide, inGX3, tG_of (List.mem_of_getElem? (i := 100) (by decide +kernel)) (by decide +kernel)⟩
theorem lk_X5_62 : Lk RX5 62 m2_startAnew 1 := ⟨ok_2_startAnew, tG_of (List.mem_of_getElem? (i := 539) (by decide +kernel)) (by decide +kernel), by decide +kernel, by decide⟩
theorem lk_X5_65 : Lk RX5 65 m2_now 0 := ⟨ok_2_now, tG_of (List.mem_of_getElem? (i := 540) (by decide +kernel)) (by decide +kernel), by decide +kernel, by decide⟩
theorem f_X5_69 : FL RX5 69 1 0 := ⟨RX1, TX1, 4, rfl, by decide, inGX1, tG_of (List.mem_of_getElem? (i := 156) (by decide +kernel)) (by decide +kernel)⟩
theorem ok_5_isLineShown : MOK m5_isLineShown := ⟨by decide +kernel, tG_of (List.mem_of_getElem? (i := 548) (by decide +kernel)) (by decide +kernel), tG_of (List.mem_of_getElem? (i := 64) (by decide +kernel)) (by decide +kernel), by decide +kernel, by decide +kernel⟩
theorem v_5_isLineShown : Jvm.Cond.instanceMethod (mY m5_isLineShown) ∈ tG ∧ Jvm.Cond.selects (mY m5_isLineShown).cls (mY m5_isLineShown) (mY m5_isLineShown) ∈ tG := ⟨tG_of (List.mem_of_getElem? (i := 547) (by decide +kernel)) (by decide +kernel), tG_of (List.mem_of_getElem? (i := 21) (by decide +kernel)) (by decide +kernel)⟩
theorem lk_X5_74 : Lk RX5 74 m5_isLineShown 0 := ⟨ok_5_isLineShown, tG_of (List.mem_of_getElem? (i := 545) (by decide +kernel)) (by decide +kernel), by decide +kernel, by decide⟩
theorem ok_5_goOnFromLine : MOK m5_goOnFromLine := ⟨by decide +kernel, tG_of (List.mem_of_getElem? (i := 553) (by decide +kernel)) (by decide +kernel), tG_of (List.mem_of_getElem? (i := 64) (by decide +kernel)) (by decide +kernel), by decide +kernel, by decide +kernel⟩
theorem v_5_goOnFromLine : Jvm.Cond.instanceMethod (mY m5_goOnFromLine) ∈ tG ∧ Jvm.Cond.selects (mY m5_goOnFromLine).cls (mY m5_goOnFromLine) (mY m5_goOnFromLine) ∈ tG := ⟨tG_of (List.mem_of_getElem? (i := 552) (by decide +kernel)) (by decide +kernel), tG_of (List.mem_of_getElem? (i := 22) (by decide +kernel)) (by decide +kernel)⟩
theorem lk_X5_78 : Lk RX5 78 m5_goOnFromLine 0 := ⟨ok_5_goOnFromLine, tG_of (List.mem_of_getElem? (i := 550) (by decide +kernel)) (by decide +kernel), by decide +kernel, by decide⟩
theorem f_X5_81 : FL RX5 81 1 1 := ⟨RX1, TX1, 4, rfl, by decide, inGX1, tG_of (List.mem_of_getElem? (i := 160) (by decide +kernel)) (by decide +kernel)⟩
theorem lk_X5_84 : Lk RX5 84 m3_isOpen 3 := ⟨ok_3_isOpen, tG_of (List.mem_of_getElem? (i := 573) (by decide +kernel)) (by decide +kernel), by decide +kernel, by decide⟩
theorem lk_X5_88 : Lk RX5 88 m3_optionPart 3 := ⟨ok_3_optionPart, tG_of (List.mem_of_getElem? (i := 574) (by decide +kernel)) (by decide +kernel), by decide +kernel, by decide⟩
theorem ok_2_goOn : MOK m2_goOn := ⟨by decide +kernel, tG_of (List.mem_of_getElem? (i := 557) (by decide +kernel)) (by decide +kernel), tG_of (List.mem_of_getElem? (i := 67) (by decide +kernel)) (by decide +kernel), by decide +kernel, by decide +kernel⟩
theorem v_2_goOn : Jvm.Cond.instanceMethod (mY m2_goOn) ∈ tG ∧ Jvm.Cond.selects (mY m2_goOn).cls (mY m2_goOn) (mY m2_goOn) ∈ tG := ⟨tG_of (List.mem_of_getElem? (i := 555) (by decide +kernel)) (by decide +kernel), tG_of (List.mem_of_getElem? (i := 556) (by decide +kernel)) (by decide +kernel)⟩
theorem lk_X5_92 : Lk RX5 92 m2_goOn 2 := ⟨ok_2_goOn, tG_of (List.mem_of_getElem? (i := 554) (by decide +kernel)) (by decide +kernel), by decide +kernel, by decide⟩
theorem ok_2_turnBack : MOK m2_turnBack := ⟨by decide +kernel, tG_of (List.mem_of_getElem? (i := 586) (by decide +kernel)) (by decide +kernel), tG_of (List.mem_of_getElem? (i := 67) (by decide +kernel)) (by decide +kernel), by decide +kernel, by decide +kernel⟩
theorem v_2_turnBack : Jvm.Cond.instanceMethod (mY m2_turnBack) ∈ tG ∧ Jvm.Cond.selects (mY m2_turnBack).cls (mY m2_turnBack) (mY m2_turnBack) ∈ tG := ⟨tG_of (List.mem_of_getElem? (i := 584) (by decide +kernel)) (by decide +kernel), tG_of (List.mem_of_getElem? (i := 585) (by decide +kernel)) (by decide +kernel)⟩
theorem lk_X5_96 : Lk RX5 96 m2_turnBack 1 := ⟨ok_2_turnBack, tG_of (List.mem_of_getElem? (i := 583) (by decide +kernel)) (by decide +kernel), by decide +kernel, by decide⟩
theorem ok_2_turnForth : MOK m2_turnForth := ⟨by decide +kernel, tG_of (List.mem_of_getElem? (i := 594) (by decide +kernel)) (by decide +kernel), tG_of (List.mem_of_getElem? (i := 67) (by decide +kernel)) (by decide +kernel), by decide +kernel, by decide +kernel⟩
theorem v_2_turnForth : Jvm.Cond.instanceMethod (mY m2_turnForth) ∈ tG ∧ Jvm.Cond.selects (mY m2_turnForth).cls (mY m2_turnForth) (mY m2_turnForth) ∈ tG := ⟨tG_of (List.mem_of_getElem? (i := 592) (by decide +kernel)) (by decide +kernel), tG_of (List.mem_of_getElem? (i := 593) (by decide +kernel)) (by decide +kernel)⟩
theorem lk_X5_100 : Lk RX5 100 m2_turnForth 0 := ⟨ok_2_turnForth, tG_of (List.mem_of_getElem? (i := 591) (by decide +kernel)) (by decide +kernel), by decide +kernel, by decide⟩
theorem ok_2_keepIn : MOK m2_keepIn := ⟨by decide +kernel, tG_of (List.mem_of_getElem? (i := 602) (by decide +kernel)) (by decide +kernel), tG_of (List.mem_of_getElem? (i := 67) (by decide +kernel)) (by decide +kernel), by decide +kernel, by decide +kernel⟩
theorem v_2_keepIn : Jvm.Cond.instanceMethod (mY m2_keepIn) ∈ tG ∧ Jvm.Cond.selects (mY m2_keepIn).cls (mY m2_keepIn) (mY m2_keepIn) ∈ tG := ⟨tG_of (List.mem_of_getElem? (i := 600) (by decide +kernel)) (by decide +kernel), tG_of (List.mem_of_getElem? (i := 601) (by decide +kernel)) (by decide +kernel)⟩
theorem lk_X5_103 : Lk RX5 103 m2_keepIn 1 := ⟨ok_2_keepIn, tG_of (List.mem_of_getElem? (i := 599) (by decide +kernel)) (by decide +kernel), by decide +kernel, by decide⟩
theorem ok_2_takeFrom : MOK m2_takeFrom := ⟨by decide +kernel, tG_of (List.mem_of_getElem? (i := 610) (by decide +kernel)) (by decide +kernel), tG_of (List.mem_of_getElem? (i := 67) (by decide +kernel)) (by decide +kernel), by decide +kernel, by decide +kernel⟩
theorem v_2_takeFrom : Jvm.Cond.instanceMethod (mY m2_takeFrom) ∈ tG ∧ Jvm.Cond.selects (mY m2_takeFrom).cls (mY m2_takeFrom) (mY m2_takeFrom) ∈ tG := ⟨tG_of (List.mem_of_getElem? (i := 608) (by decide +kernel)) (by decide +kernel), tG_of (List.mem_of_getElem? (i := 609) (by decide +kernel)) (by decide +kernel)⟩
theorem lk_X5_107 : Lk RX5 107 m2_takeFrom 1 := ⟨ok_2_takeFrom, tG_of (List.mem_of_getElem? (i := 607) (by decide +kernel)) (by decide +kernel), by decide +kernel, by decide⟩
theorem lk_X5_110 : Lk RX5 110 m3_shownKind 1 := ⟨ok_3_shownKind, tG_of (List.mem_of_getElem? (i := 549) (by decide +kernel)) (by decide +kernel), by decide +kernel, by decide⟩
theorem lk_X5_114 : Lk RX5 114 m3_numberOf 2 := ⟨ok_3_numberOf, tG_of (List.mem_of_getElem? (i := 615) (by decide +kernel)) (by decide +kernel), by decide +kernel, by decide⟩
theorem lk_X5_118 : Lk RX5 118 m3_shownNumber 1 := ⟨ok_3_shownNumber, tG_of (List.mem_of_getElem? (i := 616) (by decide +kernel)) (by decide +kernel), by decide +kernel, by decide⟩
theorem ok_3_openOptions : MOK m3_openOptions := ⟨by decide +kernel, tG_of (List.mem_of_getElem? (i := 620) (by decide +kernel)) (by decide +kernel), tG_of (List.mem_of_getElem? (i := 66) (by decide +kernel)) (by decide +kernel), by decide +kernel, by decide +kernel⟩
theorem v_3_openOptions : Jvm.Cond.instanceMethod (mY m3_openOptions) ∈ tG ∧ Jvm.Cond.selects (mY m3_openOptions).cls (mY m3_openOptions) (mY m3_openOptions) ∈ tG := ⟨tG_of (List.mem_of_getElem? (i := 618) (by decide +kernel)) (by decide +kernel), tG_of (List.mem_of_getElem? (i := 619) (by decide +kernel)) (by decide +kernel)⟩
theorem lk_X5_121 : Lk RX5 121 m3_openOptions 2 := ⟨ok_3_openOptions, tG_of (List.mem_of_getElem? (i := 617) (by decide +kernel)) (by decide +kernel), by decide +kernel, by decide⟩
theorem f_X5_124 : FL RX5 124 1 3 := ⟨RX1, TX1, 4, rfl, by decide, inGX1, tG_of (List.mem_of_getElem? (i := 164) (by decide +kernel)) (by decide +kernel)⟩
theorem f_X5_128 : FL RX5 128 1 2 := ⟨RX1, TX1, 4, rfl, by decide, inGX1, tG_of (List.mem_of_getElem? (i := 162) (by decide +kernel)) (by decide +kernel)⟩
theorem lk_X5_131 : Lk RX5 131 m3_has 1 := ⟨ok_3_has, tG_of (List.mem_of_getElem? (i := 630) (by decide +kernel)) (by decide +kernel), by decide +kernel, by decide⟩
theorem lk_X5_134 : Lk RX5 134 m3_kindOf 1 := ⟨ok_3_kindOf, tG_of (List.mem_of_getElem? (i := 631) (by decide +kernel)) (by decide +kernel), by decide +kernel, by decide⟩
theorem f_X5_137 : FL RX5 137 0 0 := ⟨RX0, TX0, 8, rfl, by decide, inGX0, tG_of (List.mem_of_getElem? (i := 205) (by decide +kernel)) (by decide +kernel)⟩
theorem ok_0_reachedWith : MOK m0_reachedWith := ⟨by decide +kernel, tG_of (List.mem_of_getElem? (i := 643) (by decide +kernel)) (by decide +kernel), tG_of (List.mem_of_getElem? (i := 69) (by decide +kernel)) (by decide +kernel), by decide +kernel, by decide +kernel⟩
theorem v_0_reachedWith : Jvm.Cond.instanceMethod (mY m0_reachedWith) ∈ tG ∧ Jvm.Cond.selects (mY m0_reachedWith).cls (mY m0_reachedWith) (mY m0_reachedWith) ∈ tG := ⟨tG_of (List.mem_of_getElem? (i := 641) (by decide +kernel)) (by decide +kernel), tG_of (List.mem_of_getElem? (i := 642) (by decide +kernel)) (by decide +kernel)⟩
theorem lk_X5_140 : Lk RX5 140 m0_reachedWith 1 := ⟨ok_0_reachedWith, tG_of (List.mem_of_getElem? (i := 640) (by decide +kernel)) (by decide +kernel), by decide +kernel, by decide⟩
theorem lk_X5_143 : Lk RX5 143 m5_endIndex 1 := ⟨ok_5_endIndex, tG_of (List.mem_of_getElem? (i := 652) (by decide +kernel)) (by decide +kernel), by decide +kernel, by decide⟩
theorem lk_X5_146 : Lk RX5 146 m0_wayLength 1 := ⟨ok_0_wayLength, tG_of (List.mem_of_getElem? (i := 653) (by decide +kernel)) (by decide +kernel), by decide +kernel, by decide⟩
theorem ok_0_wayChoice : MOK m0_wayChoice := ⟨by decide +kernel, tG_of (List.mem_of_getElem? (i := 664) (by decide +kernel)) (by decide +kernel), tG_of (List.mem_of_getElem? (i := 69) (by decide +kernel)) (by decide +kernel), by decide +kernel, by decide +kernel⟩
theorem v_0_wayChoice : Jvm.Cond.instanceMethod (mY m0_wayChoice) ∈ tG ∧ Jvm.Cond.selects (mY m0_wayChoice).cls (mY m0_wayChoice) (mY m0_wayChoice) ∈ tG := ⟨tG_of (List.mem_of_getElem? (i := 662) (by decide +kernel)) (by decide +kernel), tG_of (List.mem_of_getElem? (i := 663) (by decide +kernel)) (by decide +kernel)⟩
theorem lk_X5_149 : Lk RX5 149 m0_wayChoice 2 := ⟨ok_0_wayChoice, tG_of (List.mem_of_getElem? (i := 661) (by decide +kernel)) (by decide +kernel), by decide +kernel, by decide⟩
theorem lk_X5_152 : Lk RX5 152 m3_optionsOf 1 := ⟨ok_3_optionsOf, tG_of (List.mem_of_getElem? (i := 670) (by decide +kernel)) (by decide +kernel), by decide +kernel, by decide⟩
theorem ok_0_canUse : MOK m0_canUse := ⟨by decide +kernel, tG_of (List.mem_of_getElem? (i := 674) (by decide +kernel)) (by decide +kernel), tG_of (List.mem_of_getElem? (i := 69) (by decide +kernel)) (by decide +kernel), by decide +kernel, by decide +kernel⟩
theorem v_0_canUse : Jvm.Cond.instanceMethod (mY m0_canUse) ∈ tG ∧ Jvm.Cond.selects (mY m0_canUse).cls (mY m0_canUse) (mY m0_canUse) ∈ tG := ⟨tG_of (List.mem_of_getElem? (i := 672) (by decide +kernel)) (by decide +kernel), tG_of (List.mem_of_getElem? (i := 673) (by decide +kernel)) (by decide +kernel)⟩
theorem lk_X5_155 : Lk RX5 155 m0_canUse 3 := ⟨ok_0_canUse, tG_of (List.mem_of_getElem? (i := 671) (by decide +kernel)) (by decide +kernel), by decide +kernel, by decide⟩
theorem f_X5_159 : FL RX5 159 2 2 := ⟨RX2, TX2, 6, rfl, by decide, inGX2, tG_of (List.mem_of_getElem? (i := 179) (by decide +kernel)) (by decide +kernel)⟩
theorem f_X5_162 : FL RX5 162 2 1 := ⟨RX2, TX2, 6, rfl, by decide, inGX2, tG_of (List.mem_of_getElem? (i := 177) (by decide +kernel)) (by decide +kernel)⟩
theorem ok_2_seenNodes : MOK m2_seenNodes := ⟨by decide +kernel, tG_of (List.mem_of_getElem? (i := 682) (by decide +kernel)) (by decide +kernel), tG_of (List.mem_of_getElem? (i := 67) (by decide +kernel)) (by decide +kernel), by decide +kernel, by decide +kernel⟩
theorem v_2_seenNodes : Jvm.Cond.instanceMethod (mY m2_seenNodes) ∈ tG ∧ Jvm.Cond.selects (mY m2_seenNodes).cls (mY m2_seenNodes) (mY m2_seenNodes) ∈ tG := ⟨tG_of (List.mem_of_getElem? (i := 680) (by decide +kernel)) (by decide +kernel), tG_of (List.mem_of_getElem? (i := 681) (by decide +kernel)) (by decide +kernel)⟩
theorem lk_X5_165 : Lk RX5 165 m2_seenNodes 0 := ⟨ok_2_seenNodes, tG_of (List.mem_of_getElem? (i := 679) (by decide +kernel)) (by decide +kernel), by decide +kernel, by decide⟩
theorem ok_2_usedSlots : MOK m2_usedSlots := ⟨by decide +kernel, tG_of (List.mem_of_getElem? (i := 686) (by decide +kernel)) (by decide +kernel), tG_of (List.mem_of_getElem? (i := 67) (by decide +kernel)) (by decide +kernel), by decide +kernel, by decide +kernel⟩
theorem v_2_usedSlots : Jvm.Cond.instanceMethod (mY m2_usedSlots) ∈ tG ∧ Jvm.Cond.selects (mY m2_usedSlots).cls (mY m2_usedSlots) (mY m2_usedSlots) ∈ tG := ⟨tG_of (List.mem_of_getElem? (i := 684) (by decide +kernel)) (by decide +kernel), tG_of (List.mem_of_getElem? (i := 685) (by decide +kernel)) (by decide +kernel)⟩
theorem lk_X5_168 : Lk RX5 168 m2_usedSlots 0 := ⟨ok_2_usedSlots, tG_of (List.mem_of_getElem? (i := 683) (by decide +kernel)) (by decide +kernel), by decide +kernel, by decide⟩
theorem ok_0_reachedEnds : MOK m0_reachedEnds := ⟨by decide +kernel, tG_of (List.mem_of_getElem? (i := 690) (by decide +kernel)) (by decide +kernel), tG_of (List.mem_of_getElem? (i := 69) (by decide +kernel)) (by decide +kernel), by decide +kernel, by decide +kernel⟩
theorem v_0_reachedEnds : Jvm.Cond.instanceMethod (mY m0_reachedEnds) ∈ tG ∧ Jvm.Cond.selects (mY m0_reachedEnds).cls (mY m0_reachedEnds) (mY m0_reachedEnds) ∈ tG := ⟨tG_of (List.mem_of_getElem? (i := 688) (by decide +kernel)) (by decide +kernel), tG_of (List.mem_of_getElem? (i := 689) (by decide +kernel)) (by decide +kernel)⟩
theorem lk_X5_171 : Lk RX5 171 m0_reachedEnds 0 := ⟨ok_0_reachedEnds, tG_of (List.mem_of_getElem? (i := 687) (by decide +kernel)) (by decide +kernel), by decide +kernel, by decide⟩
theorem ok_5_count : MOK m5_count := ⟨by decide +kernel, tG_of (List.mem_of_getElem? (i := 678) (by decide +kernel)) (by decide +kernel), tG_of (List.mem_of_getElem? (i := 64) (by decide +kernel)) (by decide +kernel), by decide +kernel, by decide +kernel⟩
theorem v_5_count : Jvm.Cond.instanceMethod (mY m5_count) ∈ tG ∧ Jvm.Cond.selects (mY m5_count).cls (mY m5_count) (mY m5_count) ∈ tG := ⟨tG_of (List.mem_of_getElem? (i := 676) (by decide +kernel)) (by decide +kernel), tG_of (List.mem_of_getElem? (i := 677) (by decide +kernel)) (by decide +kernel)⟩
theorem lk_X5_178 : Lk RX5 178 m5_count 1 := ⟨ok_5_count, tG_of (List.mem_of_getElem? (i := 697) (by decide +kernel)) (by decide +kernel), by decide +kernel, by decide⟩
theorem ok_5_shown : MOK m5_shown := ⟨by decide +kernel, tG_of (List.mem_of_getElem? (i := 614) (by decide +kernel)) (by decide +kernel), tG_of (List.mem_of_getElem? (i := 64) (by decide +kernel)) (by decide +kernel), by decide +kernel, by decide +kernel⟩
theorem v_5_shown : Jvm.Cond.instanceMethod (mY m5_shown) ∈ tG ∧ Jvm.Cond.selects (mY m5_shown).cls (mY m5_shown) (mY m5_shown) ∈ tG := ⟨tG_of (List.mem_of_getElem? (i := 612) (by decide +kernel)) (by decide +kernel), tG_of (List.mem_of_getElem? (i := 613) (by decide +kernel)) (by decide +kernel)⟩
theorem lk_X5_181 : Lk RX5 181 m5_shown 1 := ⟨ok_5_shown, tG_of (List.mem_of_getElem? (i := 698) (by decide +kernel)) (by decide +kernel), by decide +kernel, by decide⟩
theorem ok_5_portrait : MOK m5_portrait := ⟨by decide +kernel, tG_of (List.mem_of_getElem? (i := 625) (by decide +kernel)) (by decide +kernel), tG_of (List.mem_of_getElem? (i := 64) (by decide +kernel)) (by decide +kernel), by decide +kernel, by decide +kernel⟩
theorem v_5_portrait : Jvm.Cond.instanceMethod (mY m5_portrait) ∈ tG ∧ Jvm.Cond.selects (mY m5_portrait).cls (mY m5_portrait) (mY m5_portrait) ∈ tG := ⟨tG_of (List.mem_of_getElem? (i := 623) (by decide +kernel)) (by decide +kernel), tG_of (List.mem_of_getElem? (i := 624) (by decide +kernel)) (by decide +kernel)⟩
theorem lk_X5_184 : Lk RX5 184 m5_portrait 2 := ⟨ok_5_portrait, tG_of (List.mem_of_getElem? (i := 699) (by decide +kernel)) (by decide +kernel), by decide +kernel, by decide⟩
theorem ok_5_digestNode : MOK m5_digestNode := ⟨by decide +kernel, tG_of (List.mem_of_getElem? (i := 703) (by decide +kernel)) (by decide +kernel), tG_of (List.mem_of_getElem? (i := 64) (by decide +kernel)) (by decide +kernel), by decide +kernel, by decide +kernel⟩
theorem v_5_digestNode : Jvm.Cond.instanceMethod (mY m5_digestNode) ∈ tG ∧ Jvm.Cond.selects (mY m5_digestNode).cls (mY m5_digestNode) (mY m5_digestNode) ∈ tG := ⟨tG_of (List.mem_of_getElem? (i := 702) (by decide +kernel)) (by decide +kernel), tG_of (List.mem_of_getElem? (i := 25) (by decide +kernel)) (by decide +kernel)⟩
theorem lk_X5_188 : Lk RX5 188 m5_digestNode 2 := ⟨ok_5_digestNode, tG_of (List.mem_of_getElem? (i := 700) (by decide +kernel)) (by decide +kernel), by decide +kernel, by decide⟩
theorem ok_5_situations : MOK m5_situations := ⟨by decide +kernel, tG_of (List.mem_of_getElem? (i := 639) (by decide +kernel)) (by decide +kernel), tG_of (List.mem_of_getElem? (i := 64) (by decide +kernel)) (by decide +kernel), by decide +kernel, by decide +kernel⟩
theorem v_5_situations : Jvm.Cond.instanceMethod (mY m5_situations) ∈ tG ∧ Jvm.Cond.selects (mY m5_situations).cls (mY m5_situations) (mY m5_situations) ∈ tG := ⟨tG_of (List.mem_of_getElem? (i := 637) (by decide +kernel)) (by decide +kernel), tG_of (List.mem_of_getElem? (i := 638) (by decide +kernel)) (by decide +kernel)⟩
theorem lk_X5_192 : Lk RX5 192 m5_situations 1 := ⟨ok_5_situations, tG_of (List.mem_of_getElem? (i := 707) (by decide +kernel)) (by decide +kernel), by decide +kernel, by decide⟩
theorem ok_4_byteAt : MOK m4_byteAt := ⟨by decide +kernel, tG_of (List.mem_of_getElem? (i := 711) (by decide +kernel)) (by decide +kernel), tG_of (List.mem_of_getElem? (i := 65) (by decide +kernel)) (by decide +kernel), by decide +kernel, by decide +kernel⟩
theorem v_4_byteAt : Jvm.Cond.instanceMethod (mY m4_byteAt) ∈ tG ∧ Jvm.Cond.selects (mY m4_byteAt).cls (mY m4_byteAt) (mY m4_byteAt) ∈ tG := ⟨tG_of (List.mem_of_getElem? (i := 709) (by decide +kernel)) (by decide +kernel), tG_of (List.mem_of_getElem? (i := 710) (by decide +kernel)) (by decide +kernel)⟩
theorem lk_X5_195 : Lk RX5 195 m4_byteAt 1 := ⟨ok_4_byteAt, tG_of (List.mem_of_getElem? (i := 708) (by decide +kernel)) (by decide +kernel), by decide +kernel, by decide⟩
theorem ok_5_node : MOK m5_node := ⟨by decide +kernel, tG_of (List.mem_of_getElem? (i := 629) (by decide +kernel)) (by decide +kernel), tG_of (List.mem_of_getElem? (i := 64) (by decide +kernel)) (by decide +kernel), by decide +kernel, by decide +kernel⟩
theorem v_5_node : Jvm.Cond.instanceMethod (mY m5_node) ∈ tG ∧ Jvm.Cond.selects (mY m5_node).cls (mY m5_node) (mY m5_node) ∈ tG := ⟨tG_of (List.mem_of_getElem? (i := 627) (by decide +kernel)) (by decide +kernel), tG_of (List.mem_of_getElem? (i := 628) (by decide +kernel)) (by decide +kernel)⟩
theorem lk_X5_198 : Lk RX5 198 m5_node 2 := ⟨ok_5_node, tG_of (List.mem_of_getElem? (i := 704) (by decide +kernel)) (by decide +kernel), by decide +kernel, by decide⟩
theorem ok_5_option : MOK m5_option := ⟨by decide +kernel, tG_of (List.mem_of_getElem? (i := 635) (by decide +kernel)) (by decide +kernel), tG_of (List.mem_of_getElem? (i := 64) (by decide +kernel)) (by decide +kernel), by decide +kernel, by decide +kernel⟩
theorem v_5_option : Jvm.Cond.instanceMethod (mY m5_option) ∈ tG ∧ Jvm.Cond.selects (mY m5_option).cls (mY m5_option) (mY m5_option) ∈ tG := ⟨tG_of (List.mem_of_getElem? (i := 633) (by decide +kernel)) (by decide +kernel), tG_of (List.mem_of_getElem? (i := 634) (by decide +kernel)) (by decide +kernel)⟩
theorem lk_X5_200 : Lk RX5 200 m5_option 3 := ⟨ok_5_option, tG_of (List.mem_of_getElem? (i := 705) (by decide +kernel)) (by decide +kernel), by decide +kernel, by decide⟩
theorem ok_5_usable : MOK m5_usable := ⟨by decide +kernel, tG_of (List.mem_of_getElem? (i := 669) (by decide +kernel)) (by decide +kernel), tG_of (List.mem_of_getElem? (i := 64) (by decide +kernel)) (by decide +kernel), by decide +kernel, by decide +kernel⟩
theorem v_5_usable : Jvm.Cond.instanceMethod (mY m5_usable) ∈ tG ∧ Jvm.Cond.selects (mY m5_usable).cls (mY m5_usable) (mY m5_usable) ∈ tG := ⟨tG_of (List.mem_of_getElem? (i := 667) (by decide +kernel)) (by decide +kernel), tG_of (List.mem_of_getElem? (i := 668) (by decide +kernel)) (by decide +kernel)⟩
theorem lk_X5_203 : Lk RX5 203 m5_usable 2 := ⟨ok_5_usable, tG_of (List.mem_of_getElem? (i := 706) (by decide +kernel)) (by decide +kernel), by decide +kernel, by decide⟩
theorem oi_X6_1 : Jvm.Cond.methodLink RX6 1 objectInit ∈ tG := tG_of (List.mem_of_getElem? (i := 717) (by decide +kernel)) (by decide +kernel)
theorem f_X6_7 : FL RX6 7 6 0 := ⟨RX6, TX6, 27, rfl, by decide, inGX6, tG_of (List.mem_of_getElem? (i := 750) (by decide +kernel)) (by decide +kernel)⟩
theorem p_X6_X6_0 : FP RX6 6 0 (.array .int) true := ⟨RX6, TX6, 27, tyX6, rfl, tyX6_ok, nmX6, by decide +kernel, rfl, fun _ => rfl⟩
theorem f_X6_13 : FL RX6 13 6 2 := ⟨RX6, TX6, 27, rfl, by decide, inGX6, tG_of (List.mem_of_getElem? (i := 752) (by decide +kernel)) (by decide +kernel)⟩
theorem p_X6_X6_2 : FP RX6 6 2 (.array .int) true := ⟨RX6, TX6, 27, tyX6, rfl, tyX6_ok, nmX6, by decide +kernel, rfl, fun _ => rfl⟩
theorem f_X6_16 : FL RX6 16 6 4 := ⟨RX6, TX6, 27, rfl, by decide, inGX6, tG_of (List.mem_of_getElem? (i := 754) (by decide +kernel)) (by decide +kernel)⟩
theorem p_X6_X6_4 : FP RX6 6 4 (.array .int) true := ⟨RX6, TX6, 27, tyX6, rfl, tyX6_ok, nmX6, by decide +kernel, rfl, fun _ => rfl⟩
theorem f_X6_19 : FL RX6 19 6 8 := ⟨RX6, TX6, 27, rfl, by decide, inGX6, tG_of (List.mem_of_getElem? (i := 758) (by decide +kernel)) (by decide +kernel)⟩
theorem p_X6_X6_8 : FP RX6 6 8 (.array .int) true := ⟨RX6, TX6, 27, tyX6, rfl, tyX6_ok, nmX6, by decide +kernel, rfl, fun _ => rfl⟩
theorem f_X6_22 : FL RX6 22 6 9 := ⟨RX6, TX6, 27, rfl, by decide, inGX6, tG_of (List.mem_of_getElem? (i := 759) (by decide +kernel)) (by decide +kernel)⟩
theorem p_X6_X6_9 : FP RX6 6 9 (.array .boolean) true := ⟨RX6, TX6, 27, tyX6, rfl, tyX6_ok, nmX6, by decide +kernel, rfl, fun _ => rfl⟩
theorem f_X6_26 : FL RX6 26 6 11 := ⟨RX6, TX6, 27, rfl, by decide, inGX6, tG_of (List.mem_of_getElem? (i := 761) (by decide +kernel)) (by decide +kernel)⟩
theorem p_X6_X6_11 : FP RX6 6 11 (.array .int) true := ⟨RX6, TX6, 27, tyX6, rfl, tyX6_ok, nmX6, by decide +kernel, rfl, fun _ => rfl⟩
theorem f_X6_29 : FL RX6 29 6 16 := ⟨RX6, TX6, 27, rfl, by decide, inGX6, tG_of (List.mem_of_getElem? (i := 766) (by decide +kernel)) (by decide +kernel)⟩
theorem p_X6_X6_16 : FP RX6 6 16 (.array .int) true := ⟨RX6, TX6, 27, tyX6, rfl, tyX6_ok, nmX6, by decide +kernel, rfl, fun _ => rfl⟩
theorem f_X6_32 : FL RX6 32 6 17 := ⟨RX6, TX6, 27, rfl, by decide, inGX6, tG_of (List.mem_of_getElem? (i := 767) (by decide +kernel)) (by decide +kernel)⟩
theorem p_X6_X6_17 : FP RX6 6 17 (.array .int) true := ⟨RX6, TX6, 27, tyX6, rfl, tyX6_ok, nmX6, by decide +kernel, rfl, fun _ => rfl⟩
theorem f_X6_35 : FL RX6 35 6 18 := ⟨RX6, TX6, 27, rfl, by decide, inGX6, tG_of (List.mem_of_getElem? (i := 768) (by decide +kernel)) (by decide +kernel)⟩
theorem p_X6_X6_18 : FP RX6 6 18 (.array .boolean) true := ⟨RX6, TX6, 27, tyX6, rfl, tyX6_ok, nmX6, by decide +kernel, rfl, fun _ => rfl⟩
theorem f_X6_38 : FL RX6 38 6 19 := ⟨RX6, TX6, 27, rfl, by decide, inGX6, tG_of (List.mem_of_getElem? (i := 769) (by decide +kernel)) (by decide +kernel)⟩
theorem p_X6_X6_19 : FP RX6 6 19 (.array .int) true := ⟨RX6, TX6, 27, tyX6, rfl, tyX6_ok, nmX6, by decide +kernel, rfl, fun _ => rfl⟩
theorem f_X6_41 : FL RX6 41 6 20 := ⟨RX6, TX6, 27, rfl, by decide, inGX6, tG_of (List.mem_of_getElem? (i := 770) (by decide +kernel)) (by decide +kernel)⟩
theorem p_X6_X6_20 : FP RX6 6 20 (.array .int) true := ⟨RX6, TX6, 27, tyX6, rfl, tyX6_ok, nmX6, by decide +kernel, rfl, fun _ => rfl⟩
theorem f_X6_44 : FL RX6 44 6 21 := ⟨RX6, TX6, 27, rfl, by decide, inGX6, tG_of (List.mem_of_getElem? (i := 771) (by decide +kernel)) (by decide +kernel)⟩
theorem p_X6_X6_21 : FP RX6 6 21 (.array .int) true := ⟨RX6, TX6, 27, tyX6, rfl, tyX6_ok, nmX6, by decide +kernel, rfl, fun _ => rfl⟩
theorem f_X6_47 : FL RX6 47 6 23 := ⟨RX6, TX6, 27, rfl, by decide, inGX6, tG_of (List.mem_of_getElem? (i := 773) (by decide +kernel)) (by decide +kernel)⟩
theorem p_X6_X6_23 : FP RX6 6 23 (.array .boolean) true := ⟨RX6, TX6, 27, tyX6, rfl, tyX6_ok, nmX6, by decide +kernel, rfl, fun _ => rfl⟩
theorem f_X6_50 : FL RX6 50 6 24 := ⟨RX6, TX6, 27, rfl, by decide, inGX6, tG_of (List.mem_of_getElem? (i := 774) (by decide +kernel)) (by decide +kernel)⟩
theorem p_X6_X6_24 : FP RX6 6 24 (.array .int) true := ⟨RX6, TX6, 27, tyX6, rfl, tyX6_ok, nmX6, by decide +kernel, rfl, fun _ => rfl⟩
theorem f_X6_53 : FL RX6 53 6 25 := ⟨RX6, TX6, 27, rfl, by decide, inGX6, tG_of (List.mem_of_getElem? (i := 775) (by decide +kernel)) (by decide +kernel)⟩
theorem p_X6_X6_25 : FP RX6 6 25 (.array .int) true := ⟨RX6, TX6, 27, tyX6, rfl, tyX6_ok, nmX6, by decide +kernel, rfl, fun _ => rfl⟩
theorem ok_6_starts : MOK m6_starts := ⟨by decide +kernel, tG_of (List.mem_of_getElem? (i := 721) (by decide +kernel)) (by decide +kernel), tG_of (List.mem_of_getElem? (i := 71) (by decide +kernel)) (by decide +kernel), by decide +kernel, by decide +kernel⟩
theorem v_6_starts : Jvm.Cond.instanceMethod (mY m6_starts) ∈ tG ∧ Jvm.Cond.selects (mY m6_starts).cls (mY m6_starts) (mY m6_starts) ∈ tG := ⟨tG_of (List.mem_of_getElem? (i := 720) (by decide +kernel)) (by decide +kernel), tG_of (List.mem_of_getElem? (i := 26) (by decide +kernel)) (by decide +kernel)⟩
theorem lk_X6_56 : Lk RX6 56 m6_starts 0 := ⟨ok_6_starts, tG_of (List.mem_of_getElem? (i := 718) (by decide +kernel)) (by decide +kernel), by decide +kernel, by decide⟩
theorem ok_6_in : MOK m6_in := ⟨by decide +kernel, tG_of (List.mem_of_getElem? (i := 838) (by decide +kernel)) (by decide +kernel), tG_of (List.mem_of_getElem? (i := 71) (by decide +kernel)) (by decide +kernel), by decide +kernel, by decide +kernel⟩
theorem s_6_in : Jvm.Cond.static (mY m6_in) ∈ tG := tG_of (List.mem_of_getElem? (i := 837) (by decide +kernel)) (by decide +kernel)
theorem lk_X6_59 : Lk RX6 59 m6_in 3 := ⟨ok_6_in, tG_of (List.mem_of_getElem? (i := 836) (by decide +kernel)) (by decide +kernel), by decide +kernel, by decide⟩
theorem f_X6_63 : FL RX6 63 6 12 := ⟨RX6, TX6, 27, rfl, by decide, inGX6, tG_of (List.mem_of_getElem? (i := 762) (by decide +kernel)) (by decide +kernel)⟩
theorem p_X6_X6_12 : FP RX6 6 12 .int false := ⟨RX6, TX6, 27, tyX6, rfl, tyX6_ok, nmX6, by decide +kernel, rfl, fun q => by cases q⟩
theorem f_X6_67 : FL RX6 67 6 13 := ⟨RX6, TX6, 27, rfl, by decide, inGX6, tG_of (List.mem_of_getElem? (i := 763) (by decide +kernel)) (by decide +kernel)⟩
theorem ok_6_next : MOK m6_next := ⟨by decide +kernel, tG_of (List.mem_of_getElem? (i := 858) (by decide +kernel)) (by decide +kernel), tG_of (List.mem_of_getElem? (i := 71) (by decide +kernel)) (by decide +kernel), by decide +kernel, by decide +kernel⟩
theorem v_6_next : Jvm.Cond.instanceMethod (mY m6_next) ∈ tG ∧ Jvm.Cond.selects (mY m6_next).cls (mY m6_next) (mY m6_next) ∈ tG := ⟨tG_of (List.mem_of_getElem? (i := 857) (by decide +kernel)) (by decide +kernel), tG_of (List.mem_of_getElem? (i := 36) (by decide +kernel)) (by decide +kernel)⟩
theorem lk_X6_70 : Lk RX6 70 m6_next 0 := ⟨ok_6_next, tG_of (List.mem_of_getElem? (i := 855) (by decide +kernel)) (by decide +kernel), by decide +kernel, by decide⟩
theorem p_X6_X6_13 : FP RX6 6 13 .int false := ⟨RX6, TX6, 27, tyX6, rfl, tyX6_ok, nmX6, by decide +kernel, rfl, fun q => by cases q⟩
theorem f_X6_74 : FL RX6 74 6 14 := ⟨RX6, TX6, 27, rfl, by decide, inGX6, tG_of (List.mem_of_getElem? (i := 764) (by decide +kernel)) (by decide +kernel)⟩
theorem p_X6_X6_14 : FP RX6 6 14 .int false := ⟨RX6, TX6, 27, tyX6, rfl, tyX6_ok, nmX6, by decide +kernel, rfl, fun q => by cases q⟩
theorem ok_6_blanks : MOK m6_blanks := ⟨by decide +kernel, tG_of (List.mem_of_getElem? (i := 854) (by decide +kernel)) (by decide +kernel), tG_of (List.mem_of_getElem? (i := 71) (by decide +kernel)) (by decide +kernel), by decide +kernel, by decide +kernel⟩
theorem v_6_blanks : Jvm.Cond.instanceMethod (mY m6_blanks) ∈ tG ∧ Jvm.Cond.selects (mY m6_blanks).cls (mY m6_blanks) (mY m6_blanks) ∈ tG := ⟨tG_of (List.mem_of_getElem? (i := 853) (by decide +kernel)) (by decide +kernel), tG_of (List.mem_of_getElem? (i := 35) (by decide +kernel)) (by decide +kernel)⟩
theorem lk_X6_77 : Lk RX6 77 m6_blanks 0 := ⟨ok_6_blanks, tG_of (List.mem_of_getElem? (i := 851) (by decide +kernel)) (by decide +kernel), by decide +kernel, by decide⟩
theorem ok_6_fails : MOK m6_fails := ⟨by decide +kernel, tG_of (List.mem_of_getElem? (i := 869) (by decide +kernel)) (by decide +kernel), tG_of (List.mem_of_getElem? (i := 71) (by decide +kernel)) (by decide +kernel), by decide +kernel, by decide +kernel⟩
theorem v_6_fails : Jvm.Cond.instanceMethod (mY m6_fails) ∈ tG ∧ Jvm.Cond.selects (mY m6_fails).cls (mY m6_fails) (mY m6_fails) ∈ tG := ⟨tG_of (List.mem_of_getElem? (i := 868) (by decide +kernel)) (by decide +kernel), tG_of (List.mem_of_getElem? (i := 38) (by decide +kernel)) (by decide +kernel)⟩
theorem lk_X6_80 : Lk RX6 80 m6_fails 1 := ⟨ok_6_fails, tG_of (List.mem_of_getElem? (i := 866) (by decide +kernel)) (by decide +kernel), by decide +kernel, by decide⟩
theorem ok_6_take : MOK m6_take := ⟨by decide +kernel, tG_of (List.mem_of_getElem? (i := 873) (by decide +kernel)) (by decide +kernel), tG_of (List.mem_of_getElem? (i := 71) (by decide +kernel)) (by decide +kernel), by decide +kernel, by decide +kernel⟩
theorem v_6_take : Jvm.Cond.instanceMethod (mY m6_take) ∈ tG ∧ Jvm.Cond.selects (mY m6_take).cls (mY m6_take) (mY m6_take) ∈ tG := ⟨tG_of (List.mem_of_getElem? (i := 872) (by decide +kernel)) (by decide +kernel), tG_of (List.mem_of_getElem? (i := 39) (by decide +kernel)) (by decide +kernel)⟩
theorem lk_X6_84 : Lk RX6 84 m6_take 1 := ⟨ok_6_take, tG_of (List.mem_of_getElem? (i := 870) (by decide +kernel)) (by decide +kernel), by decide +kernel, by decide⟩
theorem ok_6_isDigit : MOK m6_isDigit := ⟨by decide +kernel, tG_of (List.mem_of_getElem? (i := 885) (by decide +kernel)) (by decide +kernel), tG_of (List.mem_of_getElem? (i := 71) (by decide +kernel)) (by decide +kernel), by decide +kernel, by decide +kernel⟩
theorem v_6_isDigit : Jvm.Cond.instanceMethod (mY m6_isDigit) ∈ tG ∧ Jvm.Cond.selects (mY m6_isDigit).cls (mY m6_isDigit) (mY m6_isDigit) ∈ tG := ⟨tG_of (List.mem_of_getElem? (i := 884) (by decide +kernel)) (by decide +kernel), tG_of (List.mem_of_getElem? (i := 42) (by decide +kernel)) (by decide +kernel)⟩
theorem lk_X6_88 : Lk RX6 88 m6_isDigit 0 := ⟨ok_6_isDigit, tG_of (List.mem_of_getElem? (i := 882) (by decide +kernel)) (by decide +kernel), by decide +kernel, by decide⟩
theorem ok_6_number : MOK m6_number := ⟨by decide +kernel, tG_of (List.mem_of_getElem? (i := 881) (by decide +kernel)) (by decide +kernel), tG_of (List.mem_of_getElem? (i := 71) (by decide +kernel)) (by decide +kernel), by decide +kernel, by decide +kernel⟩
theorem v_6_number : Jvm.Cond.instanceMethod (mY m6_number) ∈ tG ∧ Jvm.Cond.selects (mY m6_number).cls (mY m6_number) (mY m6_number) ∈ tG := ⟨tG_of (List.mem_of_getElem? (i := 880) (by decide +kernel)) (by decide +kernel), tG_of (List.mem_of_getElem? (i := 41) (by decide +kernel)) (by decide +kernel)⟩
theorem lk_X6_92 : Lk RX6 92 m6_number 1 := ⟨ok_6_number, tG_of (List.mem_of_getElem? (i := 878) (by decide +kernel)) (by decide +kernel), by decide +kernel, by decide⟩
theorem ok_6_digit : MOK m6_digit := ⟨by decide +kernel, tG_of (List.mem_of_getElem? (i := 889) (by decide +kernel)) (by decide +kernel), tG_of (List.mem_of_getElem? (i := 71) (by decide +kernel)) (by decide +kernel), by decide +kernel, by decide +kernel⟩
theorem v_6_digit : Jvm.Cond.instanceMethod (mY m6_digit) ∈ tG ∧ Jvm.Cond.selects (mY m6_digit).cls (mY m6_digit) (mY m6_digit) ∈ tG := ⟨tG_of (List.mem_of_getElem? (i := 888) (by decide +kernel)) (by decide +kernel), tG_of (List.mem_of_getElem? (i := 43) (by decide +kernel)) (by decide +kernel)⟩
theorem lk_X6_96 : Lk RX6 96 m6_digit 1 := ⟨ok_6_digit, tG_of (List.mem_of_getElem? (i := 886) (by decide +kernel)) (by decide +kernel), by decide +kernel, by decide⟩
theorem ok_6_kindOf : MOK m6_kindOf := ⟨by decide +kernel, tG_of (List.mem_of_getElem? (i := 865) (by decide +kernel)) (by decide +kernel), tG_of (List.mem_of_getElem? (i := 71) (by decide +kernel)) (by decide +kernel), by decide +kernel, by decide +kernel⟩
theorem s_6_kindOf : Jvm.Cond.static (mY m6_kindOf) ∈ tG := tG_of (List.mem_of_getElem? (i := 864) (by decide +kernel)) (by decide +kernel)
theorem lk_X6_99 : Lk RX6 99 m6_kindOf 1 := ⟨ok_6_kindOf, tG_of (List.mem_of_getElem? (i := 863) (by decide +kernel)) (by decide +kernel), by decide +kernel, by decide⟩
theorem f_X6_102 : FL RX6 102 6 3 := ⟨RX6, TX6, 27, rfl, by decide, inGX6, tG_of (List.mem_of_getElem? (i := 753) (by decide +kernel)) (by decide +kernel)⟩
theorem ok_6_voice : MOK m6_voice := ⟨by decide +kernel, tG_of (List.mem_of_getElem? (i := 877) (by decide +kernel)) (by decide +kernel), tG_of (List.mem_of_getElem? (i := 71) (by decide +kernel)) (by decide +kernel), by decide +kernel, by decide +kernel⟩
theorem v_6_voice : Jvm.Cond.instanceMethod (mY m6_voice) ∈ tG ∧ Jvm.Cond.selects (mY m6_voice).cls (mY m6_voice) (mY m6_voice) ∈ tG := ⟨tG_of (List.mem_of_getElem? (i := 876) (by decide +kernel)) (by decide +kernel), tG_of (List.mem_of_getElem? (i := 40) (by decide +kernel)) (by decide +kernel)⟩
theorem lk_X6_105 : Lk RX6 105 m6_voice 0 := ⟨ok_6_voice, tG_of (List.mem_of_getElem? (i := 874) (by decide +kernel)) (by decide +kernel), by decide +kernel, by decide⟩
theorem ok_6_readsOptions : MOK m6_readsOptions := ⟨by decide +kernel, tG_of (List.mem_of_getElem? (i := 893) (by decide +kernel)) (by decide +kernel), tG_of (List.mem_of_getElem? (i := 71) (by decide +kernel)) (by decide +kernel), by decide +kernel, by decide +kernel⟩
theorem v_6_readsOptions : Jvm.Cond.instanceMethod (mY m6_readsOptions) ∈ tG ∧ Jvm.Cond.selects (mY m6_readsOptions).cls (mY m6_readsOptions) (mY m6_readsOptions) ∈ tG := ⟨tG_of (List.mem_of_getElem? (i := 892) (by decide +kernel)) (by decide +kernel), tG_of (List.mem_of_getElem? (i := 44) (by decide +kernel)) (by decide +kernel)⟩
theorem lk_X6_108 : Lk RX6 108 m6_readsOptions 1 := ⟨ok_6_readsOptions, tG_of (List.mem_of_getElem? (i := 890) (by decide +kernel)) (by decide +kernel), by decide +kernel, by decide⟩
theorem p_X6_X6_3 : FP RX6 6 3 .int false := ⟨RX6, TX6, 27, tyX6, rfl, tyX6_ok, nmX6, by decide +kernel, rfl, fun q => by cases q⟩
theorem ok_6_readsNode : MOK m6_readsNode := ⟨by decide +kernel, tG_of (List.mem_of_getElem? (i := 862) (by decide +kernel)) (by decide +kernel), tG_of (List.mem_of_getElem? (i := 71) (by decide +kernel)) (by decide +kernel), by decide +kernel, by decide +kernel⟩
theorem v_6_readsNode : Jvm.Cond.instanceMethod (mY m6_readsNode) ∈ tG ∧ Jvm.Cond.selects (mY m6_readsNode).cls (mY m6_readsNode) (mY m6_readsNode) ∈ tG := ⟨tG_of (List.mem_of_getElem? (i := 861) (by decide +kernel)) (by decide +kernel), tG_of (List.mem_of_getElem? (i := 37) (by decide +kernel)) (by decide +kernel)⟩
theorem lk_X6_111 : Lk RX6 111 m6_readsNode 0 := ⟨ok_6_readsNode, tG_of (List.mem_of_getElem? (i := 859) (by decide +kernel)) (by decide +kernel), by decide +kernel, by decide⟩
theorem ok_6_reads : MOK m6_reads := ⟨by decide +kernel, tG_of (List.mem_of_getElem? (i := 850) (by decide +kernel)) (by decide +kernel), tG_of (List.mem_of_getElem? (i := 71) (by decide +kernel)) (by decide +kernel), by decide +kernel, by decide +kernel⟩
theorem v_6_reads : Jvm.Cond.instanceMethod (mY m6_reads) ∈ tG ∧ Jvm.Cond.selects (mY m6_reads).cls (mY m6_reads) (mY m6_reads) ∈ tG := ⟨tG_of (List.mem_of_getElem? (i := 849) (by decide +kernel)) (by decide +kernel), tG_of (List.mem_of_getElem? (i := 34) (by decide +kernel)) (by decide +kernel)⟩
theorem lk_X6_114 : Lk RX6 114 m6_reads 0 := ⟨ok_6_reads, tG_of (List.mem_of_getElem? (i := 847) (by decide +kernel)) (by decide +kernel), by decide +kernel, by decide⟩
theorem f_X6_116 : FL RX6 116 6 1 := ⟨RX6, TX6, 27, rfl, by decide, inGX6, tG_of (List.mem_of_getElem? (i := 751) (by decide +kernel)) (by decide +kernel)⟩
theorem ok_6_of : MOK m6_of := ⟨by decide +kernel, tG_of (List.mem_of_getElem? (i := 733) (by decide +kernel)) (by decide +kernel), tG_of (List.mem_of_getElem? (i := 71) (by decide +kernel)) (by decide +kernel), by decide +kernel, by decide +kernel⟩
theorem v_6_of : Jvm.Cond.instanceMethod (mY m6_of) ∈ tG ∧ Jvm.Cond.selects (mY m6_of).cls (mY m6_of) (mY m6_of) ∈ tG := ⟨tG_of (List.mem_of_getElem? (i := 732) (by decide +kernel)) (by decide +kernel), tG_of (List.mem_of_getElem? (i := 29) (by decide +kernel)) (by decide +kernel)⟩
theorem lk_X6_119 : Lk RX6 119 m6_of 2 := ⟨ok_6_of, tG_of (List.mem_of_getElem? (i := 730) (by decide +kernel)) (by decide +kernel), by decide +kernel, by decide⟩
theorem ok_6_leaves : MOK m6_leaves := ⟨by decide +kernel, tG_of (List.mem_of_getElem? (i := 741) (by decide +kernel)) (by decide +kernel), tG_of (List.mem_of_getElem? (i := 71) (by decide +kernel)) (by decide +kernel), by decide +kernel, by decide +kernel⟩
theorem v_6_leaves : Jvm.Cond.instanceMethod (mY m6_leaves) ∈ tG ∧ Jvm.Cond.selects (mY m6_leaves).cls (mY m6_leaves) (mY m6_leaves) ∈ tG := ⟨tG_of (List.mem_of_getElem? (i := 740) (by decide +kernel)) (by decide +kernel), tG_of (List.mem_of_getElem? (i := 31) (by decide +kernel)) (by decide +kernel)⟩
theorem lk_X6_123 : Lk RX6 123 m6_leaves 1 := ⟨ok_6_leaves, tG_of (List.mem_of_getElem? (i := 738) (by decide +kernel)) (by decide +kernel), by decide +kernel, by decide⟩
theorem f_X6_126 : FL RX6 126 6 15 := ⟨RX6, TX6, 27, rfl, by decide, inGX6, tG_of (List.mem_of_getElem? (i := 765) (by decide +kernel)) (by decide +kernel)⟩
theorem p_X6_X6_15 : FP RX6 6 15 .int false := ⟨RX6, TX6, 27, tyX6, rfl, tyX6_ok, nmX6, by decide +kernel, rfl, fun q => by cases q⟩
theorem ok_6_shownKind : MOK m6_shownKind := ⟨by decide +kernel, tG_of (List.mem_of_getElem? (i := 729) (by decide +kernel)) (by decide +kernel), tG_of (List.mem_of_getElem? (i := 71) (by decide +kernel)) (by decide +kernel), by decide +kernel, by decide +kernel⟩
theorem v_6_shownKind : Jvm.Cond.instanceMethod (mY m6_shownKind) ∈ tG ∧ Jvm.Cond.selects (mY m6_shownKind).cls (mY m6_shownKind) (mY m6_shownKind) ∈ tG := ⟨tG_of (List.mem_of_getElem? (i := 728) (by decide +kernel)) (by decide +kernel), tG_of (List.mem_of_getElem? (i := 28) (by decide +kernel)) (by decide +kernel)⟩
theorem lk_X6_129 : Lk RX6 129 m6_shownKind 1 := ⟨ok_6_shownKind, tG_of (List.mem_of_getElem? (i := 726) (by decide +kernel)) (by decide +kernel), by decide +kernel, by decide⟩
theorem ok_6_does : MOK m6_does := ⟨by decide +kernel, tG_of (List.mem_of_getElem? (i := 737) (by decide +kernel)) (by decide +kernel), tG_of (List.mem_of_getElem? (i := 71) (by decide +kernel)) (by decide +kernel), by decide +kernel, by decide +kernel⟩
theorem v_6_does : Jvm.Cond.instanceMethod (mY m6_does) ∈ tG ∧ Jvm.Cond.selects (mY m6_does).cls (mY m6_does) (mY m6_does) ∈ tG := ⟨tG_of (List.mem_of_getElem? (i := 736) (by decide +kernel)) (by decide +kernel), tG_of (List.mem_of_getElem? (i := 30) (by decide +kernel)) (by decide +kernel)⟩
theorem lk_X6_132 : Lk RX6 132 m6_does 1 := ⟨ok_6_does, tG_of (List.mem_of_getElem? (i := 734) (by decide +kernel)) (by decide +kernel), by decide +kernel, by decide⟩
theorem f_X6_135 : FL RX6 135 6 5 := ⟨RX6, TX6, 27, rfl, by decide, inGX6, tG_of (List.mem_of_getElem? (i := 755) (by decide +kernel)) (by decide +kernel)⟩
theorem f_X6_138 : FL RX6 138 6 6 := ⟨RX6, TX6, 27, rfl, by decide, inGX6, tG_of (List.mem_of_getElem? (i := 756) (by decide +kernel)) (by decide +kernel)⟩
theorem ok_6_placeOf : MOK m6_placeOf := ⟨by decide +kernel, tG_of (List.mem_of_getElem? (i := 749) (by decide +kernel)) (by decide +kernel), tG_of (List.mem_of_getElem? (i := 71) (by decide +kernel)) (by decide +kernel), by decide +kernel, by decide +kernel⟩
theorem v_6_placeOf : Jvm.Cond.instanceMethod (mY m6_placeOf) ∈ tG ∧ Jvm.Cond.selects (mY m6_placeOf).cls (mY m6_placeOf) (mY m6_placeOf) ∈ tG := ⟨tG_of (List.mem_of_getElem? (i := 748) (by decide +kernel)) (by decide +kernel), tG_of (List.mem_of_getElem? (i := 33) (by decide +kernel)) (by decide +kernel)⟩
theorem lk_X6_141 : Lk RX6 141 m6_placeOf 1 := ⟨ok_6_placeOf, tG_of (List.mem_of_getElem? (i := 746) (by decide +kernel)) (by decide +kernel), by decide +kernel, by decide⟩
theorem f_X6_144 : FL RX6 144 6 10 := ⟨RX6, TX6, 27, rfl, by decide, inGX6, tG_of (List.mem_of_getElem? (i := 760) (by decide +kernel)) (by decide +kernel)⟩
theorem p_X6_X6_10 : FP RX6 6 10 .int false := ⟨RX6, TX6, 27, tyX6, rfl, tyX6_ok, nmX6, by decide +kernel, rfl, fun q => by cases q⟩
theorem ok_6_present : MOK m6_present := ⟨by decide +kernel, tG_of (List.mem_of_getElem? (i := 905) (by decide +kernel)) (by decide +kernel), tG_of (List.mem_of_getElem? (i := 71) (by decide +kernel)) (by decide +kernel), by decide +kernel, by decide +kernel⟩
theorem v_6_present : Jvm.Cond.instanceMethod (mY m6_present) ∈ tG ∧ Jvm.Cond.selects (mY m6_present).cls (mY m6_present) (mY m6_present) ∈ tG := ⟨tG_of (List.mem_of_getElem? (i := 904) (by decide +kernel)) (by decide +kernel), tG_of (List.mem_of_getElem? (i := 45) (by decide +kernel)) (by decide +kernel)⟩
theorem lk_X6_147 : Lk RX6 147 m6_present 1 := ⟨ok_6_present, tG_of (List.mem_of_getElem? (i := 902) (by decide +kernel)) (by decide +kernel), by decide +kernel, by decide⟩
theorem p_X6_X6_5 : FP RX6 6 5 .int false := ⟨RX6, TX6, 27, tyX6, rfl, tyX6_ok, nmX6, by decide +kernel, rfl, fun q => by cases q⟩
theorem p_X6_X6_6 : FP RX6 6 6 .int false := ⟨RX6, TX6, 27, tyX6, rfl, tyX6_ok, nmX6, by decide +kernel, rfl, fun q => by cases q⟩
theorem f_X6_150 : FL RX6 150 6 7 := ⟨RX6, TX6, 27, rfl, by decide, inGX6, tG_of (List.mem_of_getElem? (i := 757) (by decide +kernel)) (by decide +kernel)⟩
theorem p_X6_X6_7 : FP RX6 6 7 .int false := ⟨RX6, TX6, 27, tyX6, rfl, tyX6_ok, nmX6, by decide +kernel, rfl, fun q => by cases q⟩
theorem ok_6_carries : MOK m6_carries := ⟨by decide +kernel, tG_of (List.mem_of_getElem? (i := 725) (by decide +kernel)) (by decide +kernel), tG_of (List.mem_of_getElem? (i := 71) (by decide +kernel)) (by decide +kernel), by decide +kernel, by decide +kernel⟩
theorem v_6_carries : Jvm.Cond.instanceMethod (mY m6_carries) ∈ tG ∧ Jvm.Cond.selects (mY m6_carries).cls (mY m6_carries) (mY m6_carries) ∈ tG := ⟨tG_of (List.mem_of_getElem? (i := 724) (by decide +kernel)) (by decide +kernel), tG_of (List.mem_of_getElem? (i := 27) (by decide +kernel)) (by decide +kernel)⟩
theorem lk_X6_153 : Lk RX6 153 m6_carries 1 := ⟨ok_6_carries, tG_of (List.mem_of_getElem? (i := 722) (by decide +kernel)) (by decide +kernel), by decide +kernel, by decide⟩
theorem ok_6_puts : MOK m6_puts := ⟨by decide +kernel, tG_of (List.mem_of_getElem? (i := 745) (by decide +kernel)) (by decide +kernel), tG_of (List.mem_of_getElem? (i := 71) (by decide +kernel)) (by decide +kernel), by decide +kernel, by decide +kernel⟩
theorem v_6_puts : Jvm.Cond.instanceMethod (mY m6_puts) ∈ tG ∧ Jvm.Cond.selects (mY m6_puts).cls (mY m6_puts) (mY m6_puts) ∈ tG := ⟨tG_of (List.mem_of_getElem? (i := 744) (by decide +kernel)) (by decide +kernel), tG_of (List.mem_of_getElem? (i := 32) (by decide +kernel)) (by decide +kernel)⟩
theorem lk_X6_156 : Lk RX6 156 m6_puts 1 := ⟨ok_6_puts, tG_of (List.mem_of_getElem? (i := 742) (by decide +kernel)) (by decide +kernel), by decide +kernel, by decide⟩
theorem ok_6_takes : MOK m6_takes := ⟨by decide +kernel, tG_of (List.mem_of_getElem? (i := 917) (by decide +kernel)) (by decide +kernel), tG_of (List.mem_of_getElem? (i := 71) (by decide +kernel)) (by decide +kernel), by decide +kernel, by decide +kernel⟩
theorem v_6_takes : Jvm.Cond.instanceMethod (mY m6_takes) ∈ tG ∧ Jvm.Cond.selects (mY m6_takes).cls (mY m6_takes) (mY m6_takes) ∈ tG := ⟨tG_of (List.mem_of_getElem? (i := 916) (by decide +kernel)) (by decide +kernel), tG_of (List.mem_of_getElem? (i := 47) (by decide +kernel)) (by decide +kernel)⟩
theorem lk_X6_159 : Lk RX6 159 m6_takes 0 := ⟨ok_6_takes, tG_of (List.mem_of_getElem? (i := 914) (by decide +kernel)) (by decide +kernel), by decide +kernel, by decide⟩
theorem p_X6_X6_1 : FP RX6 6 1 .int false := ⟨RX6, TX6, 27, tyX6, rfl, tyX6_ok, nmX6, by decide +kernel, rfl, fun q => by cases q⟩
theorem ok_6_goesOn : MOK m6_goesOn := ⟨by decide +kernel, tG_of (List.mem_of_getElem? (i := 913) (by decide +kernel)) (by decide +kernel), tG_of (List.mem_of_getElem? (i := 71) (by decide +kernel)) (by decide +kernel), by decide +kernel, by decide +kernel⟩
theorem v_6_goesOn : Jvm.Cond.instanceMethod (mY m6_goesOn) ∈ tG ∧ Jvm.Cond.selects (mY m6_goesOn).cls (mY m6_goesOn) (mY m6_goesOn) ∈ tG := ⟨tG_of (List.mem_of_getElem? (i := 912) (by decide +kernel)) (by decide +kernel), tG_of (List.mem_of_getElem? (i := 46) (by decide +kernel)) (by decide +kernel)⟩
theorem lk_X6_162 : Lk RX6 162 m6_goesOn 1 := ⟨ok_6_goesOn, tG_of (List.mem_of_getElem? (i := 910) (by decide +kernel)) (by decide +kernel), by decide +kernel, by decide⟩
theorem ok_6_isLocked : MOK m6_isLocked := ⟨by decide +kernel, tG_of (List.mem_of_getElem? (i := 925) (by decide +kernel)) (by decide +kernel), tG_of (List.mem_of_getElem? (i := 71) (by decide +kernel)) (by decide +kernel), by decide +kernel, by decide +kernel⟩
theorem v_6_isLocked : Jvm.Cond.instanceMethod (mY m6_isLocked) ∈ tG ∧ Jvm.Cond.selects (mY m6_isLocked).cls (mY m6_isLocked) (mY m6_isLocked) ∈ tG := ⟨tG_of (List.mem_of_getElem? (i := 924) (by decide +kernel)) (by decide +kernel), tG_of (List.mem_of_getElem? (i := 48) (by decide +kernel)) (by decide +kernel)⟩
theorem lk_X6_165 : Lk RX6 165 m6_isLocked 3 := ⟨ok_6_isLocked, tG_of (List.mem_of_getElem? (i := 922) (by decide +kernel)) (by decide +kernel), by decide +kernel, by decide⟩
theorem ok_6_endOf : MOK m6_endOf := ⟨by decide +kernel, tG_of (List.mem_of_getElem? (i := 953) (by decide +kernel)) (by decide +kernel), tG_of (List.mem_of_getElem? (i := 71) (by decide +kernel)) (by decide +kernel), by decide +kernel, by decide +kernel⟩
theorem v_6_endOf : Jvm.Cond.instanceMethod (mY m6_endOf) ∈ tG ∧ Jvm.Cond.selects (mY m6_endOf).cls (mY m6_endOf) (mY m6_endOf) ∈ tG := ⟨tG_of (List.mem_of_getElem? (i := 952) (by decide +kernel)) (by decide +kernel), tG_of (List.mem_of_getElem? (i := 49) (by decide +kernel)) (by decide +kernel)⟩
theorem lk_X6_168 : Lk RX6 168 m6_endOf 1 := ⟨ok_6_endOf, tG_of (List.mem_of_getElem? (i := 950) (by decide +kernel)) (by decide +kernel), by decide +kernel, by decide⟩
theorem ok_6_open : MOK m6_open := ⟨by decide +kernel, tG_of (List.mem_of_getElem? (i := 957) (by decide +kernel)) (by decide +kernel), tG_of (List.mem_of_getElem? (i := 71) (by decide +kernel)) (by decide +kernel), by decide +kernel, by decide +kernel⟩
theorem v_6_open : Jvm.Cond.instanceMethod (mY m6_open) ∈ tG ∧ Jvm.Cond.selects (mY m6_open).cls (mY m6_open) (mY m6_open) ∈ tG := ⟨tG_of (List.mem_of_getElem? (i := 956) (by decide +kernel)) (by decide +kernel), tG_of (List.mem_of_getElem? (i := 50) (by decide +kernel)) (by decide +kernel)⟩
theorem lk_X6_171 : Lk RX6 171 m6_open 0 := ⟨ok_6_open, tG_of (List.mem_of_getElem? (i := 954) (by decide +kernel)) (by decide +kernel), by decide +kernel, by decide⟩
theorem ok_6_isNode : MOK m6_isNode := ⟨by decide +kernel, tG_of (List.mem_of_getElem? (i := 969) (by decide +kernel)) (by decide +kernel), tG_of (List.mem_of_getElem? (i := 71) (by decide +kernel)) (by decide +kernel), by decide +kernel, by decide +kernel⟩
theorem v_6_isNode : Jvm.Cond.instanceMethod (mY m6_isNode) ∈ tG ∧ Jvm.Cond.selects (mY m6_isNode).cls (mY m6_isNode) (mY m6_isNode) ∈ tG := ⟨tG_of (List.mem_of_getElem? (i := 968) (by decide +kernel)) (by decide +kernel), tG_of (List.mem_of_getElem? (i := 51) (by decide +kernel)) (by decide +kernel)⟩
theorem lk_X6_174 : Lk RX6 174 m6_isNode 1 := ⟨ok_6_isNode, tG_of (List.mem_of_getElem? (i := 966) (by decide +kernel)) (by decide +kernel), by decide +kernel, by decide⟩
theorem ok_6_isChoice : MOK m6_isChoice := ⟨by decide +kernel, tG_of (List.mem_of_getElem? (i := 977) (by decide +kernel)) (by decide +kernel), tG_of (List.mem_of_getElem? (i := 71) (by decide +kernel)) (by decide +kernel), by decide +kernel, by decide +kernel⟩
theorem v_6_isChoice : Jvm.Cond.instanceMethod (mY m6_isChoice) ∈ tG ∧ Jvm.Cond.selects (mY m6_isChoice).cls (mY m6_isChoice) (mY m6_isChoice) ∈ tG := ⟨tG_of (List.mem_of_getElem? (i := 976) (by decide +kernel)) (by decide +kernel), tG_of (List.mem_of_getElem? (i := 52) (by decide +kernel)) (by decide +kernel)⟩
theorem lk_X6_178 : Lk RX6 178 m6_isChoice 1 := ⟨ok_6_isChoice, tG_of (List.mem_of_getElem? (i := 974) (by decide +kernel)) (by decide +kernel), by decide +kernel, by decide⟩
theorem f_X6_181 : FL RX6 181 6 22 := ⟨RX6, TX6, 27, rfl, by decide, inGX6, tG_of (List.mem_of_getElem? (i := 772) (by decide +kernel)) (by decide +kernel)⟩
theorem p_X6_X6_22 : FP RX6 6 22 .int false := ⟨RX6, TX6, 27, tyX6, rfl, tyX6_ok, nmX6, by decide +kernel, rfl, fun q => by cases q⟩
theorem ok_6_follows : MOK m6_follows := ⟨by decide +kernel, tG_of (List.mem_of_getElem? (i := 989) (by decide +kernel)) (by decide +kernel), tG_of (List.mem_of_getElem? (i := 71) (by decide +kernel)) (by decide +kernel), by decide +kernel, by decide +kernel⟩
theorem v_6_follows : Jvm.Cond.instanceMethod (mY m6_follows) ∈ tG ∧ Jvm.Cond.selects (mY m6_follows).cls (mY m6_follows) (mY m6_follows) ∈ tG := ⟨tG_of (List.mem_of_getElem? (i := 988) (by decide +kernel)) (by decide +kernel), tG_of (List.mem_of_getElem? (i := 54) (by decide +kernel)) (by decide +kernel)⟩
theorem lk_X6_184 : Lk RX6 184 m6_follows 3 := ⟨ok_6_follows, tG_of (List.mem_of_getElem? (i := 986) (by decide +kernel)) (by decide +kernel), by decide +kernel, by decide⟩
theorem ok_6_charts : MOK m6_charts := ⟨by decide +kernel, tG_of (List.mem_of_getElem? (i := 985) (by decide +kernel)) (by decide +kernel), tG_of (List.mem_of_getElem? (i := 71) (by decide +kernel)) (by decide +kernel), by decide +kernel, by decide +kernel⟩
theorem v_6_charts : Jvm.Cond.instanceMethod (mY m6_charts) ∈ tG ∧ Jvm.Cond.selects (mY m6_charts).cls (mY m6_charts) (mY m6_charts) ∈ tG := ⟨tG_of (List.mem_of_getElem? (i := 984) (by decide +kernel)) (by decide +kernel), tG_of (List.mem_of_getElem? (i := 53) (by decide +kernel)) (by decide +kernel)⟩
theorem lk_X6_188 : Lk RX6 188 m6_charts 0 := ⟨ok_6_charts, tG_of (List.mem_of_getElem? (i := 982) (by decide +kernel)) (by decide +kernel), by decide +kernel, by decide⟩
theorem ok_6_situationsOf : MOK m6_situationsOf := ⟨by decide +kernel, tG_of (List.mem_of_getElem? (i := 993) (by decide +kernel)) (by decide +kernel), tG_of (List.mem_of_getElem? (i := 71) (by decide +kernel)) (by decide +kernel), by decide +kernel, by decide +kernel⟩
theorem v_6_situationsOf : Jvm.Cond.instanceMethod (mY m6_situationsOf) ∈ tG ∧ Jvm.Cond.selects (mY m6_situationsOf).cls (mY m6_situationsOf) (mY m6_situationsOf) ∈ tG := ⟨tG_of (List.mem_of_getElem? (i := 992) (by decide +kernel)) (by decide +kernel), tG_of (List.mem_of_getElem? (i := 55) (by decide +kernel)) (by decide +kernel)⟩
theorem lk_X6_191 : Lk RX6 191 m6_situationsOf 1 := ⟨ok_6_situationsOf, tG_of (List.mem_of_getElem? (i := 990) (by decide +kernel)) (by decide +kernel), by decide +kernel, by decide⟩
theorem ok_6_isEndNumber : MOK m6_isEndNumber := ⟨by decide +kernel, tG_of (List.mem_of_getElem? (i := 1000) (by decide +kernel)) (by decide +kernel), tG_of (List.mem_of_getElem? (i := 71) (by decide +kernel)) (by decide +kernel), by decide +kernel, by decide +kernel⟩
theorem s_6_isEndNumber : Jvm.Cond.static (mY m6_isEndNumber) ∈ tG := tG_of (List.mem_of_getElem? (i := 999) (by decide +kernel)) (by decide +kernel)
theorem lk_X6_194 : Lk RX6 194 m6_isEndNumber 1 := ⟨ok_6_isEndNumber, tG_of (List.mem_of_getElem? (i := 998) (by decide +kernel)) (by decide +kernel), by decide +kernel, by decide⟩
theorem ok_6_stepsTo : MOK m6_stepsTo := ⟨by decide +kernel, tG_of (List.mem_of_getElem? (i := 1004) (by decide +kernel)) (by decide +kernel), tG_of (List.mem_of_getElem? (i := 71) (by decide +kernel)) (by decide +kernel), by decide +kernel, by decide +kernel⟩
theorem v_6_stepsTo : Jvm.Cond.instanceMethod (mY m6_stepsTo) ∈ tG ∧ Jvm.Cond.selects (mY m6_stepsTo).cls (mY m6_stepsTo) (mY m6_stepsTo) ∈ tG := ⟨tG_of (List.mem_of_getElem? (i := 1003) (by decide +kernel)) (by decide +kernel), tG_of (List.mem_of_getElem? (i := 56) (by decide +kernel)) (by decide +kernel)⟩
theorem lk_X6_197 : Lk RX6 197 m6_stepsTo 1 := ⟨ok_6_stepsTo, tG_of (List.mem_of_getElem? (i := 1001) (by decide +kernel)) (by decide +kernel), by decide +kernel, by decide⟩
theorem ok_6_isUsable : MOK m6_isUsable := ⟨by decide +kernel, tG_of (List.mem_of_getElem? (i := 1016) (by decide +kernel)) (by decide +kernel), tG_of (List.mem_of_getElem? (i := 71) (by decide +kernel)) (by decide +kernel), by decide +kernel, by decide +kernel⟩
theorem v_6_isUsable : Jvm.Cond.instanceMethod (mY m6_isUsable) ∈ tG ∧ Jvm.Cond.selects (mY m6_isUsable).cls (mY m6_isUsable) (mY m6_isUsable) ∈ tG := ⟨tG_of (List.mem_of_getElem? (i := 1015) (by decide +kernel)) (by decide +kernel), tG_of (List.mem_of_getElem? (i := 57) (by decide +kernel)) (by decide +kernel)⟩
theorem lk_X6_200 : Lk RX6 200 m6_isUsable 2 := ⟨ok_6_isUsable, tG_of (List.mem_of_getElem? (i := 1013) (by decide +kernel)) (by decide +kernel), by decide +kernel, by decide⟩
theorem ok_6_seenNodes : MOK m6_seenNodes := ⟨by decide +kernel, tG_of (List.mem_of_getElem? (i := 1024) (by decide +kernel)) (by decide +kernel), tG_of (List.mem_of_getElem? (i := 71) (by decide +kernel)) (by decide +kernel), by decide +kernel, by decide +kernel⟩
theorem v_6_seenNodes : Jvm.Cond.instanceMethod (mY m6_seenNodes) ∈ tG ∧ Jvm.Cond.selects (mY m6_seenNodes).cls (mY m6_seenNodes) (mY m6_seenNodes) ∈ tG := ⟨tG_of (List.mem_of_getElem? (i := 1023) (by decide +kernel)) (by decide +kernel), tG_of (List.mem_of_getElem? (i := 58) (by decide +kernel)) (by decide +kernel)⟩
theorem lk_X6_203 : Lk RX6 203 m6_seenNodes 0 := ⟨ok_6_seenNodes, tG_of (List.mem_of_getElem? (i := 1021) (by decide +kernel)) (by decide +kernel), by decide +kernel, by decide⟩
theorem ok_6_savedMoments : MOK m6_savedMoments := ⟨by decide +kernel, tG_of (List.mem_of_getElem? (i := 1028) (by decide +kernel)) (by decide +kernel), tG_of (List.mem_of_getElem? (i := 71) (by decide +kernel)) (by decide +kernel), by decide +kernel, by decide +kernel⟩
theorem v_6_savedMoments : Jvm.Cond.instanceMethod (mY m6_savedMoments) ∈ tG ∧ Jvm.Cond.selects (mY m6_savedMoments).cls (mY m6_savedMoments) (mY m6_savedMoments) ∈ tG := ⟨tG_of (List.mem_of_getElem? (i := 1027) (by decide +kernel)) (by decide +kernel), tG_of (List.mem_of_getElem? (i := 59) (by decide +kernel)) (by decide +kernel)⟩
theorem lk_X6_206 : Lk RX6 206 m6_savedMoments 0 := ⟨ok_6_savedMoments, tG_of (List.mem_of_getElem? (i := 1025) (by decide +kernel)) (by decide +kernel), by decide +kernel, by decide⟩
theorem ok_6_ends : MOK m6_ends := ⟨by decide +kernel, tG_of (List.mem_of_getElem? (i := 1032) (by decide +kernel)) (by decide +kernel), tG_of (List.mem_of_getElem? (i := 71) (by decide +kernel)) (by decide +kernel), by decide +kernel, by decide +kernel⟩
theorem v_6_ends : Jvm.Cond.instanceMethod (mY m6_ends) ∈ tG ∧ Jvm.Cond.selects (mY m6_ends).cls (mY m6_ends) (mY m6_ends) ∈ tG := ⟨tG_of (List.mem_of_getElem? (i := 1031) (by decide +kernel)) (by decide +kernel), tG_of (List.mem_of_getElem? (i := 60) (by decide +kernel)) (by decide +kernel)⟩
theorem lk_X6_209 : Lk RX6 209 m6_ends 0 := ⟨ok_6_ends, tG_of (List.mem_of_getElem? (i := 1029) (by decide +kernel)) (by decide +kernel), by decide +kernel, by decide⟩
theorem f_X6_214 : FL RX6 214 6 26 := ⟨RX6, TX6, 27, rfl, by decide, inGX6, tG_of (List.mem_of_getElem? (i := 776) (by decide +kernel)) (by decide +kernel)⟩
theorem p_X6_X6_26 : FP RX6 6 26 .long false := ⟨RX6, TX6, 27, tyX6, rfl, tyX6_ok, nmX6, by decide +kernel, rfl, fun q => by cases q⟩
theorem ok_6_mixes : MOK m6_mixes := ⟨by decide +kernel, tG_of (List.mem_of_getElem? (i := 1042) (by decide +kernel)) (by decide +kernel), tG_of (List.mem_of_getElem? (i := 71) (by decide +kernel)) (by decide +kernel), by decide +kernel, by decide +kernel⟩
theorem v_6_mixes : Jvm.Cond.instanceMethod (mY m6_mixes) ∈ tG ∧ Jvm.Cond.selects (mY m6_mixes).cls (mY m6_mixes) (mY m6_mixes) ∈ tG := ⟨tG_of (List.mem_of_getElem? (i := 1041) (by decide +kernel)) (by decide +kernel), tG_of (List.mem_of_getElem? (i := 61) (by decide +kernel)) (by decide +kernel)⟩
theorem lk_X6_218 : Lk RX6 218 m6_mixes 1 := ⟨ok_6_mixes, tG_of (List.mem_of_getElem? (i := 1039) (by decide +kernel)) (by decide +kernel), by decide +kernel, by decide⟩
theorem ok_6_option : MOK m6_option := ⟨by decide +kernel, tG_of (List.mem_of_getElem? (i := 973) (by decide +kernel)) (by decide +kernel), tG_of (List.mem_of_getElem? (i := 71) (by decide +kernel)) (by decide +kernel), by decide +kernel, by decide +kernel⟩
theorem v_6_option : Jvm.Cond.instanceMethod (mY m6_option) ∈ tG ∧ Jvm.Cond.selects (mY m6_option).cls (mY m6_option) (mY m6_option) ∈ tG := ⟨tG_of (List.mem_of_getElem? (i := 971) (by decide +kernel)) (by decide +kernel), tG_of (List.mem_of_getElem? (i := 972) (by decide +kernel)) (by decide +kernel)⟩
theorem lk_X6_221 : Lk RX6 221 m6_option 3 := ⟨ok_6_option, tG_of (List.mem_of_getElem? (i := 1050) (by decide +kernel)) (by decide +kernel), by decide +kernel, by decide⟩
theorem ok_6_count : MOK m6_count := ⟨by decide +kernel, tG_of (List.mem_of_getElem? (i := 1020) (by decide +kernel)) (by decide +kernel), tG_of (List.mem_of_getElem? (i := 71) (by decide +kernel)) (by decide +kernel), by decide +kernel, by decide +kernel⟩
theorem v_6_count : Jvm.Cond.instanceMethod (mY m6_count) ∈ tG ∧ Jvm.Cond.selects (mY m6_count).cls (mY m6_count) (mY m6_count) ∈ tG := ⟨tG_of (List.mem_of_getElem? (i := 1018) (by decide +kernel)) (by decide +kernel), tG_of (List.mem_of_getElem? (i := 1019) (by decide +kernel)) (by decide +kernel)⟩
theorem lk_X6_227 : Lk RX6 227 m6_count 1 := ⟨ok_6_count, tG_of (List.mem_of_getElem? (i := 1038) (by decide +kernel)) (by decide +kernel), by decide +kernel, by decide⟩
theorem ok_6_shown : MOK m6_shown := ⟨by decide +kernel, tG_of (List.mem_of_getElem? (i := 949) (by decide +kernel)) (by decide +kernel), tG_of (List.mem_of_getElem? (i := 71) (by decide +kernel)) (by decide +kernel), by decide +kernel, by decide +kernel⟩
theorem v_6_shown : Jvm.Cond.instanceMethod (mY m6_shown) ∈ tG ∧ Jvm.Cond.selects (mY m6_shown).cls (mY m6_shown) (mY m6_shown) ∈ tG := ⟨tG_of (List.mem_of_getElem? (i := 947) (by decide +kernel)) (by decide +kernel), tG_of (List.mem_of_getElem? (i := 948) (by decide +kernel)) (by decide +kernel)⟩
theorem lk_X6_229 : Lk RX6 229 m6_shown 1 := ⟨ok_6_shown, tG_of (List.mem_of_getElem? (i := 1044) (by decide +kernel)) (by decide +kernel), by decide +kernel, by decide⟩
theorem ok_6_portrait : MOK m6_portrait := ⟨by decide +kernel, tG_of (List.mem_of_getElem? (i := 961) (by decide +kernel)) (by decide +kernel), tG_of (List.mem_of_getElem? (i := 71) (by decide +kernel)) (by decide +kernel), by decide +kernel, by decide +kernel⟩
theorem v_6_portrait : Jvm.Cond.instanceMethod (mY m6_portrait) ∈ tG ∧ Jvm.Cond.selects (mY m6_portrait).cls (mY m6_portrait) (mY m6_portrait) ∈ tG := ⟨tG_of (List.mem_of_getElem? (i := 959) (by decide +kernel)) (by decide +kernel), tG_of (List.mem_of_getElem? (i := 960) (by decide +kernel)) (by decide +kernel)⟩
theorem lk_X6_232 : Lk RX6 232 m6_portrait 2 := ⟨ok_6_portrait, tG_of (List.mem_of_getElem? (i := 1045) (by decide +kernel)) (by decide +kernel), by decide +kernel, by decide⟩
theorem ok_6_mixesNode : MOK m6_mixesNode := ⟨by decide +kernel, tG_of (List.mem_of_getElem? (i := 1049) (by decide +kernel)) (by decide +kernel), tG_of (List.mem_of_getElem? (i := 71) (by decide +kernel)) (by decide +kernel), by decide +kernel, by decide +kernel⟩
theorem v_6_mixesNode : Jvm.Cond.instanceMethod (mY m6_mixesNode) ∈ tG ∧ Jvm.Cond.selects (mY m6_mixesNode).cls (mY m6_mixesNode) (mY m6_mixesNode) ∈ tG := ⟨tG_of (List.mem_of_getElem? (i := 1048) (by decide +kernel)) (by decide +kernel), tG_of (List.mem_of_getElem? (i := 62) (by decide +kernel)) (by decide +kernel)⟩
theorem lk_X6_236 : Lk RX6 236 m6_mixesNode 1 := ⟨ok_6_mixesNode, tG_of (List.mem_of_getElem? (i := 1046) (by decide +kernel)) (by decide +kernel), by decide +kernel, by decide⟩
theorem nw_X5 : (∀ j, j < 4 → ([vN, vN, vN, vN] : List AV)[j]? = some (dfv (tyX5 j)) ∧ ∀ G : GD, cv G (dfv (tyX5 j)) = defaultValue (tyX5 j)) ∧ (∀ v ∈ ([vN, vN, vN, vN] : List AV), vok v) := by
  refine ⟨fun j hj => ?_, fun v hv => ?_⟩
  · rcases (by omega : j = 0 ∨ j = 1 ∨ j = 2 ∨ j = 3) with rfl | rfl | rfl | rfl <;> exact ⟨rfl, fun G => rfl⟩
  · simp only [List.mem_cons, List.not_mem_nil, or_false] at hv
    rcases hv with rfl | rfl | rfl | rfl <;> first | trivial | (exact ⟨by decide, by decide⟩)
theorem ok_5_init : MOK m5_init := ⟨by decide +kernel, tG_of (List.mem_of_getElem? (i := 83) (by decide +kernel)) (by decide +kernel), tG_of (List.mem_of_getElem? (i := 64) (by decide +kernel)) (by decide +kernel), by decide +kernel, by decide +kernel⟩
theorem i_5_init : Jvm.Cond.instanceMethod (mY m5_init) ∈ tG := tG_of (List.mem_of_getElem? (i := 82) (by decide +kernel)) (by decide +kernel)
theorem l_L_9 : Jvm.Cond.methodLink RL 9 (mY m5_init) ∈ tG := tG_of (List.mem_of_getElem? (i := 81) (by decide +kernel)) (by decide +kernel)
theorem nw_X6 : (∀ j, j < 27 → ([vN, vI 0, vN, vI 0, vN, vI 0, vI 0, vI 0, vN, vN, vI 0, vN, vI 0, vI 0, vI 0, vI 0, vN, vN, vN, vN, vN, vN, vI 0, vN, vN, vN, vL 0] : List AV)[j]? = some (dfv (tyX6 j)) ∧ ∀ G : GD, cv G (dfv (tyX6 j)) = defaultValue (tyX6 j)) ∧ (∀ v ∈ ([vN, vI 0, vN, vI 0, vN, vI 0, vI 0, vI 0, vN, vN, vI 0, vN, vI 0, vI 0, vI 0, vI 0, vN, vN, vN, vN, vN, vN, vI 0, vN, vN, vN, vL 0] : List AV), vok v) := by
  refine ⟨fun j hj => ?_, fun v hv => ?_⟩
  · rcases (by omega : j = 0 ∨ j = 1 ∨ j = 2 ∨ j = 3 ∨ j = 4 ∨ j = 5 ∨ j = 6 ∨ j = 7 ∨ j = 8 ∨ j = 9 ∨ j = 10 ∨ j = 11 ∨ j = 12 ∨ j = 13 ∨ j = 14 ∨ j = 15 ∨ j = 16 ∨ j = 17 ∨ j = 18 ∨ j = 19 ∨ j = 20 ∨ j = 21 ∨ j = 22 ∨ j = 23 ∨ j = 24 ∨ j = 25 ∨ j = 26) with rfl | rfl | rfl | rfl | rfl | rfl | rfl | rfl | rfl | rfl | rfl | rfl | rfl | rfl | rfl | rfl | rfl | rfl | rfl | rfl | rfl | rfl | rfl | rfl | rfl | rfl | rfl <;> exact ⟨rfl, fun G => rfl⟩
  · simp only [List.mem_cons, List.not_mem_nil, or_false] at hv
    rcases hv with rfl | rfl | rfl | rfl | rfl | rfl | rfl | rfl | rfl | rfl | rfl | rfl | rfl | rfl | rfl | rfl | rfl | rfl | rfl | rfl | rfl | rfl | rfl | rfl | rfl | rfl | rfl <;> first | trivial | (exact ⟨by decide, by decide⟩)
theorem ok_6_init : MOK m6_init := ⟨by decide +kernel, tG_of (List.mem_of_getElem? (i := 716) (by decide +kernel)) (by decide +kernel), tG_of (List.mem_of_getElem? (i := 71) (by decide +kernel)) (by decide +kernel), by decide +kernel, by decide +kernel⟩
theorem i_6_init : Jvm.Cond.instanceMethod (mY m6_init) ∈ tG := tG_of (List.mem_of_getElem? (i := 715) (by decide +kernel)) (by decide +kernel)
theorem l_L_12 : Jvm.Cond.methodLink RL 12 (mY m6_init) ∈ tG := tG_of (List.mem_of_getElem? (i := 714) (by decide +kernel)) (by decide +kernel)
theorem ok_5_type : MOK m5_type := ⟨by decide +kernel, tG_of (List.mem_of_getElem? (i := 355) (by decide +kernel)) (by decide +kernel), tG_of (List.mem_of_getElem? (i := 64) (by decide +kernel)) (by decide +kernel), by decide +kernel, by decide +kernel⟩
theorem v_5_type : Jvm.Cond.instanceMethod (mY m5_type) ∈ tG ∧ Jvm.Cond.selects (mY m5_type).cls (mY m5_type) (mY m5_type) ∈ tG := ⟨tG_of (List.mem_of_getElem? (i := 353) (by decide +kernel)) (by decide +kernel), tG_of (List.mem_of_getElem? (i := 354) (by decide +kernel)) (by decide +kernel)⟩
theorem lk_L_13 : Lk RL 13 m5_type 1 := ⟨ok_5_type, tG_of (List.mem_of_getElem? (i := 352) (by decide +kernel)) (by decide +kernel), by decide +kernel, by decide⟩
theorem ok_6_type : MOK m6_type := ⟨by decide +kernel, tG_of (List.mem_of_getElem? (i := 835) (by decide +kernel)) (by decide +kernel), tG_of (List.mem_of_getElem? (i := 71) (by decide +kernel)) (by decide +kernel), by decide +kernel, by decide +kernel⟩
theorem v_6_type : Jvm.Cond.instanceMethod (mY m6_type) ∈ tG ∧ Jvm.Cond.selects (mY m6_type).cls (mY m6_type) (mY m6_type) ∈ tG := ⟨tG_of (List.mem_of_getElem? (i := 833) (by decide +kernel)) (by decide +kernel), tG_of (List.mem_of_getElem? (i := 834) (by decide +kernel)) (by decide +kernel)⟩
theorem lk_L_17 : Lk RL 17 m6_type 1 := ⟨ok_6_type, tG_of (List.mem_of_getElem? (i := 832) (by decide +kernel)) (by decide +kernel), by decide +kernel, by decide⟩
theorem ok_5_clearText : MOK m5_clearText := ⟨by decide +kernel, tG_of (List.mem_of_getElem? (i := 363) (by decide +kernel)) (by decide +kernel), tG_of (List.mem_of_getElem? (i := 64) (by decide +kernel)) (by decide +kernel), by decide +kernel, by decide +kernel⟩
theorem v_5_clearText : Jvm.Cond.instanceMethod (mY m5_clearText) ∈ tG ∧ Jvm.Cond.selects (mY m5_clearText).cls (mY m5_clearText) (mY m5_clearText) ∈ tG := ⟨tG_of (List.mem_of_getElem? (i := 361) (by decide +kernel)) (by decide +kernel), tG_of (List.mem_of_getElem? (i := 362) (by decide +kernel)) (by decide +kernel)⟩
theorem lk_L_18 : Lk RL 18 m5_clearText 0 := ⟨ok_5_clearText, tG_of (List.mem_of_getElem? (i := 360) (by decide +kernel)) (by decide +kernel), by decide +kernel, by decide⟩
theorem ok_6_clearText : MOK m6_clearText := ⟨by decide +kernel, tG_of (List.mem_of_getElem? (i := 842) (by decide +kernel)) (by decide +kernel), tG_of (List.mem_of_getElem? (i := 71) (by decide +kernel)) (by decide +kernel), by decide +kernel, by decide +kernel⟩
theorem v_6_clearText : Jvm.Cond.instanceMethod (mY m6_clearText) ∈ tG ∧ Jvm.Cond.selects (mY m6_clearText).cls (mY m6_clearText) (mY m6_clearText) ∈ tG := ⟨tG_of (List.mem_of_getElem? (i := 840) (by decide +kernel)) (by decide +kernel), tG_of (List.mem_of_getElem? (i := 841) (by decide +kernel)) (by decide +kernel)⟩
theorem lk_L_22 : Lk RL 22 m6_clearText 0 := ⟨ok_6_clearText, tG_of (List.mem_of_getElem? (i := 839) (by decide +kernel)) (by decide +kernel), by decide +kernel, by decide⟩
theorem ok_5_fault : MOK m5_fault := ⟨by decide +kernel, tG_of (List.mem_of_getElem? (i := 367) (by decide +kernel)) (by decide +kernel), tG_of (List.mem_of_getElem? (i := 64) (by decide +kernel)) (by decide +kernel), by decide +kernel, by decide +kernel⟩
theorem v_5_fault : Jvm.Cond.instanceMethod (mY m5_fault) ∈ tG ∧ Jvm.Cond.selects (mY m5_fault).cls (mY m5_fault) (mY m5_fault) ∈ tG := ⟨tG_of (List.mem_of_getElem? (i := 365) (by decide +kernel)) (by decide +kernel), tG_of (List.mem_of_getElem? (i := 366) (by decide +kernel)) (by decide +kernel)⟩
theorem lk_L_23 : Lk RL 23 m5_fault 0 := ⟨ok_5_fault, tG_of (List.mem_of_getElem? (i := 364) (by decide +kernel)) (by decide +kernel), by decide +kernel, by decide⟩
theorem ok_6_fault : MOK m6_fault := ⟨by decide +kernel, tG_of (List.mem_of_getElem? (i := 846) (by decide +kernel)) (by decide +kernel), tG_of (List.mem_of_getElem? (i := 71) (by decide +kernel)) (by decide +kernel), by decide +kernel, by decide +kernel⟩
theorem v_6_fault : Jvm.Cond.instanceMethod (mY m6_fault) ∈ tG ∧ Jvm.Cond.selects (mY m6_fault).cls (mY m6_fault) (mY m6_fault) ∈ tG := ⟨tG_of (List.mem_of_getElem? (i := 844) (by decide +kernel)) (by decide +kernel), tG_of (List.mem_of_getElem? (i := 845) (by decide +kernel)) (by decide +kernel)⟩
theorem lk_L_26 : Lk RL 26 m6_fault 0 := ⟨ok_6_fault, tG_of (List.mem_of_getElem? (i := 843) (by decide +kernel)) (by decide +kernel), by decide +kernel, by decide⟩
theorem ok_5_read : MOK m5_read := ⟨by decide +kernel, tG_of (List.mem_of_getElem? (i := 534) (by decide +kernel)) (by decide +kernel), tG_of (List.mem_of_getElem? (i := 64) (by decide +kernel)) (by decide +kernel), by decide +kernel, by decide +kernel⟩
theorem v_5_read : Jvm.Cond.instanceMethod (mY m5_read) ∈ tG ∧ Jvm.Cond.selects (mY m5_read).cls (mY m5_read) (mY m5_read) ∈ tG := ⟨tG_of (List.mem_of_getElem? (i := 532) (by decide +kernel)) (by decide +kernel), tG_of (List.mem_of_getElem? (i := 533) (by decide +kernel)) (by decide +kernel)⟩
theorem lk_L_27 : Lk RL 27 m5_read 0 := ⟨ok_5_read, tG_of (List.mem_of_getElem? (i := 531) (by decide +kernel)) (by decide +kernel), by decide +kernel, by decide⟩
theorem ok_6_read : MOK m6_read := ⟨by decide +kernel, tG_of (List.mem_of_getElem? (i := 897) (by decide +kernel)) (by decide +kernel), tG_of (List.mem_of_getElem? (i := 71) (by decide +kernel)) (by decide +kernel), by decide +kernel, by decide +kernel⟩
theorem v_6_read : Jvm.Cond.instanceMethod (mY m6_read) ∈ tG ∧ Jvm.Cond.selects (mY m6_read).cls (mY m6_read) (mY m6_read) ∈ tG := ⟨tG_of (List.mem_of_getElem? (i := 895) (by decide +kernel)) (by decide +kernel), tG_of (List.mem_of_getElem? (i := 896) (by decide +kernel)) (by decide +kernel)⟩
theorem lk_L_30 : Lk RL 30 m6_read 0 := ⟨ok_6_read, tG_of (List.mem_of_getElem? (i := 894) (by decide +kernel)) (by decide +kernel), by decide +kernel, by decide⟩
theorem ok_5_begin : MOK m5_begin := ⟨by decide +kernel, tG_of (List.mem_of_getElem? (i := 538) (by decide +kernel)) (by decide +kernel), tG_of (List.mem_of_getElem? (i := 64) (by decide +kernel)) (by decide +kernel), by decide +kernel, by decide +kernel⟩
theorem v_5_begin : Jvm.Cond.instanceMethod (mY m5_begin) ∈ tG ∧ Jvm.Cond.selects (mY m5_begin).cls (mY m5_begin) (mY m5_begin) ∈ tG := ⟨tG_of (List.mem_of_getElem? (i := 536) (by decide +kernel)) (by decide +kernel), tG_of (List.mem_of_getElem? (i := 537) (by decide +kernel)) (by decide +kernel)⟩
theorem lk_L_31 : Lk RL 31 m5_begin 0 := ⟨ok_5_begin, tG_of (List.mem_of_getElem? (i := 535) (by decide +kernel)) (by decide +kernel), by decide +kernel, by decide⟩
theorem ok_6_begin : MOK m6_begin := ⟨by decide +kernel, tG_of (List.mem_of_getElem? (i := 901) (by decide +kernel)) (by decide +kernel), tG_of (List.mem_of_getElem? (i := 71) (by decide +kernel)) (by decide +kernel), by decide +kernel, by decide +kernel⟩
theorem v_6_begin : Jvm.Cond.instanceMethod (mY m6_begin) ∈ tG ∧ Jvm.Cond.selects (mY m6_begin).cls (mY m6_begin) (mY m6_begin) ∈ tG := ⟨tG_of (List.mem_of_getElem? (i := 899) (by decide +kernel)) (by decide +kernel), tG_of (List.mem_of_getElem? (i := 900) (by decide +kernel)) (by decide +kernel)⟩
theorem lk_L_34 : Lk RL 34 m6_begin 0 := ⟨ok_6_begin, tG_of (List.mem_of_getElem? (i := 898) (by decide +kernel)) (by decide +kernel), by decide +kernel, by decide⟩
theorem ok_5_go : MOK m5_go := ⟨by decide +kernel, tG_of (List.mem_of_getElem? (i := 544) (by decide +kernel)) (by decide +kernel), tG_of (List.mem_of_getElem? (i := 64) (by decide +kernel)) (by decide +kernel), by decide +kernel, by decide +kernel⟩
theorem v_5_go : Jvm.Cond.instanceMethod (mY m5_go) ∈ tG ∧ Jvm.Cond.selects (mY m5_go).cls (mY m5_go) (mY m5_go) ∈ tG := ⟨tG_of (List.mem_of_getElem? (i := 542) (by decide +kernel)) (by decide +kernel), tG_of (List.mem_of_getElem? (i := 543) (by decide +kernel)) (by decide +kernel)⟩
theorem lk_L_35 : Lk RL 35 m5_go 0 := ⟨ok_5_go, tG_of (List.mem_of_getElem? (i := 541) (by decide +kernel)) (by decide +kernel), by decide +kernel, by decide⟩
theorem ok_6_go : MOK m6_go := ⟨by decide +kernel, tG_of (List.mem_of_getElem? (i := 909) (by decide +kernel)) (by decide +kernel), tG_of (List.mem_of_getElem? (i := 71) (by decide +kernel)) (by decide +kernel), by decide +kernel, by decide +kernel⟩
theorem v_6_go : Jvm.Cond.instanceMethod (mY m6_go) ∈ tG ∧ Jvm.Cond.selects (mY m6_go).cls (mY m6_go) (mY m6_go) ∈ tG := ⟨tG_of (List.mem_of_getElem? (i := 907) (by decide +kernel)) (by decide +kernel), tG_of (List.mem_of_getElem? (i := 908) (by decide +kernel)) (by decide +kernel)⟩
theorem lk_L_38 : Lk RL 38 m6_go 0 := ⟨ok_6_go, tG_of (List.mem_of_getElem? (i := 906) (by decide +kernel)) (by decide +kernel), by decide +kernel, by decide⟩
theorem ok_5_choose : MOK m5_choose := ⟨by decide +kernel, tG_of (List.mem_of_getElem? (i := 572) (by decide +kernel)) (by decide +kernel), tG_of (List.mem_of_getElem? (i := 64) (by decide +kernel)) (by decide +kernel), by decide +kernel, by decide +kernel⟩
theorem v_5_choose : Jvm.Cond.instanceMethod (mY m5_choose) ∈ tG ∧ Jvm.Cond.selects (mY m5_choose).cls (mY m5_choose) (mY m5_choose) ∈ tG := ⟨tG_of (List.mem_of_getElem? (i := 570) (by decide +kernel)) (by decide +kernel), tG_of (List.mem_of_getElem? (i := 571) (by decide +kernel)) (by decide +kernel)⟩
theorem lk_L_39 : Lk RL 39 m5_choose 1 := ⟨ok_5_choose, tG_of (List.mem_of_getElem? (i := 569) (by decide +kernel)) (by decide +kernel), by decide +kernel, by decide⟩
theorem ok_6_choose : MOK m6_choose := ⟨by decide +kernel, tG_of (List.mem_of_getElem? (i := 921) (by decide +kernel)) (by decide +kernel), tG_of (List.mem_of_getElem? (i := 71) (by decide +kernel)) (by decide +kernel), by decide +kernel, by decide +kernel⟩
theorem v_6_choose : Jvm.Cond.instanceMethod (mY m6_choose) ∈ tG ∧ Jvm.Cond.selects (mY m6_choose).cls (mY m6_choose) (mY m6_choose) ∈ tG := ⟨tG_of (List.mem_of_getElem? (i := 919) (by decide +kernel)) (by decide +kernel), tG_of (List.mem_of_getElem? (i := 920) (by decide +kernel)) (by decide +kernel)⟩
theorem lk_L_42 : Lk RL 42 m6_choose 1 := ⟨ok_6_choose, tG_of (List.mem_of_getElem? (i := 918) (by decide +kernel)) (by decide +kernel), by decide +kernel, by decide⟩
theorem ok_5_skip : MOK m5_skip := ⟨by decide +kernel, tG_of (List.mem_of_getElem? (i := 578) (by decide +kernel)) (by decide +kernel), tG_of (List.mem_of_getElem? (i := 64) (by decide +kernel)) (by decide +kernel), by decide +kernel, by decide +kernel⟩
theorem v_5_skip : Jvm.Cond.instanceMethod (mY m5_skip) ∈ tG ∧ Jvm.Cond.selects (mY m5_skip).cls (mY m5_skip) (mY m5_skip) ∈ tG := ⟨tG_of (List.mem_of_getElem? (i := 576) (by decide +kernel)) (by decide +kernel), tG_of (List.mem_of_getElem? (i := 577) (by decide +kernel)) (by decide +kernel)⟩
theorem lk_L_43 : Lk RL 43 m5_skip 0 := ⟨ok_5_skip, tG_of (List.mem_of_getElem? (i := 575) (by decide +kernel)) (by decide +kernel), by decide +kernel, by decide⟩
theorem ok_6_skip : MOK m6_skip := ⟨by decide +kernel, tG_of (List.mem_of_getElem? (i := 929) (by decide +kernel)) (by decide +kernel), tG_of (List.mem_of_getElem? (i := 71) (by decide +kernel)) (by decide +kernel), by decide +kernel, by decide +kernel⟩
theorem v_6_skip : Jvm.Cond.instanceMethod (mY m6_skip) ∈ tG ∧ Jvm.Cond.selects (mY m6_skip).cls (mY m6_skip) (mY m6_skip) ∈ tG := ⟨tG_of (List.mem_of_getElem? (i := 927) (by decide +kernel)) (by decide +kernel), tG_of (List.mem_of_getElem? (i := 928) (by decide +kernel)) (by decide +kernel)⟩
theorem lk_L_46 : Lk RL 46 m6_skip 0 := ⟨ok_6_skip, tG_of (List.mem_of_getElem? (i := 926) (by decide +kernel)) (by decide +kernel), by decide +kernel, by decide⟩
theorem ok_5_back : MOK m5_back := ⟨by decide +kernel, tG_of (List.mem_of_getElem? (i := 582) (by decide +kernel)) (by decide +kernel), tG_of (List.mem_of_getElem? (i := 64) (by decide +kernel)) (by decide +kernel), by decide +kernel, by decide +kernel⟩
theorem v_5_back : Jvm.Cond.instanceMethod (mY m5_back) ∈ tG ∧ Jvm.Cond.selects (mY m5_back).cls (mY m5_back) (mY m5_back) ∈ tG := ⟨tG_of (List.mem_of_getElem? (i := 580) (by decide +kernel)) (by decide +kernel), tG_of (List.mem_of_getElem? (i := 581) (by decide +kernel)) (by decide +kernel)⟩
theorem lk_L_47 : Lk RL 47 m5_back 1 := ⟨ok_5_back, tG_of (List.mem_of_getElem? (i := 579) (by decide +kernel)) (by decide +kernel), by decide +kernel, by decide⟩
theorem ok_6_back : MOK m6_back := ⟨by decide +kernel, tG_of (List.mem_of_getElem? (i := 933) (by decide +kernel)) (by decide +kernel), tG_of (List.mem_of_getElem? (i := 71) (by decide +kernel)) (by decide +kernel), by decide +kernel, by decide +kernel⟩
theorem v_6_back : Jvm.Cond.instanceMethod (mY m6_back) ∈ tG ∧ Jvm.Cond.selects (mY m6_back).cls (mY m6_back) (mY m6_back) ∈ tG := ⟨tG_of (List.mem_of_getElem? (i := 931) (by decide +kernel)) (by decide +kernel), tG_of (List.mem_of_getElem? (i := 932) (by decide +kernel)) (by decide +kernel)⟩
theorem lk_L_50 : Lk RL 50 m6_back 1 := ⟨ok_6_back, tG_of (List.mem_of_getElem? (i := 930) (by decide +kernel)) (by decide +kernel), by decide +kernel, by decide⟩
theorem ok_5_again : MOK m5_again := ⟨by decide +kernel, tG_of (List.mem_of_getElem? (i := 590) (by decide +kernel)) (by decide +kernel), tG_of (List.mem_of_getElem? (i := 64) (by decide +kernel)) (by decide +kernel), by decide +kernel, by decide +kernel⟩
theorem v_5_again : Jvm.Cond.instanceMethod (mY m5_again) ∈ tG ∧ Jvm.Cond.selects (mY m5_again).cls (mY m5_again) (mY m5_again) ∈ tG := ⟨tG_of (List.mem_of_getElem? (i := 588) (by decide +kernel)) (by decide +kernel), tG_of (List.mem_of_getElem? (i := 589) (by decide +kernel)) (by decide +kernel)⟩
theorem lk_L_51 : Lk RL 51 m5_again 0 := ⟨ok_5_again, tG_of (List.mem_of_getElem? (i := 587) (by decide +kernel)) (by decide +kernel), by decide +kernel, by decide⟩
theorem ok_6_again : MOK m6_again := ⟨by decide +kernel, tG_of (List.mem_of_getElem? (i := 937) (by decide +kernel)) (by decide +kernel), tG_of (List.mem_of_getElem? (i := 71) (by decide +kernel)) (by decide +kernel), by decide +kernel, by decide +kernel⟩
theorem v_6_again : Jvm.Cond.instanceMethod (mY m6_again) ∈ tG ∧ Jvm.Cond.selects (mY m6_again).cls (mY m6_again) (mY m6_again) ∈ tG := ⟨tG_of (List.mem_of_getElem? (i := 935) (by decide +kernel)) (by decide +kernel), tG_of (List.mem_of_getElem? (i := 936) (by decide +kernel)) (by decide +kernel)⟩
theorem lk_L_54 : Lk RL 54 m6_again 0 := ⟨ok_6_again, tG_of (List.mem_of_getElem? (i := 934) (by decide +kernel)) (by decide +kernel), by decide +kernel, by decide⟩
theorem ok_5_save : MOK m5_save := ⟨by decide +kernel, tG_of (List.mem_of_getElem? (i := 598) (by decide +kernel)) (by decide +kernel), tG_of (List.mem_of_getElem? (i := 64) (by decide +kernel)) (by decide +kernel), by decide +kernel, by decide +kernel⟩
theorem v_5_save : Jvm.Cond.instanceMethod (mY m5_save) ∈ tG ∧ Jvm.Cond.selects (mY m5_save).cls (mY m5_save) (mY m5_save) ∈ tG := ⟨tG_of (List.mem_of_getElem? (i := 596) (by decide +kernel)) (by decide +kernel), tG_of (List.mem_of_getElem? (i := 597) (by decide +kernel)) (by decide +kernel)⟩
theorem lk_L_55 : Lk RL 55 m5_save 1 := ⟨ok_5_save, tG_of (List.mem_of_getElem? (i := 595) (by decide +kernel)) (by decide +kernel), by decide +kernel, by decide⟩
theorem ok_6_save : MOK m6_save := ⟨by decide +kernel, tG_of (List.mem_of_getElem? (i := 941) (by decide +kernel)) (by decide +kernel), tG_of (List.mem_of_getElem? (i := 71) (by decide +kernel)) (by decide +kernel), by decide +kernel, by decide +kernel⟩
theorem v_6_save : Jvm.Cond.instanceMethod (mY m6_save) ∈ tG ∧ Jvm.Cond.selects (mY m6_save).cls (mY m6_save) (mY m6_save) ∈ tG := ⟨tG_of (List.mem_of_getElem? (i := 939) (by decide +kernel)) (by decide +kernel), tG_of (List.mem_of_getElem? (i := 940) (by decide +kernel)) (by decide +kernel)⟩
theorem lk_L_58 : Lk RL 58 m6_save 1 := ⟨ok_6_save, tG_of (List.mem_of_getElem? (i := 938) (by decide +kernel)) (by decide +kernel), by decide +kernel, by decide⟩
theorem ok_5_restore : MOK m5_restore := ⟨by decide +kernel, tG_of (List.mem_of_getElem? (i := 606) (by decide +kernel)) (by decide +kernel), tG_of (List.mem_of_getElem? (i := 64) (by decide +kernel)) (by decide +kernel), by decide +kernel, by decide +kernel⟩
theorem v_5_restore : Jvm.Cond.instanceMethod (mY m5_restore) ∈ tG ∧ Jvm.Cond.selects (mY m5_restore).cls (mY m5_restore) (mY m5_restore) ∈ tG := ⟨tG_of (List.mem_of_getElem? (i := 604) (by decide +kernel)) (by decide +kernel), tG_of (List.mem_of_getElem? (i := 605) (by decide +kernel)) (by decide +kernel)⟩
theorem lk_L_59 : Lk RL 59 m5_restore 1 := ⟨ok_5_restore, tG_of (List.mem_of_getElem? (i := 603) (by decide +kernel)) (by decide +kernel), by decide +kernel, by decide⟩
theorem ok_6_restore : MOK m6_restore := ⟨by decide +kernel, tG_of (List.mem_of_getElem? (i := 945) (by decide +kernel)) (by decide +kernel), tG_of (List.mem_of_getElem? (i := 71) (by decide +kernel)) (by decide +kernel), by decide +kernel, by decide +kernel⟩
theorem v_6_restore : Jvm.Cond.instanceMethod (mY m6_restore) ∈ tG ∧ Jvm.Cond.selects (mY m6_restore).cls (mY m6_restore) (mY m6_restore) ∈ tG := ⟨tG_of (List.mem_of_getElem? (i := 943) (by decide +kernel)) (by decide +kernel), tG_of (List.mem_of_getElem? (i := 944) (by decide +kernel)) (by decide +kernel)⟩
theorem lk_L_62 : Lk RL 62 m6_restore 1 := ⟨ok_6_restore, tG_of (List.mem_of_getElem? (i := 942) (by decide +kernel)) (by decide +kernel), by decide +kernel, by decide⟩
theorem lk_L_63 : Lk RL 63 m5_shown 1 := ⟨ok_5_shown, tG_of (List.mem_of_getElem? (i := 611) (by decide +kernel)) (by decide +kernel), by decide +kernel, by decide⟩
theorem lk_L_66 : Lk RL 66 m6_shown 1 := ⟨ok_6_shown, tG_of (List.mem_of_getElem? (i := 946) (by decide +kernel)) (by decide +kernel), by decide +kernel, by decide⟩
theorem lk_L_67 : Lk RL 67 m5_portrait 2 := ⟨ok_5_portrait, tG_of (List.mem_of_getElem? (i := 622) (by decide +kernel)) (by decide +kernel), by decide +kernel, by decide⟩
theorem lk_L_71 : Lk RL 71 m6_portrait 2 := ⟨ok_6_portrait, tG_of (List.mem_of_getElem? (i := 958) (by decide +kernel)) (by decide +kernel), by decide +kernel, by decide⟩
theorem lk_L_72 : Lk RL 72 m5_node 2 := ⟨ok_5_node, tG_of (List.mem_of_getElem? (i := 626) (by decide +kernel)) (by decide +kernel), by decide +kernel, by decide⟩
theorem ok_6_node : MOK m6_node := ⟨by decide +kernel, tG_of (List.mem_of_getElem? (i := 965) (by decide +kernel)) (by decide +kernel), tG_of (List.mem_of_getElem? (i := 71) (by decide +kernel)) (by decide +kernel), by decide +kernel, by decide +kernel⟩
theorem v_6_node : Jvm.Cond.instanceMethod (mY m6_node) ∈ tG ∧ Jvm.Cond.selects (mY m6_node).cls (mY m6_node) (mY m6_node) ∈ tG := ⟨tG_of (List.mem_of_getElem? (i := 963) (by decide +kernel)) (by decide +kernel), tG_of (List.mem_of_getElem? (i := 964) (by decide +kernel)) (by decide +kernel)⟩
theorem lk_L_76 : Lk RL 76 m6_node 2 := ⟨ok_6_node, tG_of (List.mem_of_getElem? (i := 962) (by decide +kernel)) (by decide +kernel), by decide +kernel, by decide⟩
theorem lk_L_77 : Lk RL 77 m5_option 3 := ⟨ok_5_option, tG_of (List.mem_of_getElem? (i := 632) (by decide +kernel)) (by decide +kernel), by decide +kernel, by decide⟩
theorem lk_L_81 : Lk RL 81 m6_option 3 := ⟨ok_6_option, tG_of (List.mem_of_getElem? (i := 970) (by decide +kernel)) (by decide +kernel), by decide +kernel, by decide⟩
theorem lk_L_82 : Lk RL 82 m5_situations 1 := ⟨ok_5_situations, tG_of (List.mem_of_getElem? (i := 636) (by decide +kernel)) (by decide +kernel), by decide +kernel, by decide⟩
theorem ok_6_situations : MOK m6_situations := ⟨by decide +kernel, tG_of (List.mem_of_getElem? (i := 981) (by decide +kernel)) (by decide +kernel), tG_of (List.mem_of_getElem? (i := 71) (by decide +kernel)) (by decide +kernel), by decide +kernel, by decide +kernel⟩
theorem v_6_situations : Jvm.Cond.instanceMethod (mY m6_situations) ∈ tG ∧ Jvm.Cond.selects (mY m6_situations).cls (mY m6_situations) (mY m6_situations) ∈ tG := ⟨tG_of (List.mem_of_getElem? (i := 979) (by decide +kernel)) (by decide +kernel), tG_of (List.mem_of_getElem? (i := 980) (by decide +kernel)) (by decide +kernel)⟩
theorem lk_L_85 : Lk RL 85 m6_situations 1 := ⟨ok_6_situations, tG_of (List.mem_of_getElem? (i := 978) (by decide +kernel)) (by decide +kernel), by decide +kernel, by decide⟩
theorem ok_5_choicesTo : MOK m5_choicesTo := ⟨by decide +kernel, tG_of (List.mem_of_getElem? (i := 651) (by decide +kernel)) (by decide +kernel), tG_of (List.mem_of_getElem? (i := 64) (by decide +kernel)) (by decide +kernel), by decide +kernel, by decide +kernel⟩
theorem v_5_choicesTo : Jvm.Cond.instanceMethod (mY m5_choicesTo) ∈ tG ∧ Jvm.Cond.selects (mY m5_choicesTo).cls (mY m5_choicesTo) (mY m5_choicesTo) ∈ tG := ⟨tG_of (List.mem_of_getElem? (i := 649) (by decide +kernel)) (by decide +kernel), tG_of (List.mem_of_getElem? (i := 650) (by decide +kernel)) (by decide +kernel)⟩
theorem lk_L_86 : Lk RL 86 m5_choicesTo 1 := ⟨ok_5_choicesTo, tG_of (List.mem_of_getElem? (i := 648) (by decide +kernel)) (by decide +kernel), by decide +kernel, by decide⟩
theorem ok_6_choicesTo : MOK m6_choicesTo := ⟨by decide +kernel, tG_of (List.mem_of_getElem? (i := 997) (by decide +kernel)) (by decide +kernel), tG_of (List.mem_of_getElem? (i := 71) (by decide +kernel)) (by decide +kernel), by decide +kernel, by decide +kernel⟩
theorem v_6_choicesTo : Jvm.Cond.instanceMethod (mY m6_choicesTo) ∈ tG ∧ Jvm.Cond.selects (mY m6_choicesTo).cls (mY m6_choicesTo) (mY m6_choicesTo) ∈ tG := ⟨tG_of (List.mem_of_getElem? (i := 995) (by decide +kernel)) (by decide +kernel), tG_of (List.mem_of_getElem? (i := 996) (by decide +kernel)) (by decide +kernel)⟩
theorem lk_L_89 : Lk RL 89 m6_choicesTo 1 := ⟨ok_6_choicesTo, tG_of (List.mem_of_getElem? (i := 994) (by decide +kernel)) (by decide +kernel), by decide +kernel, by decide⟩
theorem ok_5_wayTo : MOK m5_wayTo := ⟨by decide +kernel, tG_of (List.mem_of_getElem? (i := 660) (by decide +kernel)) (by decide +kernel), tG_of (List.mem_of_getElem? (i := 64) (by decide +kernel)) (by decide +kernel), by decide +kernel, by decide +kernel⟩
theorem v_5_wayTo : Jvm.Cond.instanceMethod (mY m5_wayTo) ∈ tG ∧ Jvm.Cond.selects (mY m5_wayTo).cls (mY m5_wayTo) (mY m5_wayTo) ∈ tG := ⟨tG_of (List.mem_of_getElem? (i := 658) (by decide +kernel)) (by decide +kernel), tG_of (List.mem_of_getElem? (i := 659) (by decide +kernel)) (by decide +kernel)⟩
theorem lk_L_90 : Lk RL 90 m5_wayTo 2 := ⟨ok_5_wayTo, tG_of (List.mem_of_getElem? (i := 657) (by decide +kernel)) (by decide +kernel), by decide +kernel, by decide⟩
theorem ok_6_wayTo : MOK m6_wayTo := ⟨by decide +kernel, tG_of (List.mem_of_getElem? (i := 1008) (by decide +kernel)) (by decide +kernel), tG_of (List.mem_of_getElem? (i := 71) (by decide +kernel)) (by decide +kernel), by decide +kernel, by decide +kernel⟩
theorem v_6_wayTo : Jvm.Cond.instanceMethod (mY m6_wayTo) ∈ tG ∧ Jvm.Cond.selects (mY m6_wayTo).cls (mY m6_wayTo) (mY m6_wayTo) ∈ tG := ⟨tG_of (List.mem_of_getElem? (i := 1006) (by decide +kernel)) (by decide +kernel), tG_of (List.mem_of_getElem? (i := 1007) (by decide +kernel)) (by decide +kernel)⟩
theorem lk_L_93 : Lk RL 93 m6_wayTo 2 := ⟨ok_6_wayTo, tG_of (List.mem_of_getElem? (i := 1005) (by decide +kernel)) (by decide +kernel), by decide +kernel, by decide⟩
theorem lk_L_94 : Lk RL 94 m5_usable 2 := ⟨ok_5_usable, tG_of (List.mem_of_getElem? (i := 666) (by decide +kernel)) (by decide +kernel), by decide +kernel, by decide⟩
theorem ok_6_usable : MOK m6_usable := ⟨by decide +kernel, tG_of (List.mem_of_getElem? (i := 1012) (by decide +kernel)) (by decide +kernel), tG_of (List.mem_of_getElem? (i := 71) (by decide +kernel)) (by decide +kernel), by decide +kernel, by decide +kernel⟩
theorem v_6_usable : Jvm.Cond.instanceMethod (mY m6_usable) ∈ tG ∧ Jvm.Cond.selects (mY m6_usable).cls (mY m6_usable) (mY m6_usable) ∈ tG := ⟨tG_of (List.mem_of_getElem? (i := 1010) (by decide +kernel)) (by decide +kernel), tG_of (List.mem_of_getElem? (i := 1011) (by decide +kernel)) (by decide +kernel)⟩
theorem lk_L_97 : Lk RL 97 m6_usable 2 := ⟨ok_6_usable, tG_of (List.mem_of_getElem? (i := 1009) (by decide +kernel)) (by decide +kernel), by decide +kernel, by decide⟩
theorem lk_L_98 : Lk RL 98 m5_count 1 := ⟨ok_5_count, tG_of (List.mem_of_getElem? (i := 675) (by decide +kernel)) (by decide +kernel), by decide +kernel, by decide⟩
theorem lk_L_101 : Lk RL 101 m6_count 1 := ⟨ok_6_count, tG_of (List.mem_of_getElem? (i := 1017) (by decide +kernel)) (by decide +kernel), by decide +kernel, by decide⟩
theorem ok_5_digest : MOK m5_digest := ⟨by decide +kernel, tG_of (List.mem_of_getElem? (i := 694) (by decide +kernel)) (by decide +kernel), tG_of (List.mem_of_getElem? (i := 64) (by decide +kernel)) (by decide +kernel), by decide +kernel, by decide +kernel⟩
theorem v_5_digest : Jvm.Cond.instanceMethod (mY m5_digest) ∈ tG ∧ Jvm.Cond.selects (mY m5_digest).cls (mY m5_digest) (mY m5_digest) ∈ tG := ⟨tG_of (List.mem_of_getElem? (i := 692) (by decide +kernel)) (by decide +kernel), tG_of (List.mem_of_getElem? (i := 693) (by decide +kernel)) (by decide +kernel)⟩
theorem lk_L_102 : Lk RL 102 m5_digest 0 := ⟨ok_5_digest, tG_of (List.mem_of_getElem? (i := 691) (by decide +kernel)) (by decide +kernel), by decide +kernel, by decide⟩
theorem ok_6_digest : MOK m6_digest := ⟨by decide +kernel, tG_of (List.mem_of_getElem? (i := 1036) (by decide +kernel)) (by decide +kernel), tG_of (List.mem_of_getElem? (i := 71) (by decide +kernel)) (by decide +kernel), by decide +kernel, by decide +kernel⟩
theorem v_6_digest : Jvm.Cond.instanceMethod (mY m6_digest) ∈ tG ∧ Jvm.Cond.selects (mY m6_digest).cls (mY m6_digest) (mY m6_digest) ∈ tG := ⟨tG_of (List.mem_of_getElem? (i := 1034) (by decide +kernel)) (by decide +kernel), tG_of (List.mem_of_getElem? (i := 1035) (by decide +kernel)) (by decide +kernel)⟩
theorem lk_L_106 : Lk RL 106 m6_digest 0 := ⟨ok_6_digest, tG_of (List.mem_of_getElem? (i := 1033) (by decide +kernel)) (by decide +kernel), by decide +kernel, by decide⟩
