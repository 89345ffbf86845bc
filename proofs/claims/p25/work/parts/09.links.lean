/-! ===== methods, and what their calls and fields need of the tables ===== -/
theorem inGX0 : ∀ w ∈ u_ws RX0 TX0 8, w ∈ tG := fun w h => tG_of (inX0 w h) (List.all_eq_true.mp (by decide +kernel : (u_ws RX0 TX0 8).all goodWord = true) w h)
theorem inGX1 : ∀ w ∈ u_ws RX1 TX1 4, w ∈ tG := fun w h => tG_of (inX1 w h) (List.all_eq_true.mp (by decide +kernel : (u_ws RX1 TX1 4).all goodWord = true) w h)
theorem inGX2 : ∀ w ∈ u_ws RX2 TX2 6, w ∈ tG := fun w h => tG_of (inX2 w h) (List.all_eq_true.mp (by decide +kernel : (u_ws RX2 TX2 6).all goodWord = true) w h)
theorem inGX3 : ∀ w ∈ u_ws RX3 TX3 6, w ∈ tG := fun w h => tG_of (inX3 w h) (List.all_eq_true.mp (by decide +kernel : (u_ws RX3 TX3 6).all goodWord = true) w h)
theorem inGX4 : ∀ w ∈ u_ws RX4 TX4 5, w ∈ tG := fun w h => tG_of (inX4 w h) (List.all_eq_true.mp (by decide +kernel : (u_ws RX4 TX4 5).all goodWord = true) w h)
theorem inGX5 : ∀ w ∈ u_ws RX5 TX5 4, w ∈ tG := fun w h => tG_of (inX5 w h) (List.all_eq_true.mp (by decide +kernel : (u_ws RX5 TX5 4).all goodWord = true) w h)
def m0_init : MT := (yX0_init, cX0_init, 1, none, true, 8, 7958)
def m0_draw : MT := (yX0_draw, cX0_draw, 6, none, false, 0, 0)
def m0_reachedEnds : MT := (yX0_reachedEnds, cX0_reachedEnds, 3, (some .int), false, 0, 0)
def m0_follow : MT := (yX0_follow, cX0_follow, 9, none, false, 0, 0)
def m0_arrive : MT := (yX0_arrive, cX0_arrive, 5, none, false, 0, 0)
def m0_isSituation : MT := (yX0_isSituation, cX0_isSituation, 1, (some .boolean), false, 0, 0)
def m0_nodeOf : MT := (yX0_nodeOf, cX0_nodeOf, 1, (some .int), false, 0, 0)
def m0_flagsOf : MT := (yX0_flagsOf, cX0_flagsOf, 1, (some .int), false, 0, 0)
def m1_init : MT := (yX1_init, cX1_init, 1, none, true, 2, 6)
def m1_makeEmpty : MT := (yX1_makeEmpty, cX1_makeEmpty, 1, none, false, 0, 0)
def m1_makeLike : MT := (yX1_makeLike, cX1_makeLike, 2, none, false, 0, 0)
def m1_comeFrom : MT := (yX1_comeFrom, cX1_comeFrom, 5, none, false, 0, 0)
def m1_carryOut : MT := (yX1_carryOut, cX1_carryOut, 5, (some .int), false, 0, 0)
def m1_putAt : MT := (yX1_putAt, cX1_putAt, 4, none, false, 0, 0)
def m1_hide : MT := (yX1_hide, cX1_hide, 3, none, false, 0, 0)
def m2_init : MT := (yX2_init, cX2_init, 2, none, true, 73, 287)
def m2_now : MT := (yX2_now, cX2_now, 1, (some (.object "PictureScript$Moment")), false, 0, 0)
def m2_startScript : MT := (yX2_startScript, cX2_startScript, 3, none, false, 0, 0)
def m2_startAnew : MT := (yX2_startAnew, cX2_startAnew, 2, none, false, 0, 0)
def m2_goOn : MT := (yX2_goOn, cX2_goOn, 4, (some .boolean), false, 0, 0)
def m2_turnBack : MT := (yX2_turnBack, cX2_turnBack, 2, (some .boolean), false, 0, 0)
def m2_turnForth : MT := (yX2_turnForth, cX2_turnForth, 1, (some .boolean), false, 0, 0)
def m2_keepIn : MT := (yX2_keepIn, cX2_keepIn, 2, none, false, 0, 0)
def m2_takeFrom : MT := (yX2_takeFrom, cX2_takeFrom, 2, (some .boolean), false, 0, 0)
def m2_seenNodes : MT := (yX2_seenNodes, cX2_seenNodes, 3, (some .int), false, 0, 0)
def m2_usedSlots : MT := (yX2_usedSlots, cX2_usedSlots, 3, (some .int), false, 0, 0)
def m2_keepOneMoment : MT := (yX2_keepOneMoment, cX2_keepOneMoment, 1, none, false, 0, 0)
def m2_forgetEarliest : MT := (yX2_forgetEarliest, cX2_forgetEarliest, 3, none, false, 0, 0)
def m2_see : MT := (yX2_see, cX2_see, 3, (some .boolean), false, 0, 0)
def m3_init : MT := (yX3_init, cX3_init, 1, none, true, 5, 522)
def m3_clear : MT := (yX3_clear, cX3_clear, 1, none, false, 0, 0)
def m3_addNode : MT := (yX3_addNode, cX3_addNode, 2, none, false, 0, 0)
def m3_addNumber : MT := (yX3_addNumber, cX3_addNumber, 4, none, false, 0, 0)
def m3_addOption : MT := (yX3_addOption, cX3_addOption, 7, none, false, 0, 0)
def m3_has : MT := (yX3_has, cX3_has, 2, (some .boolean), false, 0, 0)
def m3_kindOf : MT := (yX3_kindOf, cX3_kindOf, 2, (some .int), false, 0, 0)
def m3_optionsOf : MT := (yX3_optionsOf, cX3_optionsOf, 2, (some .int), false, 0, 0)
def m3_numberOf : MT := (yX3_numberOf, cX3_numberOf, 3, (some .int), false, 0, 0)
def m3_optionPart : MT := (yX3_optionPart, cX3_optionPart, 4, (some .int), false, 0, 0)
def m3_isOpen : MT := (yX3_isOpen, cX3_isOpen, 6, (some .boolean), false, 0, 0)
def m3_openOptions : MT := (yX3_openOptions, cX3_openOptions, 5, (some .int), false, 0, 0)
def m3_isShown : MT := (yX3_isShown, cX3_isShown, 3, (some .boolean), false, 0, 0)
def m3_shownKind : MT := (yX3_shownKind, cX3_shownKind, 3, (some .int), false, 0, 0)
def m3_shownNumber : MT := (yX3_shownNumber, cX3_shownNumber, 2, (some .int), false, 0, 0)
def m4_init : MT := (yX4_init, cX4_init, 1, none, true, 7, 628)
def m4_append : MT := (yX4_append, cX4_append, 2, (some .boolean), false, 0, 0)
def m4_findFault : MT := (yX4_findFault, cX4_findFault, 2, (some .int), false, 0, 0)
def m4_takeNode : MT := (yX4_takeNode, cX4_takeNode, 2, (some .boolean), false, 0, 0)
def m4_takeOptions : MT := (yX4_takeOptions, cX4_takeOptions, 2, (some .boolean), false, 0, 0)
def m4_takeOption : MT := (yX4_takeOption, cX4_takeOption, 3, (some .boolean), false, 0, 0)
def m4_addVoice : MT := (yX4_addVoice, cX4_addVoice, 2, (some .boolean), false, 0, 0)
def m4_addPlusOrMinus : MT := (yX4_addPlusOrMinus, cX4_addPlusOrMinus, 2, (some .boolean), false, 0, 0)
def m4_addDigit : MT := (yX4_addDigit, cX4_addDigit, 2, (some .boolean), false, 0, 0)
def m4_addNumber : MT := (yX4_addNumber, cX4_addNumber, 2, (some .boolean), false, 0, 0)
def m4_takeDigit : MT := (yX4_takeDigit, cX4_takeDigit, 2, (some .boolean), false, 0, 0)
def m4_takeNumber : MT := (yX4_takeNumber, cX4_takeNumber, 3, (some .boolean), false, 0, 0)
def m4_takeSign : MT := (yX4_takeSign, cX4_takeSign, 2, (some .boolean), false, 0, 0)
def m4_skipBlanks : MT := (yX4_skipBlanks, cX4_skipBlanks, 1, none, false, 0, 0)
def m4_isAtDigit : MT := (yX4_isAtDigit, cX4_isAtDigit, 1, (some .boolean), false, 0, 0)
def m4_isAtEnd : MT := (yX4_isAtEnd, cX4_isAtEnd, 1, (some .boolean), false, 0, 0)
def m4_here : MT := (yX4_here, cX4_here, 1, (some .int), false, 0, 0)
def m5_init : MT := (yX5_init, cX5_init, 1, none, true, 97, 9420)
def m5_type : MT := (yX5_type, cX5_type, 2, (some .int), false, 0, 0)
def m5_clearText : MT := (yX5_clearText, cX5_clearText, 2, (some .int), false, 0, 0)
def m5_fault : MT := (yX5_fault, cX5_fault, 1, (some .int), false, 0, 0)
def m5_read : MT := (yX5_read, cX5_read, 2, (some .int), false, 0, 0)
def m5_begin : MT := (yX5_begin, cX5_begin, 1, (some .int), false, 0, 0)
def m5_go : MT := (yX5_go, cX5_go, 1, (some .int), false, 0, 0)
def m5_choose : MT := (yX5_choose, cX5_choose, 3, (some .int), false, 0, 0)
def m5_skip : MT := (yX5_skip, cX5_skip, 3, (some .int), false, 0, 0)
def m5_back : MT := (yX5_back, cX5_back, 2, (some .int), false, 0, 0)
def m5_again : MT := (yX5_again, cX5_again, 1, (some .int), false, 0, 0)
def m5_save : MT := (yX5_save, cX5_save, 2, (some .int), false, 0, 0)
def m5_restore : MT := (yX5_restore, cX5_restore, 2, (some .int), false, 0, 0)
def m5_shown : MT := (yX5_shown, cX5_shown, 3, (some .int), false, 0, 0)
def m5_portrait : MT := (yX5_portrait, cX5_portrait, 4, (some .int), false, 0, 0)
def m5_count : MT := (yX5_count, cX5_count, 2, (some .int), false, 0, 0)
def m5_isLineShown : MT := (yX5_isLineShown, cX5_isLineShown, 1, (some .boolean), false, 0, 0)
def m5_goOnFromLine : MT := (yX5_goOnFromLine, cX5_goOnFromLine, 1, (some .boolean), false, 0, 0)
def m5_endIndex : MT := (yX5_endIndex, cX5_endIndex, 1, (some .int), false, 0, 0)
def mJ7_fill : MT := (yJ7_fill_53178, cJ7_fill_53178, 4, none, false, 0, 0)
def mL_cell : MT := (yL_cell, cL_cell, 2, (some .int), false, 0, 0)
def mL_low : MT := (yL_low, cL_low, 2, (some .int), false, 0, 0)
def mL_low5 : MT := (yL_low5, cL_low5, 2, (some .int), false, 0, 0)
def mL_shownKind : MT := (yL_shownKind, cL_shownKind, 3, (some .int), false, 0, 0)
def mL_without : MT := (yL_without, cL_without, 4, (some .int), false, 0, 0)
def mL_carries : MT := (yL_carries, cL_carries, 8, none, false, 0, 0)
def mL_isOpen : MT := (yL_isOpen, cL_isOpen, 6, (some .boolean), false, 0, 0)
def mL_openOnes : MT := (yL_openOnes, cL_openOnes, 5, (some .int), false, 0, 0)
def mL_endOf : MT := (yL_endOf, cL_endOf, 2, (some .int), false, 0, 0)
def mL_typesNumber : MT := (yL_typesNumber, cL_typesNumber, 2, (some .boolean), false, 0, 0)
def mL_typesNode : MT := (yL_typesNode, cL_typesNode, 15, (some .boolean), false, 0, 0)
def mL_reads : MT := (yL_reads, cL_reads, 7, (some .boolean), false, 0, 0)
def mL_isShown : MT := (yL_isShown, cL_isShown, 8, (some .boolean), false, 0, 0)
def mL_begins : MT := (yL_begins, cL_begins, 2, none, false, 0, 0)
def mL_takes : MT := (yL_takes, cL_takes, 3, none, false, 0, 0)
def mL_puts : MT := (yL_puts, cL_puts, 3, none, false, 0, 0)
def mL_starts : MT := (yL_starts, cL_starts, 3, none, false, 0, 0)
def mL_goes : MT := (yL_goes, cL_goes, 4, (some .boolean), false, 0, 0)
def mL_skips : MT := (yL_skips, cL_skips, 7, (some .boolean), false, 0, 0)
def mL_chooses : MT := (yL_chooses, cL_chooses, 5, (some .boolean), false, 0, 0)
def mL_turns : MT := (yL_turns, cL_turns, 4, (some .boolean), false, 0, 0)
def mL_again : MT := (yL_again, cL_again, 3, (some .boolean), false, 0, 0)
def mL_seen : MT := (yL_seen, cL_seen, 3, (some .int), false, 0, 0)
def mL_law : MT := (yL_law, cL_law, 12, (some .boolean), false, 0, 0)
theorem oi_i : Jvm.Cond.instanceMethod objectInit ∈ tG := tG_of (List.mem_of_getElem? (i := 45) (by decide +kernel)) (by decide +kernel)
theorem oi_c : Jvm.Cond.code objectInit ⟨#[0xb1]⟩ 1 none ∈ tG := tG_of (List.mem_of_getElem? (i := 46) (by decide +kernel)) (by decide +kernel)
theorem ac_n : Jvm.Cond.native arraycopyName ∈ tG := tG_of (List.mem_of_getElem? (i := 344) (by decide +kernel)) (by decide +kernel)
theorem ac_s : Jvm.Cond.static arraycopyName ∈ tG := tG_of (List.mem_of_getElem? (i := 343) (by decide +kernel)) (by decide +kernel)
theorem ac_i : Jvm.Cond.initialized "java/lang/System" ∈ tG := tG_of (List.mem_of_getElem? (i := 32) (by decide +kernel)) (by decide +kernel)
theorem oi_X0_3 : Jvm.Cond.methodLink RX0 3 objectInit ∈ tG := tG_of (List.mem_of_getElem? (i := 161) (by decide +kernel)) (by decide +kernel)
theorem na_int : Jvm.Cond.arrayClass (tyF 0) ∈ tG := tG_of (List.mem_of_getElem? (i := 80) (by decide +kernel)) (by decide +kernel)
theorem f_X0_9 : FL RX0 9 0 1 := ⟨RX0, TX0, 8, rfl, by decide, inGX0, tG_of (List.mem_of_getElem? (i := 165) (by decide +kernel)) (by decide +kernel)⟩
theorem p_X0_X0_1 : FP RX0 0 1 (.array .int) true := ⟨RX0, TX0, 8, tyX0, rfl, tyX0_ok, nmX0, by decide +kernel, rfl, fun _ => rfl⟩
theorem f_X0_15 : FL RX0 15 0 2 := ⟨RX0, TX0, 8, rfl, by decide, inGX0, tG_of (List.mem_of_getElem? (i := 166) (by decide +kernel)) (by decide +kernel)⟩
theorem p_X0_X0_2 : FP RX0 0 2 (.array .int) true := ⟨RX0, TX0, 8, tyX0, rfl, tyX0_ok, nmX0, by decide +kernel, rfl, fun _ => rfl⟩
theorem f_X0_18 : FL RX0 18 0 3 := ⟨RX0, TX0, 8, rfl, by decide, inGX0, tG_of (List.mem_of_getElem? (i := 167) (by decide +kernel)) (by decide +kernel)⟩
theorem p_X0_X0_3 : FP RX0 0 3 (.array .int) true := ⟨RX0, TX0, 8, tyX0, rfl, tyX0_ok, nmX0, by decide +kernel, rfl, fun _ => rfl⟩
theorem f_X0_21 : FL RX0 21 0 4 := ⟨RX0, TX0, 8, rfl, by decide, inGX0, tG_of (List.mem_of_getElem? (i := 168) (by decide +kernel)) (by decide +kernel)⟩
theorem p_X0_X0_4 : FP RX0 0 4 (.array .int) true := ⟨RX0, TX0, 8, tyX0, rfl, tyX0_ok, nmX0, by decide +kernel, rfl, fun _ => rfl⟩
theorem f_X0_24 : FL RX0 24 0 6 := ⟨RX0, TX0, 8, rfl, by decide, inGX0, tG_of (List.mem_of_getElem? (i := 170) (by decide +kernel)) (by decide +kernel)⟩
theorem p_X0_X0_6 : FP RX0 0 6 (.array .int) true := ⟨RX0, TX0, 8, tyX0, rfl, tyX0_ok, nmX0, by decide +kernel, rfl, fun _ => rfl⟩
theorem nw_X1 : (∀ j, j < 4 → ([vI 0, vI 0, vN, vN] : List AV)[j]? = some (dfv (tyX1 j)) ∧ ∀ G : GD, cv G (dfv (tyX1 j)) = defaultValue (tyX1 j)) ∧ (∀ v ∈ ([vI 0, vI 0, vN, vN] : List AV), vok v) := by
  refine ⟨fun j hj => ?_, fun v hv => ?_⟩
  · rcases (by omega : j = 0 ∨ j = 1 ∨ j = 2 ∨ j = 3) with rfl | rfl | rfl | rfl <;> exact ⟨rfl, fun G => rfl⟩
  · simp only [List.mem_cons, List.not_mem_nil, or_false] at hv
    rcases hv with rfl | rfl | rfl | rfl <;> first | trivial | (exact ⟨by decide, by decide⟩)
theorem ok_1_init : MOK m1_init := ⟨by decide +kernel, tG_of (List.mem_of_getElem? (i := 112) (by decide +kernel)) (by decide +kernel), tG_of (List.mem_of_getElem? (i := 29) (by decide +kernel)) (by decide +kernel), by decide +kernel, by decide +kernel⟩
theorem i_1_init : Jvm.Cond.instanceMethod (mY m1_init) ∈ tG := tG_of (List.mem_of_getElem? (i := 111) (by decide +kernel)) (by decide +kernel)
theorem f_X0_30 : FL RX0 30 0 7 := ⟨RX0, TX0, 8, rfl, by decide, inGX0, tG_of (List.mem_of_getElem? (i := 171) (by decide +kernel)) (by decide +kernel)⟩
theorem p_X0_X0_7 : FP RX0 0 7 (.object "PictureScript$Moment") true := ⟨RX0, TX0, 8, tyX0, rfl, tyX0_ok, nmX0, by decide +kernel, rfl, fun _ => rfl⟩
theorem f_X0_34 : FL RX0 34 0 0 := ⟨RX0, TX0, 8, rfl, by decide, inGX0, tG_of (List.mem_of_getElem? (i := 164) (by decide +kernel)) (by decide +kernel)⟩
theorem p_X0_X0_0 : FP RX0 0 0 .int false := ⟨RX0, TX0, 8, tyX0, rfl, tyX0_ok, nmX0, by decide +kernel, rfl, fun q => by cases q⟩
theorem f_X0_38 : FL RX0 38 0 5 := ⟨RX0, TX0, 8, rfl, by decide, inGX0, tG_of (List.mem_of_getElem? (i := 169) (by decide +kernel)) (by decide +kernel)⟩
theorem p_X0_X0_5 : FP RX0 0 5 .int false := ⟨RX0, TX0, 8, tyX0, rfl, tyX0_ok, nmX0, by decide +kernel, rfl, fun q => by cases q⟩
theorem ok_J7_fill : MOK mJ7_fill := ⟨by decide +kernel, tG_of (List.mem_of_getElem? (i := 211) (by decide +kernel)) (by decide +kernel), tG_of (List.mem_of_getElem? (i := 31) (by decide +kernel)) (by decide +kernel), by decide +kernel, by decide +kernel⟩
theorem s_J7_fill : Jvm.Cond.static (mY mJ7_fill) ∈ tG := tG_of (List.mem_of_getElem? (i := 210) (by decide +kernel)) (by decide +kernel)
theorem lk_X0_41 : Lk RX0 41 mJ7_fill 2 := ⟨ok_J7_fill, tG_of (List.mem_of_getElem? (i := 253) (by decide +kernel)) (by decide +kernel), by decide +kernel, by decide⟩
theorem ok_1_makeEmpty : MOK m1_makeEmpty := ⟨by decide +kernel, tG_of (List.mem_of_getElem? (i := 208) (by decide +kernel)) (by decide +kernel), tG_of (List.mem_of_getElem? (i := 29) (by decide +kernel)) (by decide +kernel), by decide +kernel, by decide +kernel⟩
theorem v_1_makeEmpty : Jvm.Cond.instanceMethod (mY m1_makeEmpty) ∈ tG ∧ Jvm.Cond.selects (mY m1_makeEmpty).cls (mY m1_makeEmpty) (mY m1_makeEmpty) ∈ tG := ⟨tG_of (List.mem_of_getElem? (i := 206) (by decide +kernel)) (by decide +kernel), tG_of (List.mem_of_getElem? (i := 207) (by decide +kernel)) (by decide +kernel)⟩
theorem lk_X0_47 : Lk RX0 47 m1_makeEmpty 0 := ⟨ok_1_makeEmpty, tG_of (List.mem_of_getElem? (i := 254) (by decide +kernel)) (by decide +kernel), by decide +kernel, by decide⟩
theorem ok_0_follow : MOK m0_follow := ⟨by decide +kernel, tG_of (List.mem_of_getElem? (i := 258) (by decide +kernel)) (by decide +kernel), tG_of (List.mem_of_getElem? (i := 30) (by decide +kernel)) (by decide +kernel), by decide +kernel, by decide +kernel⟩
theorem v_0_follow : Jvm.Cond.instanceMethod (mY m0_follow) ∈ tG ∧ Jvm.Cond.selects (mY m0_follow).cls (mY m0_follow) (mY m0_follow) ∈ tG := ⟨tG_of (List.mem_of_getElem? (i := 257) (by decide +kernel)) (by decide +kernel), tG_of (List.mem_of_getElem? (i := 5) (by decide +kernel)) (by decide +kernel)⟩
theorem lk_X0_50 : Lk RX0 50 m0_follow 4 := ⟨ok_0_follow, tG_of (List.mem_of_getElem? (i := 255) (by decide +kernel)) (by decide +kernel), by decide +kernel, by decide⟩
theorem ok_0_nodeOf : MOK m0_nodeOf := ⟨by decide +kernel, tG_of (List.mem_of_getElem? (i := 273) (by decide +kernel)) (by decide +kernel), tG_of (List.mem_of_getElem? (i := 30) (by decide +kernel)) (by decide +kernel), by decide +kernel, by decide +kernel⟩
theorem s_0_nodeOf : Jvm.Cond.static (mY m0_nodeOf) ∈ tG := tG_of (List.mem_of_getElem? (i := 272) (by decide +kernel)) (by decide +kernel)
theorem lk_X0_54 : Lk RX0 54 m0_nodeOf 1 := ⟨ok_0_nodeOf, tG_of (List.mem_of_getElem? (i := 271) (by decide +kernel)) (by decide +kernel), by decide +kernel, by decide⟩
theorem ok_0_flagsOf : MOK m0_flagsOf := ⟨by decide +kernel, tG_of (List.mem_of_getElem? (i := 284) (by decide +kernel)) (by decide +kernel), tG_of (List.mem_of_getElem? (i := 30) (by decide +kernel)) (by decide +kernel), by decide +kernel, by decide +kernel⟩
theorem s_0_flagsOf : Jvm.Cond.static (mY m0_flagsOf) ∈ tG := tG_of (List.mem_of_getElem? (i := 283) (by decide +kernel)) (by decide +kernel)
theorem lk_X0_58 : Lk RX0 58 m0_flagsOf 1 := ⟨ok_0_flagsOf, tG_of (List.mem_of_getElem? (i := 282) (by decide +kernel)) (by decide +kernel), by decide +kernel, by decide⟩
theorem ok_3_isOpen : MOK m3_isOpen := ⟨by decide +kernel, tG_of (List.mem_of_getElem? (i := 288) (by decide +kernel)) (by decide +kernel), tG_of (List.mem_of_getElem? (i := 27) (by decide +kernel)) (by decide +kernel), by decide +kernel, by decide +kernel⟩
theorem v_3_isOpen : Jvm.Cond.instanceMethod (mY m3_isOpen) ∈ tG ∧ Jvm.Cond.selects (mY m3_isOpen).cls (mY m3_isOpen) (mY m3_isOpen) ∈ tG := ⟨tG_of (List.mem_of_getElem? (i := 286) (by decide +kernel)) (by decide +kernel), tG_of (List.mem_of_getElem? (i := 287) (by decide +kernel)) (by decide +kernel)⟩
theorem lk_X0_61 : Lk RX0 61 m3_isOpen 3 := ⟨ok_3_isOpen, tG_of (List.mem_of_getElem? (i := 285) (by decide +kernel)) (by decide +kernel), by decide +kernel, by decide⟩
theorem f_X0_67 : FL RX0 67 1 1 := ⟨RX1, TX1, 4, rfl, by decide, inGX1, tG_of (List.mem_of_getElem? (i := 119) (by decide +kernel)) (by decide +kernel)⟩
theorem p_X0_X1_1 : FP RX0 1 1 .int false := ⟨RX1, TX1, 4, tyX1, rfl, tyX1_ok, nmX1, by decide +kernel, rfl, fun q => by cases q⟩
theorem ok_3_optionPart : MOK m3_optionPart := ⟨by decide +kernel, tG_of (List.mem_of_getElem? (i := 296) (by decide +kernel)) (by decide +kernel), tG_of (List.mem_of_getElem? (i := 27) (by decide +kernel)) (by decide +kernel), by decide +kernel, by decide +kernel⟩
theorem v_3_optionPart : Jvm.Cond.instanceMethod (mY m3_optionPart) ∈ tG ∧ Jvm.Cond.selects (mY m3_optionPart).cls (mY m3_optionPart) (mY m3_optionPart) ∈ tG := ⟨tG_of (List.mem_of_getElem? (i := 294) (by decide +kernel)) (by decide +kernel), tG_of (List.mem_of_getElem? (i := 295) (by decide +kernel)) (by decide +kernel)⟩
theorem lk_X0_70 : Lk RX0 70 m3_optionPart 3 := ⟨ok_3_optionPart, tG_of (List.mem_of_getElem? (i := 297) (by decide +kernel)) (by decide +kernel), by decide +kernel, by decide⟩
theorem ok_0_isSituation : MOK m0_isSituation := ⟨by decide +kernel, tG_of (List.mem_of_getElem? (i := 261) (by decide +kernel)) (by decide +kernel), tG_of (List.mem_of_getElem? (i := 30) (by decide +kernel)) (by decide +kernel), by decide +kernel, by decide +kernel⟩
theorem s_0_isSituation : Jvm.Cond.static (mY m0_isSituation) ∈ tG := tG_of (List.mem_of_getElem? (i := 260) (by decide +kernel)) (by decide +kernel)
theorem lk_X0_78 : Lk RX0 78 m0_isSituation 1 := ⟨ok_0_isSituation, tG_of (List.mem_of_getElem? (i := 259) (by decide +kernel)) (by decide +kernel), by decide +kernel, by decide⟩
theorem ok_1_comeFrom : MOK m1_comeFrom := ⟨by decide +kernel, tG_of (List.mem_of_getElem? (i := 215) (by decide +kernel)) (by decide +kernel), tG_of (List.mem_of_getElem? (i := 29) (by decide +kernel)) (by decide +kernel), by decide +kernel, by decide +kernel⟩
theorem v_1_comeFrom : Jvm.Cond.instanceMethod (mY m1_comeFrom) ∈ tG ∧ Jvm.Cond.selects (mY m1_comeFrom).cls (mY m1_comeFrom) (mY m1_comeFrom) ∈ tG := ⟨tG_of (List.mem_of_getElem? (i := 213) (by decide +kernel)) (by decide +kernel), tG_of (List.mem_of_getElem? (i := 214) (by decide +kernel)) (by decide +kernel)⟩
theorem lk_X0_85 : Lk RX0 85 m1_comeFrom 2 := ⟨ok_1_comeFrom, tG_of (List.mem_of_getElem? (i := 262) (by decide +kernel)) (by decide +kernel), by decide +kernel, by decide⟩
theorem f_X0_89 : FL RX0 89 1 0 := ⟨RX1, TX1, 4, rfl, by decide, inGX1, tG_of (List.mem_of_getElem? (i := 117) (by decide +kernel)) (by decide +kernel)⟩
theorem ok_3_shownKind : MOK m3_shownKind := ⟨by decide +kernel, tG_of (List.mem_of_getElem? (i := 266) (by decide +kernel)) (by decide +kernel), tG_of (List.mem_of_getElem? (i := 27) (by decide +kernel)) (by decide +kernel), by decide +kernel, by decide +kernel⟩
theorem v_3_shownKind : Jvm.Cond.instanceMethod (mY m3_shownKind) ∈ tG ∧ Jvm.Cond.selects (mY m3_shownKind).cls (mY m3_shownKind) (mY m3_shownKind) ∈ tG := ⟨tG_of (List.mem_of_getElem? (i := 264) (by decide +kernel)) (by decide +kernel), tG_of (List.mem_of_getElem? (i := 265) (by decide +kernel)) (by decide +kernel)⟩
theorem lk_X0_92 : Lk RX0 92 m3_shownKind 1 := ⟨ok_3_shownKind, tG_of (List.mem_of_getElem? (i := 263) (by decide +kernel)) (by decide +kernel), by decide +kernel, by decide⟩
theorem ok_0_arrive : MOK m0_arrive := ⟨by decide +kernel, tG_of (List.mem_of_getElem? (i := 270) (by decide +kernel)) (by decide +kernel), tG_of (List.mem_of_getElem? (i := 30) (by decide +kernel)) (by decide +kernel), by decide +kernel, by decide +kernel⟩
theorem v_0_arrive : Jvm.Cond.instanceMethod (mY m0_arrive) ∈ tG ∧ Jvm.Cond.selects (mY m0_arrive).cls (mY m0_arrive) (mY m0_arrive) ∈ tG := ⟨tG_of (List.mem_of_getElem? (i := 269) (by decide +kernel)) (by decide +kernel), tG_of (List.mem_of_getElem? (i := 6) (by decide +kernel)) (by decide +kernel)⟩
theorem lk_X0_95 : Lk RX0 95 m0_arrive 2 := ⟨ok_0_arrive, tG_of (List.mem_of_getElem? (i := 267) (by decide +kernel)) (by decide +kernel), by decide +kernel, by decide⟩
theorem ok_3_shownNumber : MOK m3_shownNumber := ⟨by decide +kernel, tG_of (List.mem_of_getElem? (i := 277) (by decide +kernel)) (by decide +kernel), tG_of (List.mem_of_getElem? (i := 27) (by decide +kernel)) (by decide +kernel), by decide +kernel, by decide +kernel⟩
theorem v_3_shownNumber : Jvm.Cond.instanceMethod (mY m3_shownNumber) ∈ tG ∧ Jvm.Cond.selects (mY m3_shownNumber).cls (mY m3_shownNumber) (mY m3_shownNumber) ∈ tG := ⟨tG_of (List.mem_of_getElem? (i := 275) (by decide +kernel)) (by decide +kernel), tG_of (List.mem_of_getElem? (i := 276) (by decide +kernel)) (by decide +kernel)⟩
theorem lk_X0_98 : Lk RX0 98 m3_shownNumber 1 := ⟨ok_3_shownNumber, tG_of (List.mem_of_getElem? (i := 274) (by decide +kernel)) (by decide +kernel), by decide +kernel, by decide⟩
theorem ok_5_endIndex : MOK m5_endIndex := ⟨by decide +kernel, tG_of (List.mem_of_getElem? (i := 281) (by decide +kernel)) (by decide +kernel), tG_of (List.mem_of_getElem? (i := 25) (by decide +kernel)) (by decide +kernel), by decide +kernel, by decide +kernel⟩
theorem s_5_endIndex : Jvm.Cond.static (mY m5_endIndex) ∈ tG := tG_of (List.mem_of_getElem? (i := 280) (by decide +kernel)) (by decide +kernel)
theorem oi_X1_3 : Jvm.Cond.methodLink RX1 3 objectInit ∈ tG := tG_of (List.mem_of_getElem? (i := 113) (by decide +kernel)) (by decide +kernel)
theorem f_X1_9 : FL RX1 9 1 2 := ⟨RX1, TX1, 4, rfl, by decide, inGX1, tG_of (List.mem_of_getElem? (i := 121) (by decide +kernel)) (by decide +kernel)⟩
theorem p_X1_X1_2 : FP RX1 1 2 (.array .int) true := ⟨RX1, TX1, 4, tyX1, rfl, tyX1_ok, nmX1, by decide +kernel, rfl, fun _ => rfl⟩
theorem f_X1_15 : FL RX1 15 1 3 := ⟨RX1, TX1, 4, rfl, by decide, inGX1, tG_of (List.mem_of_getElem? (i := 123) (by decide +kernel)) (by decide +kernel)⟩
theorem p_X1_X1_3 : FP RX1 1 3 (.array .int) true := ⟨RX1, TX1, 4, tyX1, rfl, tyX1_ok, nmX1, by decide +kernel, rfl, fun _ => rfl⟩
theorem f_X1_18 : FL RX1 18 1 0 := ⟨RX1, TX1, 4, rfl, by decide, inGX1, tG_of (List.mem_of_getElem? (i := 114) (by decide +kernel)) (by decide +kernel)⟩
theorem p_X1_X1_0 : FP RX1 1 0 .int false := ⟨RX1, TX1, 4, tyX1, rfl, tyX1_ok, nmX1, by decide +kernel, rfl, fun q => by cases q⟩
theorem f_X1_22 : FL RX1 22 1 1 := ⟨RX1, TX1, 4, rfl, by decide, inGX1, tG_of (List.mem_of_getElem? (i := 118) (by decide +kernel)) (by decide +kernel)⟩
theorem p_X1_X1_1 : FP RX1 1 1 .int false := ⟨RX1, TX1, 4, tyX1, rfl, tyX1_ok, nmX1, by decide +kernel, rfl, fun q => by cases q⟩
theorem lk_X1_25 : Lk RX1 25 mJ7_fill 2 := ⟨ok_J7_fill, tG_of (List.mem_of_getElem? (i := 209) (by decide +kernel)) (by decide +kernel), by decide +kernel, by decide⟩
theorem ac_X1_31 : Jvm.Cond.methodLink RX1 31 arraycopyName ∈ tG := tG_of (List.mem_of_getElem? (i := 342) (by decide +kernel)) (by decide +kernel)
theorem ok_3_isShown : MOK m3_isShown := ⟨by decide +kernel, tG_of (List.mem_of_getElem? (i := 219) (by decide +kernel)) (by decide +kernel), tG_of (List.mem_of_getElem? (i := 27) (by decide +kernel)) (by decide +kernel), by decide +kernel, by decide +kernel⟩
theorem v_3_isShown : Jvm.Cond.instanceMethod (mY m3_isShown) ∈ tG ∧ Jvm.Cond.selects (mY m3_isShown).cls (mY m3_isShown) (mY m3_isShown) ∈ tG := ⟨tG_of (List.mem_of_getElem? (i := 217) (by decide +kernel)) (by decide +kernel), tG_of (List.mem_of_getElem? (i := 218) (by decide +kernel)) (by decide +kernel)⟩
theorem lk_X1_37 : Lk RX1 37 m3_isShown 1 := ⟨ok_3_isShown, tG_of (List.mem_of_getElem? (i := 216) (by decide +kernel)) (by decide +kernel), by decide +kernel, by decide⟩
theorem ok_1_carryOut : MOK m1_carryOut := ⟨by decide +kernel, tG_of (List.mem_of_getElem? (i := 231) (by decide +kernel)) (by decide +kernel), tG_of (List.mem_of_getElem? (i := 29) (by decide +kernel)) (by decide +kernel), by decide +kernel, by decide +kernel⟩
theorem v_1_carryOut : Jvm.Cond.instanceMethod (mY m1_carryOut) ∈ tG ∧ Jvm.Cond.selects (mY m1_carryOut).cls (mY m1_carryOut) (mY m1_carryOut) ∈ tG := ⟨tG_of (List.mem_of_getElem? (i := 230) (by decide +kernel)) (by decide +kernel), tG_of (List.mem_of_getElem? (i := 1) (by decide +kernel)) (by decide +kernel)⟩
theorem lk_X1_43 : Lk RX1 43 m1_carryOut 2 := ⟨ok_1_carryOut, tG_of (List.mem_of_getElem? (i := 228) (by decide +kernel)) (by decide +kernel), by decide +kernel, by decide⟩
theorem ok_3_numberOf : MOK m3_numberOf := ⟨by decide +kernel, tG_of (List.mem_of_getElem? (i := 235) (by decide +kernel)) (by decide +kernel), tG_of (List.mem_of_getElem? (i := 27) (by decide +kernel)) (by decide +kernel), by decide +kernel, by decide +kernel⟩
theorem v_3_numberOf : Jvm.Cond.instanceMethod (mY m3_numberOf) ∈ tG ∧ Jvm.Cond.selects (mY m3_numberOf).cls (mY m3_numberOf) (mY m3_numberOf) ∈ tG := ⟨tG_of (List.mem_of_getElem? (i := 233) (by decide +kernel)) (by decide +kernel), tG_of (List.mem_of_getElem? (i := 234) (by decide +kernel)) (by decide +kernel)⟩
theorem lk_X1_47 : Lk RX1 47 m3_numberOf 2 := ⟨ok_3_numberOf, tG_of (List.mem_of_getElem? (i := 232) (by decide +kernel)) (by decide +kernel), by decide +kernel, by decide⟩
theorem ok_3_kindOf : MOK m3_kindOf := ⟨by decide +kernel, tG_of (List.mem_of_getElem? (i := 223) (by decide +kernel)) (by decide +kernel), tG_of (List.mem_of_getElem? (i := 27) (by decide +kernel)) (by decide +kernel), by decide +kernel, by decide +kernel⟩
theorem v_3_kindOf : Jvm.Cond.instanceMethod (mY m3_kindOf) ∈ tG ∧ Jvm.Cond.selects (mY m3_kindOf).cls (mY m3_kindOf) (mY m3_kindOf) ∈ tG := ⟨tG_of (List.mem_of_getElem? (i := 221) (by decide +kernel)) (by decide +kernel), tG_of (List.mem_of_getElem? (i := 222) (by decide +kernel)) (by decide +kernel)⟩
theorem lk_X1_51 : Lk RX1 51 m3_kindOf 1 := ⟨ok_3_kindOf, tG_of (List.mem_of_getElem? (i := 236) (by decide +kernel)) (by decide +kernel), by decide +kernel, by decide⟩
theorem ok_1_putAt : MOK m1_putAt := ⟨by decide +kernel, tG_of (List.mem_of_getElem? (i := 240) (by decide +kernel)) (by decide +kernel), tG_of (List.mem_of_getElem? (i := 29) (by decide +kernel)) (by decide +kernel), by decide +kernel, by decide +kernel⟩
theorem v_1_putAt : Jvm.Cond.instanceMethod (mY m1_putAt) ∈ tG ∧ Jvm.Cond.selects (mY m1_putAt).cls (mY m1_putAt) (mY m1_putAt) ∈ tG := ⟨tG_of (List.mem_of_getElem? (i := 239) (by decide +kernel)) (by decide +kernel), tG_of (List.mem_of_getElem? (i := 2) (by decide +kernel)) (by decide +kernel)⟩
theorem lk_X1_55 : Lk RX1 55 m1_putAt 3 := ⟨ok_1_putAt, tG_of (List.mem_of_getElem? (i := 237) (by decide +kernel)) (by decide +kernel), by decide +kernel, by decide⟩
theorem ok_1_hide : MOK m1_hide := ⟨by decide +kernel, tG_of (List.mem_of_getElem? (i := 244) (by decide +kernel)) (by decide +kernel), tG_of (List.mem_of_getElem? (i := 29) (by decide +kernel)) (by decide +kernel), by decide +kernel, by decide +kernel⟩
theorem v_1_hide : Jvm.Cond.instanceMethod (mY m1_hide) ∈ tG ∧ Jvm.Cond.selects (mY m1_hide).cls (mY m1_hide) (mY m1_hide) ∈ tG := ⟨tG_of (List.mem_of_getElem? (i := 243) (by decide +kernel)) (by decide +kernel), tG_of (List.mem_of_getElem? (i := 3) (by decide +kernel)) (by decide +kernel)⟩
theorem lk_X1_59 : Lk RX1 59 m1_hide 1 := ⟨ok_1_hide, tG_of (List.mem_of_getElem? (i := 241) (by decide +kernel)) (by decide +kernel), by decide +kernel, by decide⟩
theorem oi_X2_3 : Jvm.Cond.methodLink RX2 3 objectInit ∈ tG := tG_of (List.mem_of_getElem? (i := 106) (by decide +kernel)) (by decide +kernel)
theorem f_X2_11 : FL RX2 11 2 0 := ⟨RX2, TX2, 6, rfl, by decide, inGX2, tG_of (List.mem_of_getElem? (i := 135) (by decide +kernel)) (by decide +kernel)⟩
theorem p_X2_X2_0 : FP RX2 2 0 (.array (.object "PictureScript$Moment")) true := ⟨RX2, TX2, 6, tyX2, rfl, tyX2_ok, nmX2, by decide +kernel, rfl, fun _ => rfl⟩
theorem f_X2_17 : FL RX2 17 2 3 := ⟨RX2, TX2, 6, rfl, by decide, inGX2, tG_of (List.mem_of_getElem? (i := 140) (by decide +kernel)) (by decide +kernel)⟩
theorem p_X2_X2_3 : FP RX2 2 3 (.array (.object "PictureScript$Moment")) true := ⟨RX2, TX2, 6, tyX2, rfl, tyX2_ok, nmX2, by decide +kernel, rfl, fun _ => rfl⟩
theorem na_boolean : Jvm.Cond.arrayClass (tyF 2) ∈ tG := tG_of (List.mem_of_getElem? (i := 134) (by decide +kernel)) (by decide +kernel)
theorem f_X2_20 : FL RX2 20 2 4 := ⟨RX2, TX2, 6, rfl, by decide, inGX2, tG_of (List.mem_of_getElem? (i := 141) (by decide +kernel)) (by decide +kernel)⟩
theorem p_X2_X2_4 : FP RX2 2 4 (.array .boolean) true := ⟨RX2, TX2, 6, tyX2, rfl, tyX2_ok, nmX2, by decide +kernel, rfl, fun _ => rfl⟩
theorem f_X2_24 : FL RX2 24 2 5 := ⟨RX2, TX2, 6, rfl, by decide, inGX2, tG_of (List.mem_of_getElem? (i := 142) (by decide +kernel)) (by decide +kernel)⟩
theorem p_X2_X2_5 : FP RX2 2 5 (.array .boolean) true := ⟨RX2, TX2, 6, tyX2, rfl, tyX2_ok, nmX2, by decide +kernel, rfl, fun _ => rfl⟩
theorem f_X2_28 : FL RX2 28 2 2 := ⟨RX2, TX2, 6, rfl, by decide, inGX2, tG_of (List.mem_of_getElem? (i := 138) (by decide +kernel)) (by decide +kernel)⟩
theorem ok_2_startAnew : MOK m2_startAnew := ⟨by decide +kernel, tG_of (List.mem_of_getElem? (i := 196) (by decide +kernel)) (by decide +kernel), tG_of (List.mem_of_getElem? (i := 28) (by decide +kernel)) (by decide +kernel), by decide +kernel, by decide +kernel⟩
theorem v_2_startAnew : Jvm.Cond.instanceMethod (mY m2_startAnew) ∈ tG ∧ Jvm.Cond.selects (mY m2_startAnew).cls (mY m2_startAnew) (mY m2_startAnew) ∈ tG := ⟨tG_of (List.mem_of_getElem? (i := 194) (by decide +kernel)) (by decide +kernel), tG_of (List.mem_of_getElem? (i := 195) (by decide +kernel)) (by decide +kernel)⟩
theorem lk_X2_32 : Lk RX2 32 m2_startAnew 1 := ⟨ok_2_startAnew, tG_of (List.mem_of_getElem? (i := 193) (by decide +kernel)) (by decide +kernel), by decide +kernel, by decide⟩
theorem ok_2_keepOneMoment : MOK m2_keepOneMoment := ⟨by decide +kernel, tG_of (List.mem_of_getElem? (i := 200) (by decide +kernel)) (by decide +kernel), tG_of (List.mem_of_getElem? (i := 28) (by decide +kernel)) (by decide +kernel), by decide +kernel, by decide +kernel⟩
theorem v_2_keepOneMoment : Jvm.Cond.instanceMethod (mY m2_keepOneMoment) ∈ tG ∧ Jvm.Cond.selects (mY m2_keepOneMoment).cls (mY m2_keepOneMoment) (mY m2_keepOneMoment) ∈ tG := ⟨tG_of (List.mem_of_getElem? (i := 199) (by decide +kernel)) (by decide +kernel), tG_of (List.mem_of_getElem? (i := 0) (by decide +kernel)) (by decide +kernel)⟩
theorem lk_X2_36 : Lk RX2 36 m2_keepOneMoment 0 := ⟨ok_2_keepOneMoment, tG_of (List.mem_of_getElem? (i := 197) (by decide +kernel)) (by decide +kernel), by decide +kernel, by decide⟩
theorem ok_2_now : MOK m2_now := ⟨by decide +kernel, tG_of (List.mem_of_getElem? (i := 204) (by decide +kernel)) (by decide +kernel), tG_of (List.mem_of_getElem? (i := 28) (by decide +kernel)) (by decide +kernel), by decide +kernel, by decide +kernel⟩
theorem v_2_now : Jvm.Cond.instanceMethod (mY m2_now) ∈ tG ∧ Jvm.Cond.selects (mY m2_now).cls (mY m2_now) (mY m2_now) ∈ tG := ⟨tG_of (List.mem_of_getElem? (i := 202) (by decide +kernel)) (by decide +kernel), tG_of (List.mem_of_getElem? (i := 203) (by decide +kernel)) (by decide +kernel)⟩
theorem lk_X2_39 : Lk RX2 39 m2_now 0 := ⟨ok_2_now, tG_of (List.mem_of_getElem? (i := 201) (by decide +kernel)) (by decide +kernel), by decide +kernel, by decide⟩
theorem lk_X2_43 : Lk RX2 43 m1_makeEmpty 0 := ⟨ok_1_makeEmpty, tG_of (List.mem_of_getElem? (i := 205) (by decide +kernel)) (by decide +kernel), by decide +kernel, by decide⟩
theorem lk_X2_46 : Lk RX2 46 m1_comeFrom 2 := ⟨ok_1_comeFrom, tG_of (List.mem_of_getElem? (i := 212) (by decide +kernel)) (by decide +kernel), by decide +kernel, by decide⟩
theorem f_X2_50 : FL RX2 50 1 0 := ⟨RX1, TX1, 4, rfl, by decide, inGX1, tG_of (List.mem_of_getElem? (i := 115) (by decide +kernel)) (by decide +kernel)⟩
theorem ok_2_see : MOK m2_see := ⟨by decide +kernel, tG_of (List.mem_of_getElem? (i := 248) (by decide +kernel)) (by decide +kernel), tG_of (List.mem_of_getElem? (i := 28) (by decide +kernel)) (by decide +kernel), by decide +kernel, by decide +kernel⟩
theorem v_2_see : Jvm.Cond.instanceMethod (mY m2_see) ∈ tG ∧ Jvm.Cond.selects (mY m2_see).cls (mY m2_see) (mY m2_see) ∈ tG := ⟨tG_of (List.mem_of_getElem? (i := 247) (by decide +kernel)) (by decide +kernel), tG_of (List.mem_of_getElem? (i := 4) (by decide +kernel)) (by decide +kernel)⟩
theorem lk_X2_53 : Lk RX2 53 m2_see 1 := ⟨ok_2_see, tG_of (List.mem_of_getElem? (i := 245) (by decide +kernel)) (by decide +kernel), by decide +kernel, by decide⟩
theorem p_X2_X2_2 : FP RX2 2 2 .int false := ⟨RX2, TX2, 6, tyX2, rfl, tyX2_ok, nmX2, by decide +kernel, rfl, fun q => by cases q⟩
theorem ok_2_forgetEarliest : MOK m2_forgetEarliest := ⟨by decide +kernel, tG_of (List.mem_of_getElem? (i := 337) (by decide +kernel)) (by decide +kernel), tG_of (List.mem_of_getElem? (i := 28) (by decide +kernel)) (by decide +kernel), by decide +kernel, by decide +kernel⟩
theorem v_2_forgetEarliest : Jvm.Cond.instanceMethod (mY m2_forgetEarliest) ∈ tG ∧ Jvm.Cond.selects (mY m2_forgetEarliest).cls (mY m2_forgetEarliest) (mY m2_forgetEarliest) ∈ tG := ⟨tG_of (List.mem_of_getElem? (i := 336) (by decide +kernel)) (by decide +kernel), tG_of (List.mem_of_getElem? (i := 9) (by decide +kernel)) (by decide +kernel)⟩
theorem lk_X2_57 : Lk RX2 57 m2_forgetEarliest 0 := ⟨ok_2_forgetEarliest, tG_of (List.mem_of_getElem? (i := 334) (by decide +kernel)) (by decide +kernel), by decide +kernel, by decide⟩
theorem f_X2_60 : FL RX2 60 2 1 := ⟨RX2, TX2, 6, rfl, by decide, inGX2, tG_of (List.mem_of_getElem? (i := 136) (by decide +kernel)) (by decide +kernel)⟩
theorem p_X2_X2_1 : FP RX2 2 1 .int false := ⟨RX2, TX2, 6, tyX2, rfl, tyX2_ok, nmX2, by decide +kernel, rfl, fun q => by cases q⟩
theorem ok_1_makeLike : MOK m1_makeLike := ⟨by decide +kernel, tG_of (List.mem_of_getElem? (i := 341) (by decide +kernel)) (by decide +kernel), tG_of (List.mem_of_getElem? (i := 29) (by decide +kernel)) (by decide +kernel), by decide +kernel, by decide +kernel⟩
theorem v_1_makeLike : Jvm.Cond.instanceMethod (mY m1_makeLike) ∈ tG ∧ Jvm.Cond.selects (mY m1_makeLike).cls (mY m1_makeLike) (mY m1_makeLike) ∈ tG := ⟨tG_of (List.mem_of_getElem? (i := 339) (by decide +kernel)) (by decide +kernel), tG_of (List.mem_of_getElem? (i := 340) (by decide +kernel)) (by decide +kernel)⟩
theorem lk_X2_63 : Lk RX2 63 m1_makeLike 1 := ⟨ok_1_makeLike, tG_of (List.mem_of_getElem? (i := 338) (by decide +kernel)) (by decide +kernel), by decide +kernel, by decide⟩
theorem oi_X3_3 : Jvm.Cond.methodLink RX3 3 objectInit ∈ tG := tG_of (List.mem_of_getElem? (i := 58) (by decide +kernel)) (by decide +kernel)
theorem f_X3_9 : FL RX3 9 3 1 := ⟨RX3, TX3, 6, rfl, by decide, inGX3, tG_of (List.mem_of_getElem? (i := 61) (by decide +kernel)) (by decide +kernel)⟩
theorem p_X3_X3_1 : FP RX3 3 1 (.array .int) true := ⟨RX3, TX3, 6, tyX3, rfl, tyX3_ok, nmX3, by decide +kernel, rfl, fun _ => rfl⟩
theorem f_X3_15 : FL RX3 15 3 2 := ⟨RX3, TX3, 6, rfl, by decide, inGX3, tG_of (List.mem_of_getElem? (i := 62) (by decide +kernel)) (by decide +kernel)⟩
theorem p_X3_X3_2 : FP RX3 3 2 (.array .int) true := ⟨RX3, TX3, 6, tyX3, rfl, tyX3_ok, nmX3, by decide +kernel, rfl, fun _ => rfl⟩
theorem f_X3_18 : FL RX3 18 3 3 := ⟨RX3, TX3, 6, rfl, by decide, inGX3, tG_of (List.mem_of_getElem? (i := 63) (by decide +kernel)) (by decide +kernel)⟩
theorem p_X3_X3_3 : FP RX3 3 3 (.array .int) true := ⟨RX3, TX3, 6, tyX3, rfl, tyX3_ok, nmX3, by decide +kernel, rfl, fun _ => rfl⟩
theorem f_X3_21 : FL RX3 21 3 4 := ⟨RX3, TX3, 6, rfl, by decide, inGX3, tG_of (List.mem_of_getElem? (i := 64) (by decide +kernel)) (by decide +kernel)⟩
theorem p_X3_X3_4 : FP RX3 3 4 (.array .int) true := ⟨RX3, TX3, 6, tyX3, rfl, tyX3_ok, nmX3, by decide +kernel, rfl, fun _ => rfl⟩
theorem f_X3_24 : FL RX3 24 3 5 := ⟨RX3, TX3, 6, rfl, by decide, inGX3, tG_of (List.mem_of_getElem? (i := 65) (by decide +kernel)) (by decide +kernel)⟩
theorem p_X3_X3_5 : FP RX3 3 5 (.array .int) true := ⟨RX3, TX3, 6, tyX3, rfl, tyX3_ok, nmX3, by decide +kernel, rfl, fun _ => rfl⟩
theorem f_X3_27 : FL RX3 27 3 0 := ⟨RX3, TX3, 6, rfl, by decide, inGX3, tG_of (List.mem_of_getElem? (i := 59) (by decide +kernel)) (by decide +kernel)⟩
theorem p_X3_X3_0 : FP RX3 3 0 .int false := ⟨RX3, TX3, 6, tyX3, rfl, tyX3_ok, nmX3, by decide +kernel, rfl, fun q => by cases q⟩
theorem ok_3_has : MOK m3_has := ⟨by decide +kernel, tG_of (List.mem_of_getElem? (i := 227) (by decide +kernel)) (by decide +kernel), tG_of (List.mem_of_getElem? (i := 27) (by decide +kernel)) (by decide +kernel), by decide +kernel, by decide +kernel⟩
theorem v_3_has : Jvm.Cond.instanceMethod (mY m3_has) ∈ tG ∧ Jvm.Cond.selects (mY m3_has).cls (mY m3_has) (mY m3_has) ∈ tG := ⟨tG_of (List.mem_of_getElem? (i := 225) (by decide +kernel)) (by decide +kernel), tG_of (List.mem_of_getElem? (i := 226) (by decide +kernel)) (by decide +kernel)⟩
theorem lk_X3_31 : Lk RX3 31 m3_has 1 := ⟨ok_3_has, tG_of (List.mem_of_getElem? (i := 224) (by decide +kernel)) (by decide +kernel), by decide +kernel, by decide⟩
theorem ok_3_optionsOf : MOK m3_optionsOf := ⟨by decide +kernel, tG_of (List.mem_of_getElem? (i := 292) (by decide +kernel)) (by decide +kernel), tG_of (List.mem_of_getElem? (i := 27) (by decide +kernel)) (by decide +kernel), by decide +kernel, by decide +kernel⟩
theorem v_3_optionsOf : Jvm.Cond.instanceMethod (mY m3_optionsOf) ∈ tG ∧ Jvm.Cond.selects (mY m3_optionsOf).cls (mY m3_optionsOf) (mY m3_optionsOf) ∈ tG := ⟨tG_of (List.mem_of_getElem? (i := 290) (by decide +kernel)) (by decide +kernel), tG_of (List.mem_of_getElem? (i := 291) (by decide +kernel)) (by decide +kernel)⟩
theorem lk_X3_35 : Lk RX3 35 m3_optionsOf 1 := ⟨ok_3_optionsOf, tG_of (List.mem_of_getElem? (i := 289) (by decide +kernel)) (by decide +kernel), by decide +kernel, by decide⟩
theorem lk_X3_39 : Lk RX3 39 m3_optionPart 3 := ⟨ok_3_optionPart, tG_of (List.mem_of_getElem? (i := 293) (by decide +kernel)) (by decide +kernel), by decide +kernel, by decide⟩
theorem lk_X3_43 : Lk RX3 43 m3_kindOf 1 := ⟨ok_3_kindOf, tG_of (List.mem_of_getElem? (i := 220) (by decide +kernel)) (by decide +kernel), by decide +kernel, by decide⟩
theorem lk_X3_46 : Lk RX3 46 m3_isOpen 3 := ⟨ok_3_isOpen, tG_of (List.mem_of_getElem? (i := 393) (by decide +kernel)) (by decide +kernel), by decide +kernel, by decide⟩
theorem lk_X3_50 : Lk RX3 50 m3_numberOf 2 := ⟨ok_3_numberOf, tG_of (List.mem_of_getElem? (i := 278) (by decide +kernel)) (by decide +kernel), by decide +kernel, by decide⟩
theorem oi_X4_3 : Jvm.Cond.methodLink RX4 3 objectInit ∈ tG := tG_of (List.mem_of_getElem? (i := 52) (by decide +kernel)) (by decide +kernel)
theorem na_byte : Jvm.Cond.arrayClass (tyF 1) ∈ tG := tG_of (List.mem_of_getElem? (i := 79) (by decide +kernel)) (by decide +kernel)
theorem f_X4_9 : FL RX4 9 4 1 := ⟨RX4, TX4, 5, rfl, by decide, inGX4, tG_of (List.mem_of_getElem? (i := 83) (by decide +kernel)) (by decide +kernel)⟩
theorem p_X4_X4_1 : FP RX4 4 1 (.array .byte) true := ⟨RX4, TX4, 5, tyX4, rfl, tyX4_ok, nmX4, by decide +kernel, rfl, fun _ => rfl⟩
theorem nw_X3 : (∀ j, j < 6 → ([vI 0, vN, vN, vN, vN, vN] : List AV)[j]? = some (dfv (tyX3 j)) ∧ ∀ G : GD, cv G (dfv (tyX3 j)) = defaultValue (tyX3 j)) ∧ (∀ v ∈ ([vI 0, vN, vN, vN, vN, vN] : List AV), vok v) := by
  refine ⟨fun j hj => ?_, fun v hv => ?_⟩
  · rcases (by omega : j = 0 ∨ j = 1 ∨ j = 2 ∨ j = 3 ∨ j = 4 ∨ j = 5) with rfl | rfl | rfl | rfl | rfl | rfl <;> exact ⟨rfl, fun G => rfl⟩
  · simp only [List.mem_cons, List.not_mem_nil, or_false] at hv
    rcases hv with rfl | rfl | rfl | rfl | rfl | rfl <;> first | trivial | (exact ⟨by decide, by decide⟩)
theorem ok_3_init : MOK m3_init := ⟨by decide +kernel, tG_of (List.mem_of_getElem? (i := 57) (by decide +kernel)) (by decide +kernel), tG_of (List.mem_of_getElem? (i := 27) (by decide +kernel)) (by decide +kernel), by decide +kernel, by decide +kernel⟩
theorem i_3_init : Jvm.Cond.instanceMethod (mY m3_init) ∈ tG := tG_of (List.mem_of_getElem? (i := 56) (by decide +kernel)) (by decide +kernel)
theorem f_X4_18 : FL RX4 18 4 2 := ⟨RX4, TX4, 5, rfl, by decide, inGX4, tG_of (List.mem_of_getElem? (i := 84) (by decide +kernel)) (by decide +kernel)⟩
theorem p_X4_X4_2 : FP RX4 4 2 (.object "PictureScript$Script") false := ⟨RX4, TX4, 5, tyX4, rfl, tyX4_ok, nmX4, by decide +kernel, rfl, fun q => by cases q⟩
theorem f_X4_22 : FL RX4 22 4 0 := ⟨RX4, TX4, 5, rfl, by decide, inGX4, tG_of (List.mem_of_getElem? (i := 81) (by decide +kernel)) (by decide +kernel)⟩
theorem p_X4_X4_0 : FP RX4 4 0 .int false := ⟨RX4, TX4, 5, tyX4, rfl, tyX4_ok, nmX4, by decide +kernel, rfl, fun q => by cases q⟩
theorem f_X4_26 : FL RX4 26 4 3 := ⟨RX4, TX4, 5, rfl, by decide, inGX4, tG_of (List.mem_of_getElem? (i := 86) (by decide +kernel)) (by decide +kernel)⟩
theorem p_X4_X4_3 : FP RX4 4 3 .int false := ⟨RX4, TX4, 5, tyX4, rfl, tyX4_ok, nmX4, by decide +kernel, rfl, fun q => by cases q⟩
theorem ok_3_clear : MOK m3_clear := ⟨by decide +kernel, tG_of (List.mem_of_getElem? (i := 453) (by decide +kernel)) (by decide +kernel), tG_of (List.mem_of_getElem? (i := 27) (by decide +kernel)) (by decide +kernel), by decide +kernel, by decide +kernel⟩
theorem v_3_clear : Jvm.Cond.instanceMethod (mY m3_clear) ∈ tG ∧ Jvm.Cond.selects (mY m3_clear).cls (mY m3_clear) (mY m3_clear) ∈ tG := ⟨tG_of (List.mem_of_getElem? (i := 451) (by decide +kernel)) (by decide +kernel), tG_of (List.mem_of_getElem? (i := 452) (by decide +kernel)) (by decide +kernel)⟩
theorem lk_X4_29 : Lk RX4 29 m3_clear 0 := ⟨ok_3_clear, tG_of (List.mem_of_getElem? (i := 450) (by decide +kernel)) (by decide +kernel), by decide +kernel, by decide⟩
theorem ok_4_skipBlanks : MOK m4_skipBlanks := ⟨by decide +kernel, tG_of (List.mem_of_getElem? (i := 457) (by decide +kernel)) (by decide +kernel), tG_of (List.mem_of_getElem? (i := 26) (by decide +kernel)) (by decide +kernel), by decide +kernel, by decide +kernel⟩
theorem v_4_skipBlanks : Jvm.Cond.instanceMethod (mY m4_skipBlanks) ∈ tG ∧ Jvm.Cond.selects (mY m4_skipBlanks).cls (mY m4_skipBlanks) (mY m4_skipBlanks) ∈ tG := ⟨tG_of (List.mem_of_getElem? (i := 456) (by decide +kernel)) (by decide +kernel), tG_of (List.mem_of_getElem? (i := 10) (by decide +kernel)) (by decide +kernel)⟩
theorem lk_X4_32 : Lk RX4 32 m4_skipBlanks 0 := ⟨ok_4_skipBlanks, tG_of (List.mem_of_getElem? (i := 454) (by decide +kernel)) (by decide +kernel), by decide +kernel, by decide⟩
theorem ok_4_isAtEnd : MOK m4_isAtEnd := ⟨by decide +kernel, tG_of (List.mem_of_getElem? (i := 465) (by decide +kernel)) (by decide +kernel), tG_of (List.mem_of_getElem? (i := 26) (by decide +kernel)) (by decide +kernel), by decide +kernel, by decide +kernel⟩
theorem v_4_isAtEnd : Jvm.Cond.instanceMethod (mY m4_isAtEnd) ∈ tG ∧ Jvm.Cond.selects (mY m4_isAtEnd).cls (mY m4_isAtEnd) (mY m4_isAtEnd) ∈ tG := ⟨tG_of (List.mem_of_getElem? (i := 464) (by decide +kernel)) (by decide +kernel), tG_of (List.mem_of_getElem? (i := 12) (by decide +kernel)) (by decide +kernel)⟩
theorem lk_X4_35 : Lk RX4 35 m4_isAtEnd 0 := ⟨ok_4_isAtEnd, tG_of (List.mem_of_getElem? (i := 462) (by decide +kernel)) (by decide +kernel), by decide +kernel, by decide⟩
theorem ok_4_takeNode : MOK m4_takeNode := ⟨by decide +kernel, tG_of (List.mem_of_getElem? (i := 469) (by decide +kernel)) (by decide +kernel), tG_of (List.mem_of_getElem? (i := 26) (by decide +kernel)) (by decide +kernel), by decide +kernel, by decide +kernel⟩
theorem v_4_takeNode : Jvm.Cond.instanceMethod (mY m4_takeNode) ∈ tG ∧ Jvm.Cond.selects (mY m4_takeNode).cls (mY m4_takeNode) (mY m4_takeNode) ∈ tG := ⟨tG_of (List.mem_of_getElem? (i := 468) (by decide +kernel)) (by decide +kernel), tG_of (List.mem_of_getElem? (i := 13) (by decide +kernel)) (by decide +kernel)⟩
theorem lk_X4_39 : Lk RX4 39 m4_takeNode 0 := ⟨ok_4_takeNode, tG_of (List.mem_of_getElem? (i := 466) (by decide +kernel)) (by decide +kernel), by decide +kernel, by decide⟩
theorem ok_4_takeSign : MOK m4_takeSign := ⟨by decide +kernel, tG_of (List.mem_of_getElem? (i := 596) (by decide +kernel)) (by decide +kernel), tG_of (List.mem_of_getElem? (i := 26) (by decide +kernel)) (by decide +kernel), by decide +kernel, by decide +kernel⟩
theorem v_4_takeSign : Jvm.Cond.instanceMethod (mY m4_takeSign) ∈ tG ∧ Jvm.Cond.selects (mY m4_takeSign).cls (mY m4_takeSign) (mY m4_takeSign) ∈ tG := ⟨tG_of (List.mem_of_getElem? (i := 595) (by decide +kernel)) (by decide +kernel), tG_of (List.mem_of_getElem? (i := 21) (by decide +kernel)) (by decide +kernel)⟩
theorem lk_X4_42 : Lk RX4 42 m4_takeSign 1 := ⟨ok_4_takeSign, tG_of (List.mem_of_getElem? (i := 593) (by decide +kernel)) (by decide +kernel), by decide +kernel, by decide⟩
theorem ok_4_here : MOK m4_here := ⟨by decide +kernel, tG_of (List.mem_of_getElem? (i := 461) (by decide +kernel)) (by decide +kernel), tG_of (List.mem_of_getElem? (i := 26) (by decide +kernel)) (by decide +kernel), by decide +kernel, by decide +kernel⟩
theorem v_4_here : Jvm.Cond.instanceMethod (mY m4_here) ∈ tG ∧ Jvm.Cond.selects (mY m4_here).cls (mY m4_here) (mY m4_here) ∈ tG := ⟨tG_of (List.mem_of_getElem? (i := 460) (by decide +kernel)) (by decide +kernel), tG_of (List.mem_of_getElem? (i := 11) (by decide +kernel)) (by decide +kernel)⟩
theorem lk_X4_48 : Lk RX4 48 m4_here 0 := ⟨ok_4_here, tG_of (List.mem_of_getElem? (i := 458) (by decide +kernel)) (by decide +kernel), by decide +kernel, by decide⟩
theorem ok_3_addNode : MOK m3_addNode := ⟨by decide +kernel, tG_of (List.mem_of_getElem? (i := 560) (by decide +kernel)) (by decide +kernel), tG_of (List.mem_of_getElem? (i := 27) (by decide +kernel)) (by decide +kernel), by decide +kernel, by decide +kernel⟩
theorem v_3_addNode : Jvm.Cond.instanceMethod (mY m3_addNode) ∈ tG ∧ Jvm.Cond.selects (mY m3_addNode).cls (mY m3_addNode) (mY m3_addNode) ∈ tG := ⟨tG_of (List.mem_of_getElem? (i := 558) (by decide +kernel)) (by decide +kernel), tG_of (List.mem_of_getElem? (i := 559) (by decide +kernel)) (by decide +kernel)⟩
theorem lk_X4_58 : Lk RX4 58 m3_addNode 1 := ⟨ok_3_addNode, tG_of (List.mem_of_getElem? (i := 557) (by decide +kernel)) (by decide +kernel), by decide +kernel, by decide⟩
theorem ok_4_addVoice : MOK m4_addVoice := ⟨by decide +kernel, tG_of (List.mem_of_getElem? (i := 564) (by decide +kernel)) (by decide +kernel), tG_of (List.mem_of_getElem? (i := 26) (by decide +kernel)) (by decide +kernel), by decide +kernel, by decide +kernel⟩
theorem v_4_addVoice : Jvm.Cond.instanceMethod (mY m4_addVoice) ∈ tG ∧ Jvm.Cond.selects (mY m4_addVoice).cls (mY m4_addVoice) (mY m4_addVoice) ∈ tG := ⟨tG_of (List.mem_of_getElem? (i := 563) (by decide +kernel)) (by decide +kernel), tG_of (List.mem_of_getElem? (i := 14) (by decide +kernel)) (by decide +kernel)⟩
theorem lk_X4_62 : Lk RX4 62 m4_addVoice 0 := ⟨ok_4_addVoice, tG_of (List.mem_of_getElem? (i := 561) (by decide +kernel)) (by decide +kernel), by decide +kernel, by decide⟩
theorem ok_4_addNumber : MOK m4_addNumber := ⟨by decide +kernel, tG_of (List.mem_of_getElem? (i := 572) (by decide +kernel)) (by decide +kernel), tG_of (List.mem_of_getElem? (i := 26) (by decide +kernel)) (by decide +kernel), by decide +kernel, by decide +kernel⟩
theorem v_4_addNumber : Jvm.Cond.instanceMethod (mY m4_addNumber) ∈ tG ∧ Jvm.Cond.selects (mY m4_addNumber).cls (mY m4_addNumber) (mY m4_addNumber) ∈ tG := ⟨tG_of (List.mem_of_getElem? (i := 571) (by decide +kernel)) (by decide +kernel), tG_of (List.mem_of_getElem? (i := 15) (by decide +kernel)) (by decide +kernel)⟩
theorem lk_X4_65 : Lk RX4 65 m4_addNumber 1 := ⟨ok_4_addNumber, tG_of (List.mem_of_getElem? (i := 569) (by decide +kernel)) (by decide +kernel), by decide +kernel, by decide⟩
theorem ok_4_addDigit : MOK m4_addDigit := ⟨by decide +kernel, tG_of (List.mem_of_getElem? (i := 584) (by decide +kernel)) (by decide +kernel), tG_of (List.mem_of_getElem? (i := 26) (by decide +kernel)) (by decide +kernel), by decide +kernel, by decide +kernel⟩
theorem v_4_addDigit : Jvm.Cond.instanceMethod (mY m4_addDigit) ∈ tG ∧ Jvm.Cond.selects (mY m4_addDigit).cls (mY m4_addDigit) (mY m4_addDigit) ∈ tG := ⟨tG_of (List.mem_of_getElem? (i := 583) (by decide +kernel)) (by decide +kernel), tG_of (List.mem_of_getElem? (i := 18) (by decide +kernel)) (by decide +kernel)⟩
theorem lk_X4_69 : Lk RX4 69 m4_addDigit 1 := ⟨ok_4_addDigit, tG_of (List.mem_of_getElem? (i := 581) (by decide +kernel)) (by decide +kernel), by decide +kernel, by decide⟩
theorem ok_4_addPlusOrMinus : MOK m4_addPlusOrMinus := ⟨by decide +kernel, tG_of (List.mem_of_getElem? (i := 592) (by decide +kernel)) (by decide +kernel), tG_of (List.mem_of_getElem? (i := 26) (by decide +kernel)) (by decide +kernel), by decide +kernel, by decide +kernel⟩
theorem v_4_addPlusOrMinus : Jvm.Cond.instanceMethod (mY m4_addPlusOrMinus) ∈ tG ∧ Jvm.Cond.selects (mY m4_addPlusOrMinus).cls (mY m4_addPlusOrMinus) (mY m4_addPlusOrMinus) ∈ tG := ⟨tG_of (List.mem_of_getElem? (i := 591) (by decide +kernel)) (by decide +kernel), tG_of (List.mem_of_getElem? (i := 20) (by decide +kernel)) (by decide +kernel)⟩
theorem lk_X4_72 : Lk RX4 72 m4_addPlusOrMinus 0 := ⟨ok_4_addPlusOrMinus, tG_of (List.mem_of_getElem? (i := 589) (by decide +kernel)) (by decide +kernel), by decide +kernel, by decide⟩
theorem ok_4_takeOptions : MOK m4_takeOptions := ⟨by decide +kernel, tG_of (List.mem_of_getElem? (i := 600) (by decide +kernel)) (by decide +kernel), tG_of (List.mem_of_getElem? (i := 26) (by decide +kernel)) (by decide +kernel), by decide +kernel, by decide +kernel⟩
theorem v_4_takeOptions : Jvm.Cond.instanceMethod (mY m4_takeOptions) ∈ tG ∧ Jvm.Cond.selects (mY m4_takeOptions).cls (mY m4_takeOptions) (mY m4_takeOptions) ∈ tG := ⟨tG_of (List.mem_of_getElem? (i := 599) (by decide +kernel)) (by decide +kernel), tG_of (List.mem_of_getElem? (i := 22) (by decide +kernel)) (by decide +kernel)⟩
theorem lk_X4_75 : Lk RX4 75 m4_takeOptions 0 := ⟨ok_4_takeOptions, tG_of (List.mem_of_getElem? (i := 597) (by decide +kernel)) (by decide +kernel), by decide +kernel, by decide⟩
theorem ok_4_takeOption : MOK m4_takeOption := ⟨by decide +kernel, tG_of (List.mem_of_getElem? (i := 604) (by decide +kernel)) (by decide +kernel), tG_of (List.mem_of_getElem? (i := 26) (by decide +kernel)) (by decide +kernel), by decide +kernel, by decide +kernel⟩
theorem v_4_takeOption : Jvm.Cond.instanceMethod (mY m4_takeOption) ∈ tG ∧ Jvm.Cond.selects (mY m4_takeOption).cls (mY m4_takeOption) (mY m4_takeOption) ∈ tG := ⟨tG_of (List.mem_of_getElem? (i := 603) (by decide +kernel)) (by decide +kernel), tG_of (List.mem_of_getElem? (i := 23) (by decide +kernel)) (by decide +kernel)⟩
theorem lk_X4_78 : Lk RX4 78 m4_takeOption 0 := ⟨ok_4_takeOption, tG_of (List.mem_of_getElem? (i := 601) (by decide +kernel)) (by decide +kernel), by decide +kernel, by decide⟩
theorem ok_4_takeNumber : MOK m4_takeNumber := ⟨by decide +kernel, tG_of (List.mem_of_getElem? (i := 576) (by decide +kernel)) (by decide +kernel), tG_of (List.mem_of_getElem? (i := 26) (by decide +kernel)) (by decide +kernel), by decide +kernel, by decide +kernel⟩
theorem v_4_takeNumber : Jvm.Cond.instanceMethod (mY m4_takeNumber) ∈ tG ∧ Jvm.Cond.selects (mY m4_takeNumber).cls (mY m4_takeNumber) (mY m4_takeNumber) ∈ tG := ⟨tG_of (List.mem_of_getElem? (i := 575) (by decide +kernel)) (by decide +kernel), tG_of (List.mem_of_getElem? (i := 16) (by decide +kernel)) (by decide +kernel)⟩
theorem lk_X4_81 : Lk RX4 81 m4_takeNumber 1 := ⟨ok_4_takeNumber, tG_of (List.mem_of_getElem? (i := 573) (by decide +kernel)) (by decide +kernel), by decide +kernel, by decide⟩
theorem f_X4_84 : FL RX4 84 4 4 := ⟨RX4, TX4, 5, rfl, by decide, inGX4, tG_of (List.mem_of_getElem? (i := 87) (by decide +kernel)) (by decide +kernel)⟩
theorem ok_3_addOption : MOK m3_addOption := ⟨by decide +kernel, tG_of (List.mem_of_getElem? (i := 608) (by decide +kernel)) (by decide +kernel), tG_of (List.mem_of_getElem? (i := 27) (by decide +kernel)) (by decide +kernel), by decide +kernel, by decide +kernel⟩
theorem v_3_addOption : Jvm.Cond.instanceMethod (mY m3_addOption) ∈ tG ∧ Jvm.Cond.selects (mY m3_addOption).cls (mY m3_addOption) (mY m3_addOption) ∈ tG := ⟨tG_of (List.mem_of_getElem? (i := 606) (by decide +kernel)) (by decide +kernel), tG_of (List.mem_of_getElem? (i := 607) (by decide +kernel)) (by decide +kernel)⟩
theorem lk_X4_87 : Lk RX4 87 m3_addOption 3 := ⟨ok_3_addOption, tG_of (List.mem_of_getElem? (i := 605) (by decide +kernel)) (by decide +kernel), by decide +kernel, by decide⟩
theorem ok_4_takeDigit : MOK m4_takeDigit := ⟨by decide +kernel, tG_of (List.mem_of_getElem? (i := 588) (by decide +kernel)) (by decide +kernel), tG_of (List.mem_of_getElem? (i := 26) (by decide +kernel)) (by decide +kernel), by decide +kernel, by decide +kernel⟩
theorem v_4_takeDigit : Jvm.Cond.instanceMethod (mY m4_takeDigit) ∈ tG ∧ Jvm.Cond.selects (mY m4_takeDigit).cls (mY m4_takeDigit) (mY m4_takeDigit) ∈ tG := ⟨tG_of (List.mem_of_getElem? (i := 587) (by decide +kernel)) (by decide +kernel), tG_of (List.mem_of_getElem? (i := 19) (by decide +kernel)) (by decide +kernel)⟩
theorem lk_X4_91 : Lk RX4 91 m4_takeDigit 1 := ⟨ok_4_takeDigit, tG_of (List.mem_of_getElem? (i := 585) (by decide +kernel)) (by decide +kernel), by decide +kernel, by decide⟩
theorem ok_3_addNumber : MOK m3_addNumber := ⟨by decide +kernel, tG_of (List.mem_of_getElem? (i := 568) (by decide +kernel)) (by decide +kernel), tG_of (List.mem_of_getElem? (i := 27) (by decide +kernel)) (by decide +kernel), by decide +kernel, by decide +kernel⟩
theorem v_3_addNumber : Jvm.Cond.instanceMethod (mY m3_addNumber) ∈ tG ∧ Jvm.Cond.selects (mY m3_addNumber).cls (mY m3_addNumber) (mY m3_addNumber) ∈ tG := ⟨tG_of (List.mem_of_getElem? (i := 566) (by decide +kernel)) (by decide +kernel), tG_of (List.mem_of_getElem? (i := 567) (by decide +kernel)) (by decide +kernel)⟩
theorem lk_X4_94 : Lk RX4 94 m3_addNumber 1 := ⟨ok_3_addNumber, tG_of (List.mem_of_getElem? (i := 565) (by decide +kernel)) (by decide +kernel), by decide +kernel, by decide⟩
theorem p_X4_X4_4 : FP RX4 4 4 .int false := ⟨RX4, TX4, 5, tyX4, rfl, tyX4_ok, nmX4, by decide +kernel, rfl, fun q => by cases q⟩
theorem ok_4_isAtDigit : MOK m4_isAtDigit := ⟨by decide +kernel, tG_of (List.mem_of_getElem? (i := 580) (by decide +kernel)) (by decide +kernel), tG_of (List.mem_of_getElem? (i := 26) (by decide +kernel)) (by decide +kernel), by decide +kernel, by decide +kernel⟩
theorem v_4_isAtDigit : Jvm.Cond.instanceMethod (mY m4_isAtDigit) ∈ tG ∧ Jvm.Cond.selects (mY m4_isAtDigit).cls (mY m4_isAtDigit) (mY m4_isAtDigit) ∈ tG := ⟨tG_of (List.mem_of_getElem? (i := 579) (by decide +kernel)) (by decide +kernel), tG_of (List.mem_of_getElem? (i := 17) (by decide +kernel)) (by decide +kernel)⟩
theorem lk_X4_96 : Lk RX4 96 m4_isAtDigit 0 := ⟨ok_4_isAtDigit, tG_of (List.mem_of_getElem? (i := 577) (by decide +kernel)) (by decide +kernel), by decide +kernel, by decide⟩
theorem oi_X5_3 : Jvm.Cond.methodLink RX5 3 objectInit ∈ tG := tG_of (List.mem_of_getElem? (i := 44) (by decide +kernel)) (by decide +kernel)
theorem nw_X4 : (∀ j, j < 5 → ([vI 0, vN, vN, vI 0, vI 0] : List AV)[j]? = some (dfv (tyX4 j)) ∧ ∀ G : GD, cv G (dfv (tyX4 j)) = defaultValue (tyX4 j)) ∧ (∀ v ∈ ([vI 0, vN, vN, vI 0, vI 0] : List AV), vok v) := by
  refine ⟨fun j hj => ?_, fun v hv => ?_⟩
  · rcases (by omega : j = 0 ∨ j = 1 ∨ j = 2 ∨ j = 3 ∨ j = 4) with rfl | rfl | rfl | rfl | rfl <;> exact ⟨rfl, fun G => rfl⟩
  · simp only [List.mem_cons, List.not_mem_nil, or_false] at hv
    rcases hv with rfl | rfl | rfl | rfl | rfl <;> first | trivial | (exact ⟨by decide, by decide⟩)
theorem ok_4_init : MOK m4_init := ⟨by decide +kernel, tG_of (List.mem_of_getElem? (i := 51) (by decide +kernel)) (by decide +kernel), tG_of (List.mem_of_getElem? (i := 26) (by decide +kernel)) (by decide +kernel), by decide +kernel, by decide +kernel⟩
theorem i_4_init : Jvm.Cond.instanceMethod (mY m4_init) ∈ tG := tG_of (List.mem_of_getElem? (i := 50) (by decide +kernel)) (by decide +kernel)
theorem f_X5_12 : FL RX5 12 5 0 := ⟨RX5, TX5, 4, rfl, by decide, inGX5, tG_of (List.mem_of_getElem? (i := 298) (by decide +kernel)) (by decide +kernel)⟩
theorem p_X5_X5_0 : FP RX5 5 0 (.object "PictureScript$Text") true := ⟨RX5, TX5, 4, tyX5, rfl, tyX5_ok, nmX5, by decide +kernel, rfl, fun _ => rfl⟩
theorem f_X5_19 : FL RX5 19 5 1 := ⟨RX5, TX5, 4, rfl, by decide, inGX5, tG_of (List.mem_of_getElem? (i := 299) (by decide +kernel)) (by decide +kernel)⟩
theorem p_X5_X5_1 : FP RX5 5 1 (.object "PictureScript$Script") false := ⟨RX5, TX5, 4, tyX5, rfl, tyX5_ok, nmX5, by decide +kernel, rfl, fun q => by cases q⟩
theorem nw_X2 : (∀ j, j < 6 → ([vN, vI 0, vI 0, vN, vN, vN] : List AV)[j]? = some (dfv (tyX2 j)) ∧ ∀ G : GD, cv G (dfv (tyX2 j)) = defaultValue (tyX2 j)) ∧ (∀ v ∈ ([vN, vI 0, vI 0, vN, vN, vN] : List AV), vok v) := by
  refine ⟨fun j hj => ?_, fun v hv => ?_⟩
  · rcases (by omega : j = 0 ∨ j = 1 ∨ j = 2 ∨ j = 3 ∨ j = 4 ∨ j = 5) with rfl | rfl | rfl | rfl | rfl | rfl <;> exact ⟨rfl, fun G => rfl⟩
  · simp only [List.mem_cons, List.not_mem_nil, or_false] at hv
    rcases hv with rfl | rfl | rfl | rfl | rfl | rfl <;> first | trivial | (exact ⟨by decide, by decide⟩)
theorem ok_2_init : MOK m2_init := ⟨by decide +kernel, tG_of (List.mem_of_getElem? (i := 105) (by decide +kernel)) (by decide +kernel), tG_of (List.mem_of_getElem? (i := 28) (by decide +kernel)) (by decide +kernel), by decide +kernel, by decide +kernel⟩
theorem i_2_init : Jvm.Cond.instanceMethod (mY m2_init) ∈ tG := tG_of (List.mem_of_getElem? (i := 104) (by decide +kernel)) (by decide +kernel)
theorem l_X5_25 : Jvm.Cond.methodLink RX5 25 (mY m2_init) ∈ tG := tG_of (List.mem_of_getElem? (i := 103) (by decide +kernel)) (by decide +kernel)
theorem f_X5_26 : FL RX5 26 5 2 := ⟨RX5, TX5, 4, rfl, by decide, inGX5, tG_of (List.mem_of_getElem? (i := 300) (by decide +kernel)) (by decide +kernel)⟩
theorem p_X5_X5_2 : FP RX5 5 2 (.object "PictureScript$Play") true := ⟨RX5, TX5, 4, tyX5, rfl, tyX5_ok, nmX5, by decide +kernel, rfl, fun _ => rfl⟩
theorem nw_X0 : (∀ j, j < 8 → ([vI 0, vN, vN, vN, vN, vI 0, vN, vN] : List AV)[j]? = some (dfv (tyX0 j)) ∧ ∀ G : GD, cv G (dfv (tyX0 j)) = defaultValue (tyX0 j)) ∧ (∀ v ∈ ([vI 0, vN, vN, vN, vN, vI 0, vN, vN] : List AV), vok v) := by
  refine ⟨fun j hj => ?_, fun v hv => ?_⟩
  · rcases (by omega : j = 0 ∨ j = 1 ∨ j = 2 ∨ j = 3 ∨ j = 4 ∨ j = 5 ∨ j = 6 ∨ j = 7) with rfl | rfl | rfl | rfl | rfl | rfl | rfl | rfl <;> exact ⟨rfl, fun G => rfl⟩
  · simp only [List.mem_cons, List.not_mem_nil, or_false] at hv
    rcases hv with rfl | rfl | rfl | rfl | rfl | rfl | rfl | rfl <;> first | trivial | (exact ⟨by decide, by decide⟩)
theorem ok_0_init : MOK m0_init := ⟨by decide +kernel, tG_of (List.mem_of_getElem? (i := 160) (by decide +kernel)) (by decide +kernel), tG_of (List.mem_of_getElem? (i := 30) (by decide +kernel)) (by decide +kernel), by decide +kernel, by decide +kernel⟩
theorem i_0_init : Jvm.Cond.instanceMethod (mY m0_init) ∈ tG := tG_of (List.mem_of_getElem? (i := 159) (by decide +kernel)) (by decide +kernel)
theorem f_X5_33 : FL RX5 33 5 3 := ⟨RX5, TX5, 4, rfl, by decide, inGX5, tG_of (List.mem_of_getElem? (i := 301) (by decide +kernel)) (by decide +kernel)⟩
theorem p_X5_X5_3 : FP RX5 5 3 (.object "PictureScript$Chart") true := ⟨RX5, TX5, 4, tyX5, rfl, tyX5_ok, nmX5, by decide +kernel, rfl, fun _ => rfl⟩
theorem ok_2_startScript : MOK m2_startScript := ⟨by decide +kernel, tG_of (List.mem_of_getElem? (i := 192) (by decide +kernel)) (by decide +kernel), tG_of (List.mem_of_getElem? (i := 28) (by decide +kernel)) (by decide +kernel), by decide +kernel, by decide +kernel⟩
theorem v_2_startScript : Jvm.Cond.instanceMethod (mY m2_startScript) ∈ tG ∧ Jvm.Cond.selects (mY m2_startScript).cls (mY m2_startScript) (mY m2_startScript) ∈ tG := ⟨tG_of (List.mem_of_getElem? (i := 190) (by decide +kernel)) (by decide +kernel), tG_of (List.mem_of_getElem? (i := 191) (by decide +kernel)) (by decide +kernel)⟩
theorem lk_X5_37 : Lk RX5 37 m2_startScript 1 := ⟨ok_2_startScript, tG_of (List.mem_of_getElem? (i := 189) (by decide +kernel)) (by decide +kernel), by decide +kernel, by decide⟩
theorem ok_0_draw : MOK m0_draw := ⟨by decide +kernel, tG_of (List.mem_of_getElem? (i := 252) (by decide +kernel)) (by decide +kernel), tG_of (List.mem_of_getElem? (i := 30) (by decide +kernel)) (by decide +kernel), by decide +kernel, by decide +kernel⟩
theorem v_0_draw : Jvm.Cond.instanceMethod (mY m0_draw) ∈ tG ∧ Jvm.Cond.selects (mY m0_draw).cls (mY m0_draw) (mY m0_draw) ∈ tG := ⟨tG_of (List.mem_of_getElem? (i := 250) (by decide +kernel)) (by decide +kernel), tG_of (List.mem_of_getElem? (i := 251) (by decide +kernel)) (by decide +kernel)⟩
theorem lk_X5_41 : Lk RX5 41 m0_draw 1 := ⟨ok_0_draw, tG_of (List.mem_of_getElem? (i := 249) (by decide +kernel)) (by decide +kernel), by decide +kernel, by decide⟩
theorem ok_4_append : MOK m4_append := ⟨by decide +kernel, tG_of (List.mem_of_getElem? (i := 438) (by decide +kernel)) (by decide +kernel), tG_of (List.mem_of_getElem? (i := 26) (by decide +kernel)) (by decide +kernel), by decide +kernel, by decide +kernel⟩
theorem v_4_append : Jvm.Cond.instanceMethod (mY m4_append) ∈ tG ∧ Jvm.Cond.selects (mY m4_append).cls (mY m4_append) (mY m4_append) ∈ tG := ⟨tG_of (List.mem_of_getElem? (i := 436) (by decide +kernel)) (by decide +kernel), tG_of (List.mem_of_getElem? (i := 437) (by decide +kernel)) (by decide +kernel)⟩
theorem lk_X5_44 : Lk RX5 44 m4_append 1 := ⟨ok_4_append, tG_of (List.mem_of_getElem? (i := 435) (by decide +kernel)) (by decide +kernel), by decide +kernel, by decide⟩
theorem f_X5_48 : FL RX5 48 4 0 := ⟨RX4, TX4, 5, rfl, by decide, inGX4, tG_of (List.mem_of_getElem? (i := 82) (by decide +kernel)) (by decide +kernel)⟩
theorem p_X5_X4_0 : FP RX5 4 0 .int false := ⟨RX4, TX4, 5, tyX4, rfl, tyX4_ok, nmX4, by decide +kernel, rfl, fun q => by cases q⟩
theorem ok_4_findFault : MOK m4_findFault := ⟨by decide +kernel, tG_of (List.mem_of_getElem? (i := 449) (by decide +kernel)) (by decide +kernel), tG_of (List.mem_of_getElem? (i := 26) (by decide +kernel)) (by decide +kernel), by decide +kernel, by decide +kernel⟩
theorem v_4_findFault : Jvm.Cond.instanceMethod (mY m4_findFault) ∈ tG ∧ Jvm.Cond.selects (mY m4_findFault).cls (mY m4_findFault) (mY m4_findFault) ∈ tG := ⟨tG_of (List.mem_of_getElem? (i := 447) (by decide +kernel)) (by decide +kernel), tG_of (List.mem_of_getElem? (i := 448) (by decide +kernel)) (by decide +kernel)⟩
theorem lk_X5_52 : Lk RX5 52 m4_findFault 0 := ⟨ok_4_findFault, tG_of (List.mem_of_getElem? (i := 446) (by decide +kernel)) (by decide +kernel), by decide +kernel, by decide⟩
theorem f_X5_56 : FL RX5 56 4 2 := ⟨RX4, TX4, 5, rfl, by decide, inGX4, tG_of (List.mem_of_getElem? (i := 85) (by decide +kernel)) (by decide +kernel)⟩
theorem p_X5_X4_2 : FP RX5 4 2 (.object "PictureScript$Script") false := ⟨RX4, TX4, 5, tyX4, rfl, tyX4_ok, nmX4, by decide +kernel, rfl, fun q => by cases q⟩
theorem f_X5_59 : FL RX5 59 3 0 := ⟨RX3, TX3, 6, rfl, by decide, inGX3, tG_of (List.mem_of_getElem? (i := 60) (by decide +kernel)) (by decide +kernel)⟩
theorem lk_X5_62 : Lk RX5 62 m2_startAnew 1 := ⟨ok_2_startAnew, tG_of (List.mem_of_getElem? (i := 315) (by decide +kernel)) (by decide +kernel), by decide +kernel, by decide⟩
theorem lk_X5_65 : Lk RX5 65 m2_now 0 := ⟨ok_2_now, tG_of (List.mem_of_getElem? (i := 316) (by decide +kernel)) (by decide +kernel), by decide +kernel, by decide⟩
theorem f_X5_69 : FL RX5 69 1 0 := ⟨RX1, TX1, 4, rfl, by decide, inGX1, tG_of (List.mem_of_getElem? (i := 116) (by decide +kernel)) (by decide +kernel)⟩
theorem ok_5_isLineShown : MOK m5_isLineShown := ⟨by decide +kernel, tG_of (List.mem_of_getElem? (i := 324) (by decide +kernel)) (by decide +kernel), tG_of (List.mem_of_getElem? (i := 25) (by decide +kernel)) (by decide +kernel), by decide +kernel, by decide +kernel⟩
theorem v_5_isLineShown : Jvm.Cond.instanceMethod (mY m5_isLineShown) ∈ tG ∧ Jvm.Cond.selects (mY m5_isLineShown).cls (mY m5_isLineShown) (mY m5_isLineShown) ∈ tG := ⟨tG_of (List.mem_of_getElem? (i := 323) (by decide +kernel)) (by decide +kernel), tG_of (List.mem_of_getElem? (i := 7) (by decide +kernel)) (by decide +kernel)⟩
theorem lk_X5_74 : Lk RX5 74 m5_isLineShown 0 := ⟨ok_5_isLineShown, tG_of (List.mem_of_getElem? (i := 321) (by decide +kernel)) (by decide +kernel), by decide +kernel, by decide⟩
theorem ok_5_goOnFromLine : MOK m5_goOnFromLine := ⟨by decide +kernel, tG_of (List.mem_of_getElem? (i := 329) (by decide +kernel)) (by decide +kernel), tG_of (List.mem_of_getElem? (i := 25) (by decide +kernel)) (by decide +kernel), by decide +kernel, by decide +kernel⟩
theorem v_5_goOnFromLine : Jvm.Cond.instanceMethod (mY m5_goOnFromLine) ∈ tG ∧ Jvm.Cond.selects (mY m5_goOnFromLine).cls (mY m5_goOnFromLine) (mY m5_goOnFromLine) ∈ tG := ⟨tG_of (List.mem_of_getElem? (i := 328) (by decide +kernel)) (by decide +kernel), tG_of (List.mem_of_getElem? (i := 8) (by decide +kernel)) (by decide +kernel)⟩
theorem lk_X5_78 : Lk RX5 78 m5_goOnFromLine 0 := ⟨ok_5_goOnFromLine, tG_of (List.mem_of_getElem? (i := 326) (by decide +kernel)) (by decide +kernel), by decide +kernel, by decide⟩
theorem f_X5_81 : FL RX5 81 1 1 := ⟨RX1, TX1, 4, rfl, by decide, inGX1, tG_of (List.mem_of_getElem? (i := 120) (by decide +kernel)) (by decide +kernel)⟩
theorem lk_X5_84 : Lk RX5 84 m3_isOpen 3 := ⟨ok_3_isOpen, tG_of (List.mem_of_getElem? (i := 349) (by decide +kernel)) (by decide +kernel), by decide +kernel, by decide⟩
theorem lk_X5_88 : Lk RX5 88 m3_optionPart 3 := ⟨ok_3_optionPart, tG_of (List.mem_of_getElem? (i := 350) (by decide +kernel)) (by decide +kernel), by decide +kernel, by decide⟩
theorem ok_2_goOn : MOK m2_goOn := ⟨by decide +kernel, tG_of (List.mem_of_getElem? (i := 333) (by decide +kernel)) (by decide +kernel), tG_of (List.mem_of_getElem? (i := 28) (by decide +kernel)) (by decide +kernel), by decide +kernel, by decide +kernel⟩
theorem v_2_goOn : Jvm.Cond.instanceMethod (mY m2_goOn) ∈ tG ∧ Jvm.Cond.selects (mY m2_goOn).cls (mY m2_goOn) (mY m2_goOn) ∈ tG := ⟨tG_of (List.mem_of_getElem? (i := 331) (by decide +kernel)) (by decide +kernel), tG_of (List.mem_of_getElem? (i := 332) (by decide +kernel)) (by decide +kernel)⟩
theorem lk_X5_92 : Lk RX5 92 m2_goOn 2 := ⟨ok_2_goOn, tG_of (List.mem_of_getElem? (i := 330) (by decide +kernel)) (by decide +kernel), by decide +kernel, by decide⟩
theorem ok_2_turnBack : MOK m2_turnBack := ⟨by decide +kernel, tG_of (List.mem_of_getElem? (i := 358) (by decide +kernel)) (by decide +kernel), tG_of (List.mem_of_getElem? (i := 28) (by decide +kernel)) (by decide +kernel), by decide +kernel, by decide +kernel⟩
theorem v_2_turnBack : Jvm.Cond.instanceMethod (mY m2_turnBack) ∈ tG ∧ Jvm.Cond.selects (mY m2_turnBack).cls (mY m2_turnBack) (mY m2_turnBack) ∈ tG := ⟨tG_of (List.mem_of_getElem? (i := 356) (by decide +kernel)) (by decide +kernel), tG_of (List.mem_of_getElem? (i := 357) (by decide +kernel)) (by decide +kernel)⟩
theorem lk_X5_96 : Lk RX5 96 m2_turnBack 1 := ⟨ok_2_turnBack, tG_of (List.mem_of_getElem? (i := 355) (by decide +kernel)) (by decide +kernel), by decide +kernel, by decide⟩
theorem ok_2_turnForth : MOK m2_turnForth := ⟨by decide +kernel, tG_of (List.mem_of_getElem? (i := 366) (by decide +kernel)) (by decide +kernel), tG_of (List.mem_of_getElem? (i := 28) (by decide +kernel)) (by decide +kernel), by decide +kernel, by decide +kernel⟩
theorem v_2_turnForth : Jvm.Cond.instanceMethod (mY m2_turnForth) ∈ tG ∧ Jvm.Cond.selects (mY m2_turnForth).cls (mY m2_turnForth) (mY m2_turnForth) ∈ tG := ⟨tG_of (List.mem_of_getElem? (i := 364) (by decide +kernel)) (by decide +kernel), tG_of (List.mem_of_getElem? (i := 365) (by decide +kernel)) (by decide +kernel)⟩
theorem lk_X5_100 : Lk RX5 100 m2_turnForth 0 := ⟨ok_2_turnForth, tG_of (List.mem_of_getElem? (i := 363) (by decide +kernel)) (by decide +kernel), by decide +kernel, by decide⟩
theorem ok_2_keepIn : MOK m2_keepIn := ⟨by decide +kernel, tG_of (List.mem_of_getElem? (i := 374) (by decide +kernel)) (by decide +kernel), tG_of (List.mem_of_getElem? (i := 28) (by decide +kernel)) (by decide +kernel), by decide +kernel, by decide +kernel⟩
theorem v_2_keepIn : Jvm.Cond.instanceMethod (mY m2_keepIn) ∈ tG ∧ Jvm.Cond.selects (mY m2_keepIn).cls (mY m2_keepIn) (mY m2_keepIn) ∈ tG := ⟨tG_of (List.mem_of_getElem? (i := 372) (by decide +kernel)) (by decide +kernel), tG_of (List.mem_of_getElem? (i := 373) (by decide +kernel)) (by decide +kernel)⟩
theorem lk_X5_103 : Lk RX5 103 m2_keepIn 1 := ⟨ok_2_keepIn, tG_of (List.mem_of_getElem? (i := 371) (by decide +kernel)) (by decide +kernel), by decide +kernel, by decide⟩
theorem ok_2_takeFrom : MOK m2_takeFrom := ⟨by decide +kernel, tG_of (List.mem_of_getElem? (i := 382) (by decide +kernel)) (by decide +kernel), tG_of (List.mem_of_getElem? (i := 28) (by decide +kernel)) (by decide +kernel), by decide +kernel, by decide +kernel⟩
theorem v_2_takeFrom : Jvm.Cond.instanceMethod (mY m2_takeFrom) ∈ tG ∧ Jvm.Cond.selects (mY m2_takeFrom).cls (mY m2_takeFrom) (mY m2_takeFrom) ∈ tG := ⟨tG_of (List.mem_of_getElem? (i := 380) (by decide +kernel)) (by decide +kernel), tG_of (List.mem_of_getElem? (i := 381) (by decide +kernel)) (by decide +kernel)⟩
theorem lk_X5_107 : Lk RX5 107 m2_takeFrom 1 := ⟨ok_2_takeFrom, tG_of (List.mem_of_getElem? (i := 379) (by decide +kernel)) (by decide +kernel), by decide +kernel, by decide⟩
theorem lk_X5_110 : Lk RX5 110 m3_shownKind 1 := ⟨ok_3_shownKind, tG_of (List.mem_of_getElem? (i := 325) (by decide +kernel)) (by decide +kernel), by decide +kernel, by decide⟩
theorem lk_X5_114 : Lk RX5 114 m3_numberOf 2 := ⟨ok_3_numberOf, tG_of (List.mem_of_getElem? (i := 387) (by decide +kernel)) (by decide +kernel), by decide +kernel, by decide⟩
theorem lk_X5_118 : Lk RX5 118 m3_shownNumber 1 := ⟨ok_3_shownNumber, tG_of (List.mem_of_getElem? (i := 388) (by decide +kernel)) (by decide +kernel), by decide +kernel, by decide⟩
theorem ok_3_openOptions : MOK m3_openOptions := ⟨by decide +kernel, tG_of (List.mem_of_getElem? (i := 392) (by decide +kernel)) (by decide +kernel), tG_of (List.mem_of_getElem? (i := 27) (by decide +kernel)) (by decide +kernel), by decide +kernel, by decide +kernel⟩
theorem v_3_openOptions : Jvm.Cond.instanceMethod (mY m3_openOptions) ∈ tG ∧ Jvm.Cond.selects (mY m3_openOptions).cls (mY m3_openOptions) (mY m3_openOptions) ∈ tG := ⟨tG_of (List.mem_of_getElem? (i := 390) (by decide +kernel)) (by decide +kernel), tG_of (List.mem_of_getElem? (i := 391) (by decide +kernel)) (by decide +kernel)⟩
theorem lk_X5_121 : Lk RX5 121 m3_openOptions 2 := ⟨ok_3_openOptions, tG_of (List.mem_of_getElem? (i := 389) (by decide +kernel)) (by decide +kernel), by decide +kernel, by decide⟩
theorem f_X5_124 : FL RX5 124 1 3 := ⟨RX1, TX1, 4, rfl, by decide, inGX1, tG_of (List.mem_of_getElem? (i := 124) (by decide +kernel)) (by decide +kernel)⟩
theorem f_X5_128 : FL RX5 128 1 2 := ⟨RX1, TX1, 4, rfl, by decide, inGX1, tG_of (List.mem_of_getElem? (i := 122) (by decide +kernel)) (by decide +kernel)⟩
theorem f_X5_159 : FL RX5 159 2 2 := ⟨RX2, TX2, 6, rfl, by decide, inGX2, tG_of (List.mem_of_getElem? (i := 139) (by decide +kernel)) (by decide +kernel)⟩
theorem f_X5_162 : FL RX5 162 2 1 := ⟨RX2, TX2, 6, rfl, by decide, inGX2, tG_of (List.mem_of_getElem? (i := 137) (by decide +kernel)) (by decide +kernel)⟩
theorem ok_2_seenNodes : MOK m2_seenNodes := ⟨by decide +kernel, tG_of (List.mem_of_getElem? (i := 401) (by decide +kernel)) (by decide +kernel), tG_of (List.mem_of_getElem? (i := 28) (by decide +kernel)) (by decide +kernel), by decide +kernel, by decide +kernel⟩
theorem v_2_seenNodes : Jvm.Cond.instanceMethod (mY m2_seenNodes) ∈ tG ∧ Jvm.Cond.selects (mY m2_seenNodes).cls (mY m2_seenNodes) (mY m2_seenNodes) ∈ tG := ⟨tG_of (List.mem_of_getElem? (i := 399) (by decide +kernel)) (by decide +kernel), tG_of (List.mem_of_getElem? (i := 400) (by decide +kernel)) (by decide +kernel)⟩
theorem lk_X5_165 : Lk RX5 165 m2_seenNodes 0 := ⟨ok_2_seenNodes, tG_of (List.mem_of_getElem? (i := 398) (by decide +kernel)) (by decide +kernel), by decide +kernel, by decide⟩
theorem ok_2_usedSlots : MOK m2_usedSlots := ⟨by decide +kernel, tG_of (List.mem_of_getElem? (i := 405) (by decide +kernel)) (by decide +kernel), tG_of (List.mem_of_getElem? (i := 28) (by decide +kernel)) (by decide +kernel), by decide +kernel, by decide +kernel⟩
theorem v_2_usedSlots : Jvm.Cond.instanceMethod (mY m2_usedSlots) ∈ tG ∧ Jvm.Cond.selects (mY m2_usedSlots).cls (mY m2_usedSlots) (mY m2_usedSlots) ∈ tG := ⟨tG_of (List.mem_of_getElem? (i := 403) (by decide +kernel)) (by decide +kernel), tG_of (List.mem_of_getElem? (i := 404) (by decide +kernel)) (by decide +kernel)⟩
theorem lk_X5_168 : Lk RX5 168 m2_usedSlots 0 := ⟨ok_2_usedSlots, tG_of (List.mem_of_getElem? (i := 402) (by decide +kernel)) (by decide +kernel), by decide +kernel, by decide⟩
theorem ok_0_reachedEnds : MOK m0_reachedEnds := ⟨by decide +kernel, tG_of (List.mem_of_getElem? (i := 409) (by decide +kernel)) (by decide +kernel), tG_of (List.mem_of_getElem? (i := 30) (by decide +kernel)) (by decide +kernel), by decide +kernel, by decide +kernel⟩
theorem v_0_reachedEnds : Jvm.Cond.instanceMethod (mY m0_reachedEnds) ∈ tG ∧ Jvm.Cond.selects (mY m0_reachedEnds).cls (mY m0_reachedEnds) (mY m0_reachedEnds) ∈ tG := ⟨tG_of (List.mem_of_getElem? (i := 407) (by decide +kernel)) (by decide +kernel), tG_of (List.mem_of_getElem? (i := 408) (by decide +kernel)) (by decide +kernel)⟩
theorem lk_X5_171 : Lk RX5 171 m0_reachedEnds 0 := ⟨ok_0_reachedEnds, tG_of (List.mem_of_getElem? (i := 406) (by decide +kernel)) (by decide +kernel), by decide +kernel, by decide⟩
theorem ok_L_shownKind : MOK mL_shownKind := ⟨by decide +kernel, tG_of (List.mem_of_getElem? (i := 420) (by decide +kernel)) (by decide +kernel), tG_of (List.mem_of_getElem? (i := 24) (by decide +kernel)) (by decide +kernel), by decide +kernel, by decide +kernel⟩
theorem s_L_shownKind : Jvm.Cond.static (mY mL_shownKind) ∈ tG := tG_of (List.mem_of_getElem? (i := 419) (by decide +kernel)) (by decide +kernel)
theorem lk_L_9 : Lk RL 9 mL_shownKind 2 := ⟨ok_L_shownKind, tG_of (List.mem_of_getElem? (i := 418) (by decide +kernel)) (by decide +kernel), by decide +kernel, by decide⟩
theorem ok_L_without : MOK mL_without := ⟨by decide +kernel, tG_of (List.mem_of_getElem? (i := 646) (by decide +kernel)) (by decide +kernel), tG_of (List.mem_of_getElem? (i := 24) (by decide +kernel)) (by decide +kernel), by decide +kernel, by decide +kernel⟩
theorem s_L_without : Jvm.Cond.static (mY mL_without) ∈ tG := tG_of (List.mem_of_getElem? (i := 645) (by decide +kernel)) (by decide +kernel)
theorem lk_L_15 : Lk RL 15 mL_without 2 := ⟨ok_L_without, tG_of (List.mem_of_getElem? (i := 644) (by decide +kernel)) (by decide +kernel), by decide +kernel, by decide⟩
theorem ok_L_isOpen : MOK mL_isOpen := ⟨by decide +kernel, tG_of (List.mem_of_getElem? (i := 624) (by decide +kernel)) (by decide +kernel), tG_of (List.mem_of_getElem? (i := 24) (by decide +kernel)) (by decide +kernel), by decide +kernel, by decide +kernel⟩
theorem s_L_isOpen : Jvm.Cond.static (mY mL_isOpen) ∈ tG := tG_of (List.mem_of_getElem? (i := 623) (by decide +kernel)) (by decide +kernel)
theorem lk_L_19 : Lk RL 19 mL_isOpen 4 := ⟨ok_L_isOpen, tG_of (List.mem_of_getElem? (i := 622) (by decide +kernel)) (by decide +kernel), by decide +kernel, by decide⟩
theorem ok_5_type : MOK m5_type := ⟨by decide +kernel, tG_of (List.mem_of_getElem? (i := 434) (by decide +kernel)) (by decide +kernel), tG_of (List.mem_of_getElem? (i := 25) (by decide +kernel)) (by decide +kernel), by decide +kernel, by decide +kernel⟩
theorem v_5_type : Jvm.Cond.instanceMethod (mY m5_type) ∈ tG ∧ Jvm.Cond.selects (mY m5_type).cls (mY m5_type) (mY m5_type) ∈ tG := ⟨tG_of (List.mem_of_getElem? (i := 432) (by decide +kernel)) (by decide +kernel), tG_of (List.mem_of_getElem? (i := 433) (by decide +kernel)) (by decide +kernel)⟩
theorem lk_L_23 : Lk RL 23 m5_type 1 := ⟨ok_5_type, tG_of (List.mem_of_getElem? (i := 431) (by decide +kernel)) (by decide +kernel), by decide +kernel, by decide⟩
theorem ok_L_low : MOK mL_low := ⟨by decide +kernel, tG_of (List.mem_of_getElem? (i := 416) (by decide +kernel)) (by decide +kernel), tG_of (List.mem_of_getElem? (i := 24) (by decide +kernel)) (by decide +kernel), by decide +kernel, by decide +kernel⟩
theorem s_L_low : Jvm.Cond.static (mY mL_low) ∈ tG := tG_of (List.mem_of_getElem? (i := 415) (by decide +kernel)) (by decide +kernel)
theorem lk_L_29 : Lk RL 29 mL_low 2 := ⟨ok_L_low, tG_of (List.mem_of_getElem? (i := 414) (by decide +kernel)) (by decide +kernel), by decide +kernel, by decide⟩
theorem ok_L_typesNumber : MOK mL_typesNumber := ⟨by decide +kernel, tG_of (List.mem_of_getElem? (i := 441) (by decide +kernel)) (by decide +kernel), tG_of (List.mem_of_getElem? (i := 24) (by decide +kernel)) (by decide +kernel), by decide +kernel, by decide +kernel⟩
theorem s_L_typesNumber : Jvm.Cond.static (mY mL_typesNumber) ∈ tG := tG_of (List.mem_of_getElem? (i := 440) (by decide +kernel)) (by decide +kernel)
theorem lk_L_32 : Lk RL 32 mL_typesNumber 2 := ⟨ok_L_typesNumber, tG_of (List.mem_of_getElem? (i := 439) (by decide +kernel)) (by decide +kernel), by decide +kernel, by decide⟩
theorem ok_5_fault : MOK m5_fault := ⟨by decide +kernel, tG_of (List.mem_of_getElem? (i := 445) (by decide +kernel)) (by decide +kernel), tG_of (List.mem_of_getElem? (i := 25) (by decide +kernel)) (by decide +kernel), by decide +kernel, by decide +kernel⟩
theorem v_5_fault : Jvm.Cond.instanceMethod (mY m5_fault) ∈ tG ∧ Jvm.Cond.selects (mY m5_fault).cls (mY m5_fault) (mY m5_fault) ∈ tG := ⟨tG_of (List.mem_of_getElem? (i := 443) (by decide +kernel)) (by decide +kernel), tG_of (List.mem_of_getElem? (i := 444) (by decide +kernel)) (by decide +kernel)⟩
theorem lk_L_36 : Lk RL 36 m5_fault 0 := ⟨ok_5_fault, tG_of (List.mem_of_getElem? (i := 442) (by decide +kernel)) (by decide +kernel), by decide +kernel, by decide⟩
theorem ok_5_count : MOK m5_count := ⟨by decide +kernel, tG_of (List.mem_of_getElem? (i := 397) (by decide +kernel)) (by decide +kernel), tG_of (List.mem_of_getElem? (i := 25) (by decide +kernel)) (by decide +kernel), by decide +kernel, by decide +kernel⟩
theorem v_5_count : Jvm.Cond.instanceMethod (mY m5_count) ∈ tG ∧ Jvm.Cond.selects (mY m5_count).cls (mY m5_count) (mY m5_count) ∈ tG := ⟨tG_of (List.mem_of_getElem? (i := 395) (by decide +kernel)) (by decide +kernel), tG_of (List.mem_of_getElem? (i := 396) (by decide +kernel)) (by decide +kernel)⟩
theorem lk_L_40 : Lk RL 40 m5_count 1 := ⟨ok_5_count, tG_of (List.mem_of_getElem? (i := 394) (by decide +kernel)) (by decide +kernel), by decide +kernel, by decide⟩
theorem ok_5_clearText : MOK m5_clearText := ⟨by decide +kernel, tG_of (List.mem_of_getElem? (i := 427) (by decide +kernel)) (by decide +kernel), tG_of (List.mem_of_getElem? (i := 25) (by decide +kernel)) (by decide +kernel), by decide +kernel, by decide +kernel⟩
theorem v_5_clearText : Jvm.Cond.instanceMethod (mY m5_clearText) ∈ tG ∧ Jvm.Cond.selects (mY m5_clearText).cls (mY m5_clearText) (mY m5_clearText) ∈ tG := ⟨tG_of (List.mem_of_getElem? (i := 425) (by decide +kernel)) (by decide +kernel), tG_of (List.mem_of_getElem? (i := 426) (by decide +kernel)) (by decide +kernel)⟩
theorem lk_L_43 : Lk RL 43 m5_clearText 0 := ⟨ok_5_clearText, tG_of (List.mem_of_getElem? (i := 424) (by decide +kernel)) (by decide +kernel), by decide +kernel, by decide⟩
theorem ok_L_cell : MOK mL_cell := ⟨by decide +kernel, tG_of (List.mem_of_getElem? (i := 412) (by decide +kernel)) (by decide +kernel), tG_of (List.mem_of_getElem? (i := 24) (by decide +kernel)) (by decide +kernel), by decide +kernel, by decide +kernel⟩
theorem s_L_cell : Jvm.Cond.static (mY mL_cell) ∈ tG := tG_of (List.mem_of_getElem? (i := 411) (by decide +kernel)) (by decide +kernel)
theorem lk_L_46 : Lk RL 46 mL_cell 2 := ⟨ok_L_cell, tG_of (List.mem_of_getElem? (i := 410) (by decide +kernel)) (by decide +kernel), by decide +kernel, by decide⟩
theorem ok_L_typesNode : MOK mL_typesNode := ⟨by decide +kernel, tG_of (List.mem_of_getElem? (i := 430) (by decide +kernel)) (by decide +kernel), tG_of (List.mem_of_getElem? (i := 24) (by decide +kernel)) (by decide +kernel), by decide +kernel, by decide +kernel⟩
theorem s_L_typesNode : Jvm.Cond.static (mY mL_typesNode) ∈ tG := tG_of (List.mem_of_getElem? (i := 429) (by decide +kernel)) (by decide +kernel)
theorem lk_L_49 : Lk RL 49 mL_typesNode 6 := ⟨ok_L_typesNode, tG_of (List.mem_of_getElem? (i := 428) (by decide +kernel)) (by decide +kernel), by decide +kernel, by decide⟩
theorem ok_5_read : MOK m5_read := ⟨by decide +kernel, tG_of (List.mem_of_getElem? (i := 612) (by decide +kernel)) (by decide +kernel), tG_of (List.mem_of_getElem? (i := 25) (by decide +kernel)) (by decide +kernel), by decide +kernel, by decide +kernel⟩
theorem v_5_read : Jvm.Cond.instanceMethod (mY m5_read) ∈ tG ∧ Jvm.Cond.selects (mY m5_read).cls (mY m5_read) (mY m5_read) ∈ tG := ⟨tG_of (List.mem_of_getElem? (i := 610) (by decide +kernel)) (by decide +kernel), tG_of (List.mem_of_getElem? (i := 611) (by decide +kernel)) (by decide +kernel)⟩
theorem lk_L_53 : Lk RL 53 m5_read 0 := ⟨ok_5_read, tG_of (List.mem_of_getElem? (i := 609) (by decide +kernel)) (by decide +kernel), by decide +kernel, by decide⟩
theorem ok_L_endOf : MOK mL_endOf := ⟨by decide +kernel, tG_of (List.mem_of_getElem? (i := 618) (by decide +kernel)) (by decide +kernel), tG_of (List.mem_of_getElem? (i := 24) (by decide +kernel)) (by decide +kernel), by decide +kernel, by decide +kernel⟩
theorem s_L_endOf : Jvm.Cond.static (mY mL_endOf) ∈ tG := tG_of (List.mem_of_getElem? (i := 617) (by decide +kernel)) (by decide +kernel)
theorem lk_L_56 : Lk RL 56 mL_endOf 2 := ⟨ok_L_endOf, tG_of (List.mem_of_getElem? (i := 616) (by decide +kernel)) (by decide +kernel), by decide +kernel, by decide⟩
theorem ok_5_shown : MOK m5_shown := ⟨by decide +kernel, tG_of (List.mem_of_getElem? (i := 386) (by decide +kernel)) (by decide +kernel), tG_of (List.mem_of_getElem? (i := 25) (by decide +kernel)) (by decide +kernel), by decide +kernel, by decide +kernel⟩
theorem v_5_shown : Jvm.Cond.instanceMethod (mY m5_shown) ∈ tG ∧ Jvm.Cond.selects (mY m5_shown).cls (mY m5_shown) (mY m5_shown) ∈ tG := ⟨tG_of (List.mem_of_getElem? (i := 384) (by decide +kernel)) (by decide +kernel), tG_of (List.mem_of_getElem? (i := 385) (by decide +kernel)) (by decide +kernel)⟩
theorem lk_L_59 : Lk RL 59 m5_shown 1 := ⟨ok_5_shown, tG_of (List.mem_of_getElem? (i := 383) (by decide +kernel)) (by decide +kernel), by decide +kernel, by decide⟩
theorem ok_L_openOnes : MOK mL_openOnes := ⟨by decide +kernel, tG_of (List.mem_of_getElem? (i := 621) (by decide +kernel)) (by decide +kernel), tG_of (List.mem_of_getElem? (i := 24) (by decide +kernel)) (by decide +kernel), by decide +kernel, by decide +kernel⟩
theorem s_L_openOnes : Jvm.Cond.static (mY mL_openOnes) ∈ tG := tG_of (List.mem_of_getElem? (i := 620) (by decide +kernel)) (by decide +kernel)
theorem lk_L_62 : Lk RL 62 mL_openOnes 3 := ⟨ok_L_openOnes, tG_of (List.mem_of_getElem? (i := 619) (by decide +kernel)) (by decide +kernel), by decide +kernel, by decide⟩
theorem ok_5_portrait : MOK m5_portrait := ⟨by decide +kernel, tG_of (List.mem_of_getElem? (i := 628) (by decide +kernel)) (by decide +kernel), tG_of (List.mem_of_getElem? (i := 25) (by decide +kernel)) (by decide +kernel), by decide +kernel, by decide +kernel⟩
theorem v_5_portrait : Jvm.Cond.instanceMethod (mY m5_portrait) ∈ tG ∧ Jvm.Cond.selects (mY m5_portrait).cls (mY m5_portrait) (mY m5_portrait) ∈ tG := ⟨tG_of (List.mem_of_getElem? (i := 626) (by decide +kernel)) (by decide +kernel), tG_of (List.mem_of_getElem? (i := 627) (by decide +kernel)) (by decide +kernel)⟩
theorem lk_L_66 : Lk RL 66 m5_portrait 2 := ⟨ok_5_portrait, tG_of (List.mem_of_getElem? (i := 625) (by decide +kernel)) (by decide +kernel), by decide +kernel, by decide⟩
theorem ok_L_carries : MOK mL_carries := ⟨by decide +kernel, tG_of (List.mem_of_getElem? (i := 643) (by decide +kernel)) (by decide +kernel), tG_of (List.mem_of_getElem? (i := 24) (by decide +kernel)) (by decide +kernel), by decide +kernel, by decide +kernel⟩
theorem s_L_carries : Jvm.Cond.static (mY mL_carries) ∈ tG := tG_of (List.mem_of_getElem? (i := 642) (by decide +kernel)) (by decide +kernel)
theorem lk_L_70 : Lk RL 70 mL_carries 3 := ⟨ok_L_carries, tG_of (List.mem_of_getElem? (i := 641) (by decide +kernel)) (by decide +kernel), by decide +kernel, by decide⟩
theorem ok_L_begins : MOK mL_begins := ⟨by decide +kernel, tG_of (List.mem_of_getElem? (i := 640) (by decide +kernel)) (by decide +kernel), tG_of (List.mem_of_getElem? (i := 24) (by decide +kernel)) (by decide +kernel), by decide +kernel, by decide +kernel⟩
theorem s_L_begins : Jvm.Cond.static (mY mL_begins) ∈ tG := tG_of (List.mem_of_getElem? (i := 639) (by decide +kernel)) (by decide +kernel)
theorem lk_L_74 : Lk RL 74 mL_begins 2 := ⟨ok_L_begins, tG_of (List.mem_of_getElem? (i := 638) (by decide +kernel)) (by decide +kernel), by decide +kernel, by decide⟩
theorem ok_L_puts : MOK mL_puts := ⟨by decide +kernel, tG_of (List.mem_of_getElem? (i := 634) (by decide +kernel)) (by decide +kernel), tG_of (List.mem_of_getElem? (i := 24) (by decide +kernel)) (by decide +kernel), by decide +kernel, by decide +kernel⟩
theorem s_L_puts : Jvm.Cond.static (mY mL_puts) ∈ tG := tG_of (List.mem_of_getElem? (i := 633) (by decide +kernel)) (by decide +kernel)
theorem lk_L_78 : Lk RL 78 mL_puts 2 := ⟨ok_L_puts, tG_of (List.mem_of_getElem? (i := 632) (by decide +kernel)) (by decide +kernel), by decide +kernel, by decide⟩
theorem ok_5_go : MOK m5_go := ⟨by decide +kernel, tG_of (List.mem_of_getElem? (i := 320) (by decide +kernel)) (by decide +kernel), tG_of (List.mem_of_getElem? (i := 25) (by decide +kernel)) (by decide +kernel), by decide +kernel, by decide +kernel⟩
theorem v_5_go : Jvm.Cond.instanceMethod (mY m5_go) ∈ tG ∧ Jvm.Cond.selects (mY m5_go).cls (mY m5_go) (mY m5_go) ∈ tG := ⟨tG_of (List.mem_of_getElem? (i := 318) (by decide +kernel)) (by decide +kernel), tG_of (List.mem_of_getElem? (i := 319) (by decide +kernel)) (by decide +kernel)⟩
theorem lk_L_81 : Lk RL 81 m5_go 0 := ⟨ok_5_go, tG_of (List.mem_of_getElem? (i := 317) (by decide +kernel)) (by decide +kernel), by decide +kernel, by decide⟩
theorem ok_5_skip : MOK m5_skip := ⟨by decide +kernel, tG_of (List.mem_of_getElem? (i := 653) (by decide +kernel)) (by decide +kernel), tG_of (List.mem_of_getElem? (i := 25) (by decide +kernel)) (by decide +kernel), by decide +kernel, by decide +kernel⟩
theorem v_5_skip : Jvm.Cond.instanceMethod (mY m5_skip) ∈ tG ∧ Jvm.Cond.selects (mY m5_skip).cls (mY m5_skip) (mY m5_skip) ∈ tG := ⟨tG_of (List.mem_of_getElem? (i := 651) (by decide +kernel)) (by decide +kernel), tG_of (List.mem_of_getElem? (i := 652) (by decide +kernel)) (by decide +kernel)⟩
theorem lk_L_84 : Lk RL 84 m5_skip 0 := ⟨ok_5_skip, tG_of (List.mem_of_getElem? (i := 650) (by decide +kernel)) (by decide +kernel), by decide +kernel, by decide⟩
theorem ok_5_choose : MOK m5_choose := ⟨by decide +kernel, tG_of (List.mem_of_getElem? (i := 348) (by decide +kernel)) (by decide +kernel), tG_of (List.mem_of_getElem? (i := 25) (by decide +kernel)) (by decide +kernel), by decide +kernel, by decide +kernel⟩
theorem v_5_choose : Jvm.Cond.instanceMethod (mY m5_choose) ∈ tG ∧ Jvm.Cond.selects (mY m5_choose).cls (mY m5_choose) (mY m5_choose) ∈ tG := ⟨tG_of (List.mem_of_getElem? (i := 346) (by decide +kernel)) (by decide +kernel), tG_of (List.mem_of_getElem? (i := 347) (by decide +kernel)) (by decide +kernel)⟩
theorem lk_L_87 : Lk RL 87 m5_choose 1 := ⟨ok_5_choose, tG_of (List.mem_of_getElem? (i := 345) (by decide +kernel)) (by decide +kernel), by decide +kernel, by decide⟩
theorem ok_L_low5 : MOK mL_low5 := ⟨by decide +kernel, tG_of (List.mem_of_getElem? (i := 662) (by decide +kernel)) (by decide +kernel), tG_of (List.mem_of_getElem? (i := 24) (by decide +kernel)) (by decide +kernel), by decide +kernel, by decide +kernel⟩
theorem s_L_low5 : Jvm.Cond.static (mY mL_low5) ∈ tG := tG_of (List.mem_of_getElem? (i := 661) (by decide +kernel)) (by decide +kernel)
theorem lk_L_90 : Lk RL 90 mL_low5 2 := ⟨ok_L_low5, tG_of (List.mem_of_getElem? (i := 660) (by decide +kernel)) (by decide +kernel), by decide +kernel, by decide⟩
theorem ok_5_back : MOK m5_back := ⟨by decide +kernel, tG_of (List.mem_of_getElem? (i := 354) (by decide +kernel)) (by decide +kernel), tG_of (List.mem_of_getElem? (i := 25) (by decide +kernel)) (by decide +kernel), by decide +kernel, by decide +kernel⟩
theorem v_5_back : Jvm.Cond.instanceMethod (mY m5_back) ∈ tG ∧ Jvm.Cond.selects (mY m5_back).cls (mY m5_back) (mY m5_back) ∈ tG := ⟨tG_of (List.mem_of_getElem? (i := 352) (by decide +kernel)) (by decide +kernel), tG_of (List.mem_of_getElem? (i := 353) (by decide +kernel)) (by decide +kernel)⟩
theorem lk_L_93 : Lk RL 93 m5_back 1 := ⟨ok_5_back, tG_of (List.mem_of_getElem? (i := 351) (by decide +kernel)) (by decide +kernel), by decide +kernel, by decide⟩
theorem ok_L_takes : MOK mL_takes := ⟨by decide +kernel, tG_of (List.mem_of_getElem? (i := 631) (by decide +kernel)) (by decide +kernel), tG_of (List.mem_of_getElem? (i := 24) (by decide +kernel)) (by decide +kernel), by decide +kernel, by decide +kernel⟩
theorem s_L_takes : Jvm.Cond.static (mY mL_takes) ∈ tG := tG_of (List.mem_of_getElem? (i := 630) (by decide +kernel)) (by decide +kernel)
theorem lk_L_96 : Lk RL 96 mL_takes 3 := ⟨ok_L_takes, tG_of (List.mem_of_getElem? (i := 629) (by decide +kernel)) (by decide +kernel), by decide +kernel, by decide⟩
theorem ok_5_again : MOK m5_again := ⟨by decide +kernel, tG_of (List.mem_of_getElem? (i := 362) (by decide +kernel)) (by decide +kernel), tG_of (List.mem_of_getElem? (i := 25) (by decide +kernel)) (by decide +kernel), by decide +kernel, by decide +kernel⟩
theorem v_5_again : Jvm.Cond.instanceMethod (mY m5_again) ∈ tG ∧ Jvm.Cond.selects (mY m5_again).cls (mY m5_again) (mY m5_again) ∈ tG := ⟨tG_of (List.mem_of_getElem? (i := 360) (by decide +kernel)) (by decide +kernel), tG_of (List.mem_of_getElem? (i := 361) (by decide +kernel)) (by decide +kernel)⟩
theorem lk_L_99 : Lk RL 99 m5_again 0 := ⟨ok_5_again, tG_of (List.mem_of_getElem? (i := 359) (by decide +kernel)) (by decide +kernel), by decide +kernel, by decide⟩
theorem nw_X5 : (∀ j, j < 4 → ([vN, vN, vN, vN] : List AV)[j]? = some (dfv (tyX5 j)) ∧ ∀ G : GD, cv G (dfv (tyX5 j)) = defaultValue (tyX5 j)) ∧ (∀ v ∈ ([vN, vN, vN, vN] : List AV), vok v) := by
  refine ⟨fun j hj => ?_, fun v hv => ?_⟩
  · rcases (by omega : j = 0 ∨ j = 1 ∨ j = 2 ∨ j = 3) with rfl | rfl | rfl | rfl <;> exact ⟨rfl, fun G => rfl⟩
  · simp only [List.mem_cons, List.not_mem_nil, or_false] at hv
    rcases hv with rfl | rfl | rfl | rfl <;> first | trivial | (exact ⟨by decide, by decide⟩)
theorem ok_5_init : MOK m5_init := ⟨by decide +kernel, tG_of (List.mem_of_getElem? (i := 43) (by decide +kernel)) (by decide +kernel), tG_of (List.mem_of_getElem? (i := 25) (by decide +kernel)) (by decide +kernel), by decide +kernel, by decide +kernel⟩
theorem i_5_init : Jvm.Cond.instanceMethod (mY m5_init) ∈ tG := tG_of (List.mem_of_getElem? (i := 42) (by decide +kernel)) (by decide +kernel)
theorem l_L_102 : Jvm.Cond.methodLink RL 102 (mY m5_init) ∈ tG := tG_of (List.mem_of_getElem? (i := 41) (by decide +kernel)) (by decide +kernel)
theorem ok_L_starts : MOK mL_starts := ⟨by decide +kernel, tG_of (List.mem_of_getElem? (i := 637) (by decide +kernel)) (by decide +kernel), tG_of (List.mem_of_getElem? (i := 24) (by decide +kernel)) (by decide +kernel), by decide +kernel, by decide +kernel⟩
theorem s_L_starts : Jvm.Cond.static (mY mL_starts) ∈ tG := tG_of (List.mem_of_getElem? (i := 636) (by decide +kernel)) (by decide +kernel)
theorem lk_L_103 : Lk RL 103 mL_starts 3 := ⟨ok_L_starts, tG_of (List.mem_of_getElem? (i := 635) (by decide +kernel)) (by decide +kernel), by decide +kernel, by decide⟩
theorem ok_L_isShown : MOK mL_isShown := ⟨by decide +kernel, tG_of (List.mem_of_getElem? (i := 615) (by decide +kernel)) (by decide +kernel), tG_of (List.mem_of_getElem? (i := 24) (by decide +kernel)) (by decide +kernel), by decide +kernel, by decide +kernel⟩
theorem s_L_isShown : Jvm.Cond.static (mY mL_isShown) ∈ tG := tG_of (List.mem_of_getElem? (i := 614) (by decide +kernel)) (by decide +kernel)
theorem lk_L_107 : Lk RL 107 mL_isShown 3 := ⟨ok_L_isShown, tG_of (List.mem_of_getElem? (i := 613) (by decide +kernel)) (by decide +kernel), by decide +kernel, by decide⟩
theorem ok_5_restore : MOK m5_restore := ⟨by decide +kernel, tG_of (List.mem_of_getElem? (i := 378) (by decide +kernel)) (by decide +kernel), tG_of (List.mem_of_getElem? (i := 25) (by decide +kernel)) (by decide +kernel), by decide +kernel, by decide +kernel⟩
theorem v_5_restore : Jvm.Cond.instanceMethod (mY m5_restore) ∈ tG ∧ Jvm.Cond.selects (mY m5_restore).cls (mY m5_restore) (mY m5_restore) ∈ tG := ⟨tG_of (List.mem_of_getElem? (i := 376) (by decide +kernel)) (by decide +kernel), tG_of (List.mem_of_getElem? (i := 377) (by decide +kernel)) (by decide +kernel)⟩
theorem lk_L_111 : Lk RL 111 m5_restore 1 := ⟨ok_5_restore, tG_of (List.mem_of_getElem? (i := 375) (by decide +kernel)) (by decide +kernel), by decide +kernel, by decide⟩
theorem ok_5_save : MOK m5_save := ⟨by decide +kernel, tG_of (List.mem_of_getElem? (i := 370) (by decide +kernel)) (by decide +kernel), tG_of (List.mem_of_getElem? (i := 25) (by decide +kernel)) (by decide +kernel), by decide +kernel, by decide +kernel⟩
theorem v_5_save : Jvm.Cond.instanceMethod (mY m5_save) ∈ tG ∧ Jvm.Cond.selects (mY m5_save).cls (mY m5_save) (mY m5_save) ∈ tG := ⟨tG_of (List.mem_of_getElem? (i := 368) (by decide +kernel)) (by decide +kernel), tG_of (List.mem_of_getElem? (i := 369) (by decide +kernel)) (by decide +kernel)⟩
theorem lk_L_114 : Lk RL 114 m5_save 1 := ⟨ok_5_save, tG_of (List.mem_of_getElem? (i := 367) (by decide +kernel)) (by decide +kernel), by decide +kernel, by decide⟩
theorem ok_L_reads : MOK mL_reads := ⟨by decide +kernel, tG_of (List.mem_of_getElem? (i := 423) (by decide +kernel)) (by decide +kernel), tG_of (List.mem_of_getElem? (i := 24) (by decide +kernel)) (by decide +kernel), by decide +kernel, by decide +kernel⟩
theorem s_L_reads : Jvm.Cond.static (mY mL_reads) ∈ tG := tG_of (List.mem_of_getElem? (i := 422) (by decide +kernel)) (by decide +kernel)
theorem lk_L_117 : Lk RL 117 mL_reads 5 := ⟨ok_L_reads, tG_of (List.mem_of_getElem? (i := 421) (by decide +kernel)) (by decide +kernel), by decide +kernel, by decide⟩
theorem ok_L_turns : MOK mL_turns := ⟨by decide +kernel, tG_of (List.mem_of_getElem? (i := 665) (by decide +kernel)) (by decide +kernel), tG_of (List.mem_of_getElem? (i := 24) (by decide +kernel)) (by decide +kernel), by decide +kernel, by decide +kernel⟩
theorem s_L_turns : Jvm.Cond.static (mY mL_turns) ∈ tG := tG_of (List.mem_of_getElem? (i := 664) (by decide +kernel)) (by decide +kernel)
theorem lk_L_121 : Lk RL 121 mL_turns 4 := ⟨ok_L_turns, tG_of (List.mem_of_getElem? (i := 663) (by decide +kernel)) (by decide +kernel), by decide +kernel, by decide⟩
theorem ok_L_again : MOK mL_again := ⟨by decide +kernel, tG_of (List.mem_of_getElem? (i := 668) (by decide +kernel)) (by decide +kernel), tG_of (List.mem_of_getElem? (i := 24) (by decide +kernel)) (by decide +kernel), by decide +kernel, by decide +kernel⟩
theorem s_L_again : Jvm.Cond.static (mY mL_again) ∈ tG := tG_of (List.mem_of_getElem? (i := 667) (by decide +kernel)) (by decide +kernel)
theorem lk_L_125 : Lk RL 125 mL_again 3 := ⟨ok_L_again, tG_of (List.mem_of_getElem? (i := 666) (by decide +kernel)) (by decide +kernel), by decide +kernel, by decide⟩
theorem ok_L_skips : MOK mL_skips := ⟨by decide +kernel, tG_of (List.mem_of_getElem? (i := 656) (by decide +kernel)) (by decide +kernel), tG_of (List.mem_of_getElem? (i := 24) (by decide +kernel)) (by decide +kernel), by decide +kernel, by decide +kernel⟩
theorem s_L_skips : Jvm.Cond.static (mY mL_skips) ∈ tG := tG_of (List.mem_of_getElem? (i := 655) (by decide +kernel)) (by decide +kernel)
theorem lk_L_127 : Lk RL 127 mL_skips 4 := ⟨ok_L_skips, tG_of (List.mem_of_getElem? (i := 654) (by decide +kernel)) (by decide +kernel), by decide +kernel, by decide⟩
theorem ok_5_begin : MOK m5_begin := ⟨by decide +kernel, tG_of (List.mem_of_getElem? (i := 314) (by decide +kernel)) (by decide +kernel), tG_of (List.mem_of_getElem? (i := 25) (by decide +kernel)) (by decide +kernel), by decide +kernel, by decide +kernel⟩
theorem v_5_begin : Jvm.Cond.instanceMethod (mY m5_begin) ∈ tG ∧ Jvm.Cond.selects (mY m5_begin).cls (mY m5_begin) (mY m5_begin) ∈ tG := ⟨tG_of (List.mem_of_getElem? (i := 312) (by decide +kernel)) (by decide +kernel), tG_of (List.mem_of_getElem? (i := 313) (by decide +kernel)) (by decide +kernel)⟩
theorem lk_L_131 : Lk RL 131 m5_begin 0 := ⟨ok_5_begin, tG_of (List.mem_of_getElem? (i := 311) (by decide +kernel)) (by decide +kernel), by decide +kernel, by decide⟩
theorem ok_L_goes : MOK mL_goes := ⟨by decide +kernel, tG_of (List.mem_of_getElem? (i := 649) (by decide +kernel)) (by decide +kernel), tG_of (List.mem_of_getElem? (i := 24) (by decide +kernel)) (by decide +kernel), by decide +kernel, by decide +kernel⟩
theorem s_L_goes : Jvm.Cond.static (mY mL_goes) ∈ tG := tG_of (List.mem_of_getElem? (i := 648) (by decide +kernel)) (by decide +kernel)
theorem lk_L_134 : Lk RL 134 mL_goes 4 := ⟨ok_L_goes, tG_of (List.mem_of_getElem? (i := 647) (by decide +kernel)) (by decide +kernel), by decide +kernel, by decide⟩
theorem ok_L_chooses : MOK mL_chooses := ⟨by decide +kernel, tG_of (List.mem_of_getElem? (i := 659) (by decide +kernel)) (by decide +kernel), tG_of (List.mem_of_getElem? (i := 24) (by decide +kernel)) (by decide +kernel), by decide +kernel, by decide +kernel⟩
theorem s_L_chooses : Jvm.Cond.static (mY mL_chooses) ∈ tG := tG_of (List.mem_of_getElem? (i := 658) (by decide +kernel)) (by decide +kernel)
theorem lk_L_137 : Lk RL 137 mL_chooses 5 := ⟨ok_L_chooses, tG_of (List.mem_of_getElem? (i := 657) (by decide +kernel)) (by decide +kernel), by decide +kernel, by decide⟩
theorem ok_L_seen : MOK mL_seen := ⟨by decide +kernel, tG_of (List.mem_of_getElem? (i := 671) (by decide +kernel)) (by decide +kernel), tG_of (List.mem_of_getElem? (i := 24) (by decide +kernel)) (by decide +kernel), by decide +kernel, by decide +kernel⟩
theorem s_L_seen : Jvm.Cond.static (mY mL_seen) ∈ tG := tG_of (List.mem_of_getElem? (i := 670) (by decide +kernel)) (by decide +kernel)
theorem lk_L_141 : Lk RL 141 mL_seen 1 := ⟨ok_L_seen, tG_of (List.mem_of_getElem? (i := 669) (by decide +kernel)) (by decide +kernel), by decide +kernel, by decide⟩
