/-! ===== links 1 ===== -/
theorem oi_X0_3 : Jvm.Cond.methodLink RX0 3 objectInit ∈ tG := tG_of (List.mem_of_getElem? (i := 161) (by decide +kernel)) (by decide +kernel)
theorem na_int : Jvm.Cond.arrayClass (tyF 0) ∈ tG := tG_of (List.mem_of_getElem? (i := 80) (by decide +kernel)) (by decide +kernel)
theorem f_X0_9 : FL RX0 9 0 1 := ⟨RX0, TX0, 8, rfl, by decide, inGX0, tG_of (List.mem_of_getElem? (i := 165) (by decide +kernel)) (by decide +kernel)⟩
theorem p_X0_X0_1 : FP RX0 0 1 (.array .int) true := ⟨RX0, TX0, 8, tyX0, rfl, tyX0_ok, nmX0, by decide +kernel, rfl, fun _ => rfl⟩
theorem f_X0_15 : FL RX0 15 0 2 := ⟨RX0, TX0, 8, rfl, by decide, inGX0, tG_of (List.mem_of_getElem? (i := 166) (by decide +kernel)) (by decide +kernel)⟩
theorem p_X0_X0_2 : FP RX0 0 2 (.array .int) true := ⟨RX0, TX0, 8, tyX0, rfl, tyX0_ok, nmX0, by decide +kernel, rfl, fun _ => rfl⟩
theorem f_X0_18 : FL RX0 18 0 3 := ⟨RX0, TX0, 8, rfl, by decide, inGX0, tG_of (List.mem_of_getElem? (i := 167) (by decide +kernel)) (by decide +kernel)⟩
theorem p_X0_X0_3 : FP RX0 0 3 (.array .int) true := ⟨RX0, TX0, 8, tyX0, rfl, tyX0_ok, nmX0, by decide +kernel, rfl, fun _ => rfl⟩
theorem f_X0_21 : FL RX0 21 0 4 := ⟨RX0, TX0, 8, rfl, by decide, inGX0, tG_of (List.mem_of_getElem? (i := 168) (by decide +kernel)) (by decide +kernel)⟩
theorem p_X0_X0_4 : FP RX0 0 4 (.array .int) true := ⟨RX0, TX0, 8, tyX0, rfl, tyX0_ok, nmX0, by decide +kernel, rfl, fun _ => rfl⟩
theorem f_X0_24 : FL RX0 24 0 6 := ⟨RX0, TX0, 8, rfl, by decide, inGX0, tG_of (List.mem_of_getElem? (i := 170) (by decide +kernel)) (by decide +kernel)⟩
theorem p_X0_X0_6 : FP RX0 0 6 (.array .int) true := ⟨RX0, TX0, 8, tyX0, rfl, tyX0_ok, nmX0, by decide +kernel, rfl, fun _ => rfl⟩
theorem nw_X1 : (∀ j, j < 4 → ([vI 0, vI 0, vN, vN] : List AV)[j]? = some (dfv (tyX1 j)) ∧ ∀ G : GD, cv G (dfv (tyX1 j)) = defaultValue (tyX1 j)) ∧ (∀ v ∈ ([vI 0, vI 0, vN, vN] : List AV), vok v) := by
  refine ⟨fun j hj => ?_, fun v hv => ?_⟩
  · rcases (by omega : j = 0 ∨ j = 1 ∨ j = 2 ∨ j = 3) with rfl | rfl | rfl | rfl <;> exact ⟨rfl, fun G => rfl⟩
  · simp only [List.mem_cons, List.not_mem_nil, or_false] at hv
    rcases hv with rfl | rfl | rfl | rfl <;> first | trivial | (exact ⟨by decide, by decide⟩)
theorem ok_1_init : MOK m1_init := ⟨by decide +kernel, tG_of (List.mem_of_getElem? (i := 112) (by decide +kernel)) (by decide +kernel), tG_of (List.mem_of_getElem? (i := 29) (by decide +kernel)) (by decide +kernel), by decide +kernel, by decide +kernel⟩
theorem i_1_init : Jvm.Cond.instanceMethod (mY m1_init) ∈ tG := tG_of (List.mem_of_getElem? (i := 111) (by decide +kernel)) (by decide +kernel)
theorem f_X0_30 : FL RX0 30 0 7 := ⟨RX0, TX0, 8, rfl, by decide, inGX0, tG_of (List.mem_of_getElem? (i := 171) (by decide +kernel)) (by decide +kernel)⟩
theorem p_X0_X0_7 : FP RX0 0 7 (.object "PictureScript$Moment") true := ⟨RX0, TX0, 8, tyX0, rfl, tyX0_ok, nmX0, by decide +kernel, rfl, fun _ => rfl⟩
theorem f_X0_34 : FL RX0 34 0 0 := ⟨RX0, TX0, 8, rfl, by decide, inGX0, tG_of (List.mem_of_getElem? (i := 164) (by decide +kernel)) (by decide +kernel)⟩
theorem p_X0_X0_0 : FP RX0 0 0 .int false := ⟨RX0, TX0, 8, tyX0, rfl, tyX0_ok, nmX0, by decide +kernel, rfl, fun q => by cases q⟩
theorem f_X0_38 : FL RX0 38 0 5 := ⟨RX0, TX0, 8, rfl, by decide, inGX0, tG_of (List.mem_of_getElem? (i := 169) (by decide +kernel)) (by decide +kernel)⟩
theorem p_X0_X0_5 : FP RX0 0 5 .int false := ⟨RX0, TX0, 8, tyX0, rfl, tyX0_ok, nmX0, by decide +kernel, rfl, fun q => by cases q⟩
theorem ok_J7_fill : MOK mJ7_fill := ⟨by decide +kernel, tG_of (List.mem_of_getElem? (i := 211) (by decide +kernel)) (by decide +kernel), tG_of (List.mem_of_getElem? (i := 31) (by decide +kernel)) (by decide +kernel), by decide +kernel, by decide +kernel⟩
theorem s_J7_fill : Jvm.Cond.static (mY mJ7_fill) ∈ tG := tG_of (List.mem_of_getElem? (i := 210) (by decide +kernel)) (by decide +kernel)
theorem lk_X0_41 : Lk RX0 41 mJ7_fill 2 := ⟨ok_J7_fill, tG_of (List.mem_of_getElem? (i := 253) (by decide +kernel)) (by decide +kernel), by decide +kernel, by decide⟩
theorem ok_1_makeEmpty : MOK m1_makeEmpty := ⟨by decide +kernel, tG_of (List.mem_of_getElem? (i := 208) (by decide +kernel)) (by decide +kernel), tG_of (List.mem_of_getElem? (i := 29) (by decide +kernel)) (by decide +kernel), by decide +kernel, by decide +kernel⟩
theorem v_1_makeEmpty : Jvm.Cond.instanceMethod (mY m1_makeEmpty) ∈ tG ∧ Jvm.Cond.selects (mY m1_makeEmpty).cls (mY m1_makeEmpty) (mY m1_makeEmpty) ∈ tG := ⟨tG_of (List.mem_of_getElem? (i := 206) (by decide +kernel)) (by decide +kernel), tG_of (List.mem_of_getElem? (i := 207) (by decide +kernel)) (by decide +kernel)⟩
theorem lk_X0_47 : Lk RX0 47 m1_makeEmpty 0 := ⟨ok_1_makeEmpty, tG_of (List.mem_of_getElem? (i := 254) (by decide +kernel)) (by decide +kernel), by decide +kernel, by decide⟩
theorem ok_0_follow : MOK m0_follow := ⟨by decide +kernel, tG_of (List.mem_of_getElem? (i := 258) (by decide +kernel)) (by decide +kernel), tG_of (List.mem_of_getElem? (i := 30) (by decide +kernel)) (by decide +kernel), by decide +kernel, by decide +kernel⟩
theorem v_0_follow : Jvm.Cond.instanceMethod (mY m0_follow) ∈ tG ∧ Jvm.Cond.selects (mY m0_follow).cls (mY m0_follow) (mY m0_follow) ∈ tG := ⟨tG_of (List.mem_of_getElem? (i := 257) (by decide +kernel)) (by decide +kernel), tG_of (List.mem_of_getElem? (i := 5) (by decide +kernel)) (by decide +kernel)⟩
theorem lk_X0_50 : Lk RX0 50 m0_follow 4 := ⟨ok_0_follow, tG_of (List.mem_of_getElem? (i := 255) (by decide +kernel)) (by decide +kernel), by decide +kernel, by decide⟩
theorem ok_0_nodeOf : MOK m0_nodeOf := ⟨by decide +kernel, tG_of (List.mem_of_getElem? (i := 273) (by decide +kernel)) (by decide +kernel), tG_of (List.mem_of_getElem? (i := 30) (by decide +kernel)) (by decide +kernel), by decide +kernel, by decide +kernel⟩
theorem s_0_nodeOf : Jvm.Cond.static (mY m0_nodeOf) ∈ tG := tG_of (List.mem_of_getElem? (i := 272) (by decide +kernel)) (by decide +kernel)
theorem lk_X0_54 : Lk RX0 54 m0_nodeOf 1 := ⟨ok_0_nodeOf, tG_of (List.mem_of_getElem? (i := 271) (by decide +kernel)) (by decide +kernel), by decide +kernel, by decide⟩
theorem ok_0_flagsOf : MOK m0_flagsOf := ⟨by decide +kernel, tG_of (List.mem_of_getElem? (i := 284) (by decide +kernel)) (by decide +kernel), tG_of (List.mem_of_getElem? (i := 30) (by decide +kernel)) (by decide +kernel), by decide +kernel, by decide +kernel⟩
theorem s_0_flagsOf : Jvm.Cond.static (mY m0_flagsOf) ∈ tG := tG_of (List.mem_of_getElem? (i := 283) (by decide +kernel)) (by decide +kernel)
theorem lk_X0_58 : Lk RX0 58 m0_flagsOf 1 := ⟨ok_0_flagsOf, tG_of (List.mem_of_getElem? (i := 282) (by decide +kernel)) (by decide +kernel), by decide +kernel, by decide⟩
theorem ok_3_isOpen : MOK m3_isOpen := ⟨by decide +kernel, tG_of (List.mem_of_getElem? (i := 288) (by decide +kernel)) (by decide +kernel), tG_of (List.mem_of_getElem? (i := 27) (by decide +kernel)) (by decide +kernel), by decide +kernel, by decide +kernel⟩
theorem v_3_isOpen : Jvm.Cond.instanceMethod (mY m3_isOpen) ∈ tG ∧ Jvm.Cond.selects (mY m3_isOpen).cls (mY m3_isOpen) (mY m3_isOpen) ∈ tG := ⟨tG_of (List.mem_of_getElem? (i := 286) (by decide +kernel)) (by decide +kernel), tG_of (List.mem_of_getElem? (i := 287) (by decide +kernel)) (by decide +kernel)⟩
theorem lk_X0_61 : Lk RX0 61 m3_isOpen 3 := ⟨ok_3_isOpen, tG_of (List.mem_of_getElem? (i := 285) (by decide +kernel)) (by decide +kernel), by decide +kernel, by decide⟩
theorem f_X0_67 : FL RX0 67 1 1 := ⟨RX1, TX1, 4, rfl, by decide, inGX1, tG_of (List.mem_of_getElem? (i := 119) (by decide +kernel)) (by decide +kernel)⟩
theorem p_X0_X1_1 : FP RX0 1 1 .int false := ⟨RX1, TX1, 4, tyX1, rfl, tyX1_ok, nmX1, by decide +kernel, rfl, fun q => by cases q⟩
theorem ok_3_optionPart : MOK m3_optionPart := ⟨by decide +kernel, tG_of (List.mem_of_getElem? (i := 296) (by decide +kernel)) (by decide +kernel), tG_of (List.mem_of_getElem? (i := 27) (by decide +kernel)) (by decide +kernel), by decide +kernel, by decide +kernel⟩
theorem v_3_optionPart : Jvm.Cond.instanceMethod (mY m3_optionPart) ∈ tG ∧ Jvm.Cond.selects (mY m3_optionPart).cls (mY m3_optionPart) (mY m3_optionPart) ∈ tG := ⟨tG_of (List.mem_of_getElem? (i := 294) (by decide +kernel)) (by decide +kernel), tG_of (List.mem_of_getElem? (i := 295) (by decide +kernel)) (by decide +kernel)⟩
theorem lk_X0_70 : Lk RX0 70 m3_optionPart 3 := ⟨ok_3_optionPart, tG_of (List.mem_of_getElem? (i := 297) (by decide +kernel)) (by decide +kernel), by decide +kernel, by decide⟩
theorem ok_0_isSituation : MOK m0_isSituation := ⟨by decide +kernel, tG_of (List.mem_of_getElem? (i := 261) (by decide +kernel)) (by decide +kernel), tG_of (List.mem_of_getElem? (i := 30) (by decide +kernel)) (by decide +kernel), by decide +kernel, by decide +kernel⟩
theorem s_0_isSituation : Jvm.Cond.static (mY m0_isSituation) ∈ tG := tG_of (List.mem_of_getElem? (i := 260) (by decide +kernel)) (by decide +kernel)
theorem lk_X0_78 : Lk RX0 78 m0_isSituation 1 := ⟨ok_0_isSituation, tG_of (List.mem_of_getElem? (i := 259) (by decide +kernel)) (by decide +kernel), by decide +kernel, by decide⟩
theorem ok_1_comeFrom : MOK m1_comeFrom := ⟨by decide +kernel, tG_of (List.mem_of_getElem? (i := 215) (by decide +kernel)) (by decide +kernel), tG_of (List.mem_of_getElem? (i := 29) (by decide +kernel)) (by decide +kernel), by decide +kernel, by decide +kernel⟩
theorem v_1_comeFrom : Jvm.Cond.instanceMethod (mY m1_comeFrom) ∈ tG ∧ Jvm.Cond.selects (mY m1_comeFrom).cls (mY m1_comeFrom) (mY m1_comeFrom) ∈ tG := ⟨tG_of (List.mem_of_getElem? (i := 213) (by decide +kernel)) (by decide +kernel), tG_of (List.mem_of_getElem? (i := 214) (by decide +kernel)) (by decide +kernel)⟩
theorem lk_X0_85 : Lk RX0 85 m1_comeFrom 2 := ⟨ok_1_comeFrom, tG_of (List.mem_of_getElem? (i := 262) (by decide +kernel)) (by decide +kernel), by decide +kernel, by decide⟩
theorem f_X0_89 : FL RX0 89 1 0 := ⟨RX1, TX1, 4, rfl, by decide, inGX1, tG_of (List.mem_of_getElem? (i := 117) (by decide +kernel)) (by decide +kernel)⟩
theorem ok_3_shownKind : MOK m3_shownKind := ⟨by decide +kernel, tG_of (List.mem_of_getElem? (i := 266) (by decide +kernel)) (by decide +kernel), tG_of (List.mem_of_getElem? (i := 27) (by decide +kernel)) (by decide +kernel), by decide +kernel, by decide +kernel⟩
theorem v_3_shownKind : Jvm.Cond.instanceMethod (mY m3_shownKind) ∈ tG ∧ Jvm.Cond.selects (mY m3_shownKind).cls (mY m3_shownKind) (mY m3_shownKind) ∈ tG := ⟨tG_of (List.mem_of_getElem? (i := 264) (by decide +kernel)) (by decide +kernel), tG_of (List.mem_of_getElem? (i := 265) (by decide +kernel)) (by decide +kernel)⟩
theorem lk_X0_92 : Lk RX0 92 m3_shownKind 1 := ⟨ok_3_shownKind, tG_of (List.mem_of_getElem? (i := 263) (by decide +kernel)) (by decide +kernel), by decide +kernel, by decide⟩
theorem ok_0_arrive : MOK m0_arrive := ⟨by decide +kernel, tG_of (List.mem_of_getElem? (i := 270) (by decide +kernel)) (by decide +kernel), tG_of (List.mem_of_getElem? (i := 30) (by decide +kernel)) (by decide +kernel), by decide +kernel, by decide +kernel⟩
theorem v_0_arrive : Jvm.Cond.instanceMethod (mY m0_arrive) ∈ tG ∧ Jvm.Cond.selects (mY m0_arrive).cls (mY m0_arrive) (mY m0_arrive) ∈ tG := ⟨tG_of (List.mem_of_getElem? (i := 269) (by decide +kernel)) (by decide +kernel), tG_of (List.mem_of_getElem? (i := 6) (by decide +kernel)) (by decide +kernel)⟩
theorem lk_X0_95 : Lk RX0 95 m0_arrive 2 := ⟨ok_0_arrive, tG_of (List.mem_of_getElem? (i := 267) (by decide +kernel)) (by decide +kernel), by decide +kernel, by decide⟩
theorem ok_3_shownNumber : MOK m3_shownNumber := ⟨by decide +kernel, tG_of (List.mem_of_getElem? (i := 277) (by decide +kernel)) (by decide +kernel), tG_of (List.mem_of_getElem? (i := 27) (by decide +kernel)) (by decide +kernel), by decide +kernel, by decide +kernel⟩
theorem v_3_shownNumber : Jvm.Cond.instanceMethod (mY m3_shownNumber) ∈ tG ∧ Jvm.Cond.selects (mY m3_shownNumber).cls (mY m3_shownNumber) (mY m3_shownNumber) ∈ tG := ⟨tG_of (List.mem_of_getElem? (i := 275) (by decide +kernel)) (by decide +kernel), tG_of (List.mem_of_getElem? (i := 276) (by decide +kernel)) (by decide +kernel)⟩
theorem lk_X0_98 : Lk RX0 98 m3_shownNumber 1 := ⟨ok_3_shownNumber, tG_of (List.mem_of_getElem? (i := 274) (by decide +kernel)) (by decide +kernel), by decide +kernel, by decide⟩
theorem ok_5_endIndex : MOK m5_endIndex := ⟨by decide +kernel, tG_of (List.mem_of_getElem? (i := 281) (by decide +kernel)) (by decide +kernel), tG_of (List.mem_of_getElem? (i := 25) (by decide +kernel)) (by decide +kernel), by decide +kernel, by decide +kernel⟩
theorem s_5_endIndex : Jvm.Cond.static (mY m5_endIndex) ∈ tG := tG_of (List.mem_of_getElem? (i := 280) (by decide +kernel)) (by decide +kernel)
theorem oi_X1_3 : Jvm.Cond.methodLink RX1 3 objectInit ∈ tG := tG_of (List.mem_of_getElem? (i := 113) (by decide +kernel)) (by decide +kernel)
theorem f_X1_9 : FL RX1 9 1 2 := ⟨RX1, TX1, 4, rfl, by decide, inGX1, tG_of (List.mem_of_getElem? (i := 121) (by decide +kernel)) (by decide +kernel)⟩
theorem p_X1_X1_2 : FP RX1 1 2 (.array .int) true := ⟨RX1, TX1, 4, tyX1, rfl, tyX1_ok, nmX1, by decide +kernel, rfl, fun _ => rfl⟩
theorem f_X1_15 : FL RX1 15 1 3 := ⟨RX1, TX1, 4, rfl, by decide, inGX1, tG_of (List.mem_of_getElem? (i := 123) (by decide +kernel)) (by decide +kernel)⟩
theorem p_X1_X1_3 : FP RX1 1 3 (.array .int) true := ⟨RX1, TX1, 4, tyX1, rfl, tyX1_ok, nmX1, by decide +kernel, rfl, fun _ => rfl⟩
theorem f_X1_18 : FL RX1 18 1 0 := ⟨RX1, TX1, 4, rfl, by decide, inGX1, tG_of (List.mem_of_getElem? (i := 114) (by decide +kernel)) (by decide +kernel)⟩
theorem p_X1_X1_0 : FP RX1 1 0 .int false := ⟨RX1, TX1, 4, tyX1, rfl, tyX1_ok, nmX1, by decide +kernel, rfl, fun q => by cases q⟩
theorem f_X1_22 : FL RX1 22 1 1 := ⟨RX1, TX1, 4, rfl, by decide, inGX1, tG_of (List.mem_of_getElem? (i := 118) (by decide +kernel)) (by decide +kernel)⟩
theorem p_X1_X1_1 : FP RX1 1 1 .int false := ⟨RX1, TX1, 4, tyX1, rfl, tyX1_ok, nmX1, by decide +kernel, rfl, fun q => by cases q⟩
theorem lk_X1_25 : Lk RX1 25 mJ7_fill 2 := ⟨ok_J7_fill, tG_of (List.mem_of_getElem? (i := 209) (by decide +kernel)) (by decide +kernel), by decide +kernel, by decide⟩
theorem ac_X1_31 : Jvm.Cond.methodLink RX1 31 arraycopyName ∈ tG := tG_of (List.mem_of_getElem? (i := 342) (by decide +kernel)) (by decide +kernel)
theorem ok_3_isShown : MOK m3_isShown := ⟨by decide +kernel, tG_of (List.mem_of_getElem? (i := 219) (by decide +kernel)) (by decide +kernel), tG_of (List.mem_of_getElem? (i := 27) (by decide +kernel)) (by decide +kernel), by decide +kernel, by decide +kernel⟩
theorem v_3_isShown : Jvm.Cond.instanceMethod (mY m3_isShown) ∈ tG ∧ Jvm.Cond.selects (mY m3_isShown).cls (mY m3_isShown) (mY m3_isShown) ∈ tG := ⟨tG_of (List.mem_of_getElem? (i := 217) (by decide +kernel)) (by decide +kernel), tG_of (List.mem_of_getElem? (i := 218) (by decide +kernel)) (by decide +kernel)⟩
theorem lk_X1_37 : Lk RX1 37 m3_isShown 1 := ⟨ok_3_isShown, tG_of (List.mem_of_getElem? (i := 216) (by decide +kernel)) (by decide +kernel), by decide +kernel, by decide⟩
theorem ok_1_carryOut : MOK m1_carryOut := ⟨by decide +kernel, tG_of (List.mem_of_getElem? (i := 231) (by decide +kernel)) (by decide +kernel), tG_of (List.mem_of_getElem? (i := 29) (by decide +kernel)) (by decide +kernel), by decide +kernel, by decide +kernel⟩
theorem v_1_carryOut : Jvm.Cond.instanceMethod (mY m1_carryOut) ∈ tG ∧ Jvm.Cond.selects (mY m1_carryOut).cls (mY m1_carryOut) (mY m1_carryOut) ∈ tG := ⟨tG_of (List.mem_of_getElem? (i := 230) (by decide +kernel)) (by decide +kernel), tG_of (List.mem_of_getElem? (i := 1) (by decide +kernel)) (by decide +kernel)⟩
theorem lk_X1_43 : Lk RX1 43 m1_carryOut 2 := ⟨ok_1_carryOut, tG_of (List.mem_of_getElem? (i := 228) (by decide +kernel)) (by decide +kernel), by decide +kernel, by decide⟩
theorem ok_3_numberOf : MOK m3_numberOf := ⟨by decide +kernel, tG_of (List.mem_of_getElem? (i := 235) (by decide +kernel)) (by decide +kernel), tG_of (List.mem_of_getElem? (i := 27) (by decide +kernel)) (by decide +kernel), by decide +kernel, by decide +kernel⟩
theorem v_3_numberOf : Jvm.Cond.instanceMethod (mY m3_numberOf) ∈ tG ∧ Jvm.Cond.selects (mY m3_numberOf).cls (mY m3_numberOf) (mY m3_numberOf) ∈ tG := ⟨tG_of (List.mem_of_getElem? (i := 233) (by decide +kernel)) (by decide +kernel), tG_of (List.mem_of_getElem? (i := 234) (by decide +kernel)) (by decide +kernel)⟩
theorem lk_X1_47 : Lk RX1 47 m3_numberOf 2 := ⟨ok_3_numberOf, tG_of (List.mem_of_getElem? (i := 232) (by decide +kernel)) (by decide +kernel), by decide +kernel, by decide⟩
theorem ok_3_kindOf : MOK m3_kindOf := ⟨by decide +kernel, tG_of (List.mem_of_getElem? (i := 223) (by decide +kernel)) (by decide +kernel), tG_of (List.mem_of_getElem? (i := 27) (by decide +kernel)) (by decide +kernel), by decide +kernel, by decide +kernel⟩
theorem v_3_kindOf : Jvm.Cond.instanceMethod (mY m3_kindOf) ∈ tG ∧ Jvm.Cond.selects (mY m3_kindOf).cls (mY m3_kindOf) (mY m3_kindOf) ∈ tG := ⟨tG_of (List.mem_of_getElem? (i := 221) (by decide +kernel)) (by decide +kernel), tG_of (List.mem_of_getElem? (i := 222) (by decide +kernel)) (by decide +kernel)⟩
theorem lk_X1_51 : Lk RX1 51 m3_kindOf 1 := ⟨ok_3_kindOf, tG_of (List.mem_of_getElem? (i := 236) (by decide +kernel)) (by decide +kernel), by decide +kernel, by decide⟩
theorem ok_1_putAt : MOK m1_putAt := ⟨by decide +kernel, tG_of (List.mem_of_getElem? (i := 240) (by decide +kernel)) (by decide +kernel), tG_of (List.mem_of_getElem? (i := 29) (by decide +kernel)) (by decide +kernel), by decide +kernel, by decide +kernel⟩
theorem v_1_putAt : Jvm.Cond.instanceMethod (mY m1_putAt) ∈ tG ∧ Jvm.Cond.selects (mY m1_putAt).cls (mY m1_putAt) (mY m1_putAt) ∈ tG := ⟨tG_of (List.mem_of_getElem? (i := 239) (by decide +kernel)) (by decide +kernel), tG_of (List.mem_of_getElem? (i := 2) (by decide +kernel)) (by decide +kernel)⟩
theorem lk_X1_55 : Lk RX1 55 m1_putAt 3 := ⟨ok_1_putAt, tG_of (List.mem_of_getElem? (i := 237) (by decide +kernel)) (by decide +kernel), by decide +kernel, by decide⟩
theorem ok_1_hide : MOK m1_hide := ⟨by decide +kernel, tG_of (List.mem_of_getElem? (i := 244) (by decide +kernel)) (by decide +kernel), tG_of (List.mem_of_getElem? (i := 29) (by decide +kernel)) (by decide +kernel), by decide +kernel, by decide +kernel⟩
theorem v_1_hide : Jvm.Cond.instanceMethod (mY m1_hide) ∈ tG ∧ Jvm.Cond.selects (mY m1_hide).cls (mY m1_hide) (mY m1_hide) ∈ tG := ⟨tG_of (List.mem_of_getElem? (i := 243) (by decide +kernel)) (by decide +kernel), tG_of (List.mem_of_getElem? (i := 3) (by decide +kernel)) (by decide +kernel)⟩
theorem lk_X1_59 : Lk RX1 59 m1_hide 1 := ⟨ok_1_hide, tG_of (List.mem_of_getElem? (i := 241) (by decide +kernel)) (by decide +kernel), by decide +kernel, by decide⟩
theorem oi_X2_3 : Jvm.Cond.methodLink RX2 3 objectInit ∈ tG := tG_of (List.mem_of_getElem? (i := 106) (by decide +kernel)) (by decide +kernel)
theorem f_X2_11 : FL RX2 11 2 0 := ⟨RX2, TX2, 6, rfl, by decide, inGX2, tG_of (List.mem_of_getElem? (i := 135) (by decide +kernel)) (by decide +kernel)⟩
theorem p_X2_X2_0 : FP RX2 2 0 (.array (.object "PictureScript$Moment")) true := ⟨RX2, TX2, 6, tyX2, rfl, tyX2_ok, nmX2, by decide +kernel, rfl, fun _ => rfl⟩
theorem f_X2_17 : FL RX2 17 2 3 := ⟨RX2, TX2, 6, rfl, by decide, inGX2, tG_of (List.mem_of_getElem? (i := 140) (by decide +kernel)) (by decide +kernel)⟩
theorem p_X2_X2_3 : FP RX2 2 3 (.array (.object "PictureScript$Moment")) true := ⟨RX2, TX2, 6, tyX2, rfl, tyX2_ok, nmX2, by decide +kernel, rfl, fun _ => rfl⟩
theorem na_boolean : Jvm.Cond.arrayClass (tyF 2) ∈ tG := tG_of (List.mem_of_getElem? (i := 134) (by decide +kernel)) (by decide +kernel)
theorem f_X2_20 : FL RX2 20 2 4 := ⟨RX2, TX2, 6, rfl, by decide, inGX2, tG_of (List.mem_of_getElem? (i := 141) (by decide +kernel)) (by decide +kernel)⟩
theorem p_X2_X2_4 : FP RX2 2 4 (.array .boolean) true := ⟨RX2, TX2, 6, tyX2, rfl, tyX2_ok, nmX2, by decide +kernel, rfl, fun _ => rfl⟩
theorem f_X2_24 : FL RX2 24 2 5 := ⟨RX2, TX2, 6, rfl, by decide, inGX2, tG_of (List.mem_of_getElem? (i := 142) (by decide +kernel)) (by decide +kernel)⟩
theorem p_X2_X2_5 : FP RX2 2 5 (.array .boolean) true := ⟨RX2, TX2, 6, tyX2, rfl, tyX2_ok, nmX2, by decide +kernel, rfl, fun _ => rfl⟩
theorem f_X2_28 : FL RX2 28 2 2 := ⟨RX2, TX2, 6, rfl, by decide, inGX2, tG_of (List.mem_of_getElem? (i := 138) (by decide +kernel)) (by decide +kernel)⟩
theorem ok_2_startAnew : MOK m2_startAnew := ⟨by decide +kernel, tG_of (List.mem_of_getElem? (i := 196) (by decide +kernel)) (by decide +kernel), tG_of (List.mem_of_getElem? (i := 28) (by decide +kernel)) (by decide +kernel), by decide +kernel, by decide +kernel⟩
theorem v_2_startAnew : Jvm.Cond.instanceMethod (mY m2_startAnew) ∈ tG ∧ Jvm.Cond.selects (mY m2_startAnew).cls (mY m2_startAnew) (mY m2_startAnew) ∈ tG := ⟨tG_of (List.mem_of_getElem? (i := 194) (by decide +kernel)) (by decide +kernel), tG_of (List.mem_of_getElem? (i := 195) (by decide +kernel)) (by decide +kernel)⟩
theorem lk_X2_32 : Lk RX2 32 m2_startAnew 1 := ⟨ok_2_startAnew, tG_of (List.mem_of_getElem? (i := 193) (by decide +kernel)) (by decide +kernel), by decide +kernel, by decide⟩
theorem ok_2_keepOneMoment : MOK m2_keepOneMoment := ⟨by decide +kernel, tG_of (List.mem_of_getElem? (i := 200) (by decide +kernel)) (by decide +kernel), tG_of (List.mem_of_getElem? (i := 28) (by decide +kernel)) (by decide +kernel), by decide +kernel, by decide +kernel⟩
theorem v_2_keepOneMoment : Jvm.Cond.instanceMethod (mY m2_keepOneMoment) ∈ tG ∧ Jvm.Cond.selects (mY m2_keepOneMoment).cls (mY m2_keepOneMoment) (mY m2_keepOneMoment) ∈ tG := ⟨tG_of (List.mem_of_getElem? (i := 199) (by decide +kernel)) (by decide +kernel), tG_of (List.mem_of_getElem? (i := 0) (by decide +kernel)) (by decide +kernel)⟩
theorem lk_X2_36 : Lk RX2 36 m2_keepOneMoment 0 := ⟨ok_2_keepOneMoment, tG_of (List.mem_of_getElem? (i := 197) (by decide +kernel)) (by decide +kernel), by decide +kernel, by decide⟩
theorem ok_2_now : MOK m2_now := ⟨by decide +kernel, tG_of (List.mem_of_getElem? (i := 204) (by decide +kernel)) (by decide +kernel), tG_of (List.mem_of_getElem? (i := 28) (by decide +kernel)) (by decide +kernel), by decide +kernel, by decide +kernel⟩
theorem v_2_now : Jvm.Cond.instanceMethod (mY m2_now) ∈ tG ∧ Jvm.Cond.selects (mY m2_now).cls (mY m2_now) (mY m2_now) ∈ tG := ⟨tG_of (List.mem_of_getElem? (i := 202) (by decide +kernel)) (by decide +kernel), tG_of (List.mem_of_getElem? (i := 203) (by decide +kernel)) (by decide +kernel)⟩
