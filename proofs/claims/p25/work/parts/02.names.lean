def RX0 : String := "PictureScript$Chart"
def TX0 : u_T := fun k => match k with
  | 0 => ("PictureScript$Chart", "reached", "I", false)
  | 1 => ("PictureScript$Chart", "choices", "[I", true)
  | 2 => ("PictureScript$Chart", "lastChoice", "[I", true)
  | 3 => ("PictureScript$Chart", "lastOption", "[I", true)
  | 4 => ("PictureScript$Chart", "waiting", "[I", true)
  | 5 => ("PictureScript$Chart", "waitingCount", "I", false)
  | 6 => ("PictureScript$Chart", "endSituation", "[I", true)
  | _ => ("PictureScript$Chart", "moment", "LPictureScript$Moment;", true)
def tyX0 : Nat → FieldType := fun k => match k with
  | 0 => .int
  | 1 => .array .int
  | 2 => .array .int
  | 3 => .array .int
  | 4 => .array .int
  | 5 => .int
  | 6 => .array .int
  | _ => .object "PictureScript$Moment"
abbrev wsX00 : List Cond := u_ws RX0 TX0 8
theorem nmX0 : ∀ a, a < 8 → ∀ b, b < 8 → a ≠ b → (TX0 a).2.1 ≠ (TX0 b).2.1 := by decide +kernel
theorem tyX0_ok : ∀ k, k < 8 → parseFieldDescriptor (TX0 k).2.2.1 = some (tyX0 k) := by decide +kernel
abbrev cX0_init : ByteArray := prog_2_method_1_code
def yX0_init : MethodName := ⟨RX0, "<init>", "()V"⟩
abbrev cX0_draw : ByteArray := prog_2_method_2_code
def yX0_draw : MethodName := ⟨RX0, "draw", "(LPictureScript$Script;)V"⟩
abbrev cX0_reachedEnds : ByteArray := prog_2_method_4_code
def yX0_reachedEnds : MethodName := ⟨RX0, "reachedEnds", "()I"⟩
abbrev cX0_follow : ByteArray := prog_2_method_8_code
def yX0_follow : MethodName := ⟨RX0, "follow", "(LPictureScript$Script;III)V"⟩
abbrev cX0_arrive : ByteArray := prog_2_method_9_code
def yX0_arrive : MethodName := ⟨RX0, "arrive", "(LPictureScript$Script;I)V"⟩
abbrev cX0_isSituation : ByteArray := prog_2_method_11_code
def yX0_isSituation : MethodName := ⟨RX0, "isSituation", "(I)Z"⟩
abbrev cX0_nodeOf : ByteArray := prog_2_method_12_code
def yX0_nodeOf : MethodName := ⟨RX0, "nodeOf", "(I)I"⟩
abbrev cX0_flagsOf : ByteArray := prog_2_method_13_code
def yX0_flagsOf : MethodName := ⟨RX0, "flagsOf", "(I)I"⟩
def RX1 : String := "PictureScript$Moment"
def TX1 : u_T := fun k => match k with
  | 0 => ("PictureScript$Moment", "node", "I", false)
  | 1 => ("PictureScript$Moment", "flags", "I", false)
  | 2 => ("PictureScript$Moment", "voices", "[I", true)
  | _ => ("PictureScript$Moment", "faces", "[I", true)
def tyX1 : Nat → FieldType := fun k => match k with
  | 0 => .int
  | 1 => .int
  | 2 => .array .int
  | _ => .array .int
abbrev wsX10 : List Cond := u_ws RX1 TX1 4
theorem nmX1 : ∀ a, a < 4 → ∀ b, b < 4 → a ≠ b → (TX1 a).2.1 ≠ (TX1 b).2.1 := by decide +kernel
theorem tyX1_ok : ∀ k, k < 4 → parseFieldDescriptor (TX1 k).2.2.1 = some (tyX1 k) := by decide +kernel
abbrev cX1_init : ByteArray := prog_3_method_1_code
def yX1_init : MethodName := ⟨RX1, "<init>", "()V"⟩
abbrev cX1_makeEmpty : ByteArray := prog_3_method_2_code
def yX1_makeEmpty : MethodName := ⟨RX1, "makeEmpty", "()V"⟩
abbrev cX1_makeLike : ByteArray := prog_3_method_3_code
def yX1_makeLike : MethodName := ⟨RX1, "makeLike", "(LPictureScript$Moment;)V"⟩
abbrev cX1_comeFrom : ByteArray := prog_3_method_4_code
def yX1_comeFrom : MethodName := ⟨RX1, "comeFrom", "(LPictureScript$Script;I)V"⟩
abbrev cX1_carryOut : ByteArray := prog_3_method_5_code
def yX1_carryOut : MethodName := ⟨RX1, "carryOut", "(LPictureScript$Script;I)I"⟩
abbrev cX1_putAt : ByteArray := prog_3_method_6_code
def yX1_putAt : MethodName := ⟨RX1, "putAt", "(III)V"⟩
abbrev cX1_hide : ByteArray := prog_3_method_7_code
def yX1_hide : MethodName := ⟨RX1, "hide", "(I)V"⟩
def RX2 : String := "PictureScript$Play"
def TX2 : u_T := fun k => match k with
  | 0 => ("PictureScript$Play", "moments", "[LPictureScript$Moment;", true)
  | 1 => ("PictureScript$Play", "kept", "I", false)
  | 2 => ("PictureScript$Play", "present", "I", false)
  | 3 => ("PictureScript$Play", "saved", "[LPictureScript$Moment;", true)
  | 4 => ("PictureScript$Play", "isSaved", "[Z", true)
  | _ => ("PictureScript$Play", "seen", "[Z", true)
def tyX2 : Nat → FieldType := fun k => match k with
  | 0 => .array (.object "PictureScript$Moment")
  | 1 => .int
  | 2 => .int
  | 3 => .array (.object "PictureScript$Moment")
  | 4 => .array .boolean
  | _ => .array .boolean
abbrev wsX20 : List Cond := u_ws RX2 TX2 6
theorem nmX2 : ∀ a, a < 6 → ∀ b, b < 6 → a ≠ b → (TX2 a).2.1 ≠ (TX2 b).2.1 := by decide +kernel
theorem tyX2_ok : ∀ k, k < 6 → parseFieldDescriptor (TX2 k).2.2.1 = some (tyX2 k) := by decide +kernel
abbrev cX2_init : ByteArray := prog_4_method_1_code
def yX2_init : MethodName := ⟨RX2, "<init>", "()V"⟩
abbrev cX2_now : ByteArray := prog_4_method_2_code
def yX2_now : MethodName := ⟨RX2, "now", "()LPictureScript$Moment;"⟩
abbrev cX2_startScript : ByteArray := prog_4_method_3_code
def yX2_startScript : MethodName := ⟨RX2, "startScript", "(LPictureScript$Script;)V"⟩
abbrev cX2_startAnew : ByteArray := prog_4_method_4_code
def yX2_startAnew : MethodName := ⟨RX2, "startAnew", "(LPictureScript$Script;)V"⟩
abbrev cX2_goOn : ByteArray := prog_4_method_5_code
def yX2_goOn : MethodName := ⟨RX2, "goOn", "(LPictureScript$Script;I)Z"⟩
abbrev cX2_turnBack : ByteArray := prog_4_method_6_code
def yX2_turnBack : MethodName := ⟨RX2, "turnBack", "(I)Z"⟩
abbrev cX2_turnForth : ByteArray := prog_4_method_7_code
def yX2_turnForth : MethodName := ⟨RX2, "turnForth", "()Z"⟩
abbrev cX2_keepIn : ByteArray := prog_4_method_8_code
def yX2_keepIn : MethodName := ⟨RX2, "keepIn", "(I)V"⟩
abbrev cX2_takeFrom : ByteArray := prog_4_method_9_code
def yX2_takeFrom : MethodName := ⟨RX2, "takeFrom", "(I)Z"⟩
abbrev cX2_seenNodes : ByteArray := prog_4_method_10_code
def yX2_seenNodes : MethodName := ⟨RX2, "seenNodes", "()I"⟩
abbrev cX2_usedSlots : ByteArray := prog_4_method_11_code
def yX2_usedSlots : MethodName := ⟨RX2, "usedSlots", "()I"⟩
abbrev cX2_keepOneMoment : ByteArray := prog_4_method_12_code
def yX2_keepOneMoment : MethodName := ⟨RX2, "keepOneMoment", "()V"⟩
abbrev cX2_forgetEarliest : ByteArray := prog_4_method_13_code
def yX2_forgetEarliest : MethodName := ⟨RX2, "forgetEarliest", "()V"⟩
abbrev cX2_see : ByteArray := prog_4_method_14_code
def yX2_see : MethodName := ⟨RX2, "see", "(I)Z"⟩
def RX3 : String := "PictureScript$Script"
def TX3 : u_T := fun k => match k with
  | 0 => ("PictureScript$Script", "nodes", "I", false)
  | 1 => ("PictureScript$Script", "kinds", "[I", true)
  | 2 => ("PictureScript$Script", "numberCounts", "[I", true)
  | 3 => ("PictureScript$Script", "numbers", "[I", true)
  | 4 => ("PictureScript$Script", "optionCounts", "[I", true)
  | _ => ("PictureScript$Script", "optionParts", "[I", true)
def tyX3 : Nat → FieldType := fun k => match k with
  | 0 => .int
  | 1 => .array .int
  | 2 => .array .int
  | 3 => .array .int
  | 4 => .array .int
  | _ => .array .int
abbrev wsX30 : List Cond := u_ws RX3 TX3 6
theorem nmX3 : ∀ a, a < 6 → ∀ b, b < 6 → a ≠ b → (TX3 a).2.1 ≠ (TX3 b).2.1 := by decide +kernel
theorem tyX3_ok : ∀ k, k < 6 → parseFieldDescriptor (TX3 k).2.2.1 = some (tyX3 k) := by decide +kernel
abbrev cX3_init : ByteArray := prog_5_method_1_code
def yX3_init : MethodName := ⟨RX3, "<init>", "()V"⟩
abbrev cX3_clear : ByteArray := prog_5_method_2_code
def yX3_clear : MethodName := ⟨RX3, "clear", "()V"⟩
abbrev cX3_addNode : ByteArray := prog_5_method_3_code
def yX3_addNode : MethodName := ⟨RX3, "addNode", "(I)V"⟩
abbrev cX3_addNumber : ByteArray := prog_5_method_4_code
def yX3_addNumber : MethodName := ⟨RX3, "addNumber", "(I)V"⟩
abbrev cX3_addOption : ByteArray := prog_5_method_5_code
def yX3_addOption : MethodName := ⟨RX3, "addOption", "(III)V"⟩
abbrev cX3_has : ByteArray := prog_5_method_6_code
def yX3_has : MethodName := ⟨RX3, "has", "(I)Z"⟩
abbrev cX3_kindOf : ByteArray := prog_5_method_7_code
def yX3_kindOf : MethodName := ⟨RX3, "kindOf", "(I)I"⟩
abbrev cX3_optionsOf : ByteArray := prog_5_method_8_code
def yX3_optionsOf : MethodName := ⟨RX3, "optionsOf", "(I)I"⟩
abbrev cX3_numberOf : ByteArray := prog_5_method_9_code
def yX3_numberOf : MethodName := ⟨RX3, "numberOf", "(II)I"⟩
abbrev cX3_optionPart : ByteArray := prog_5_method_10_code
def yX3_optionPart : MethodName := ⟨RX3, "optionPart", "(III)I"⟩
abbrev cX3_isOpen : ByteArray := prog_5_method_11_code
def yX3_isOpen : MethodName := ⟨RX3, "isOpen", "(III)Z"⟩
abbrev cX3_openOptions : ByteArray := prog_5_method_12_code
def yX3_openOptions : MethodName := ⟨RX3, "openOptions", "(II)I"⟩
abbrev cX3_isShown : ByteArray := prog_5_method_13_code
def yX3_isShown : MethodName := ⟨RX3, "isShown", "(I)Z"⟩
abbrev cX3_shownKind : ByteArray := prog_5_method_14_code
def yX3_shownKind : MethodName := ⟨RX3, "shownKind", "(I)I"⟩
abbrev cX3_shownNumber : ByteArray := prog_5_method_15_code
def yX3_shownNumber : MethodName := ⟨RX3, "shownNumber", "(I)I"⟩
def RX4 : String := "PictureScript$Text"
def TX4 : u_T := fun k => match k with
  | 0 => ("PictureScript$Text", "length", "I", false)
  | 1 => ("PictureScript$Text", "bytes", "[B", true)
  | 2 => ("PictureScript$Text", "draft", "LPictureScript$Script;", false)
  | 3 => ("PictureScript$Text", "at", "I", false)
  | _ => ("PictureScript$Text", "number", "I", false)
def tyX4 : Nat → FieldType := fun k => match k with
  | 0 => .int
  | 1 => .array .byte
  | 2 => .object "PictureScript$Script"
  | 3 => .int
  | _ => .int
abbrev wsX40 : List Cond := u_ws RX4 TX4 5
theorem nmX4 : ∀ a, a < 5 → ∀ b, b < 5 → a ≠ b → (TX4 a).2.1 ≠ (TX4 b).2.1 := by decide +kernel
theorem tyX4_ok : ∀ k, k < 5 → parseFieldDescriptor (TX4 k).2.2.1 = some (tyX4 k) := by decide +kernel
abbrev cX4_init : ByteArray := prog_6_method_1_code
def yX4_init : MethodName := ⟨RX4, "<init>", "()V"⟩
abbrev cX4_append : ByteArray := prog_6_method_2_code
def yX4_append : MethodName := ⟨RX4, "append", "(B)Z"⟩
abbrev cX4_findFault : ByteArray := prog_6_method_4_code
def yX4_findFault : MethodName := ⟨RX4, "findFault", "()I"⟩
abbrev cX4_takeNode : ByteArray := prog_6_method_5_code
def yX4_takeNode : MethodName := ⟨RX4, "takeNode", "()Z"⟩
abbrev cX4_takeOptions : ByteArray := prog_6_method_6_code
def yX4_takeOptions : MethodName := ⟨RX4, "takeOptions", "()Z"⟩
abbrev cX4_takeOption : ByteArray := prog_6_method_7_code
def yX4_takeOption : MethodName := ⟨RX4, "takeOption", "()Z"⟩
abbrev cX4_addVoice : ByteArray := prog_6_method_8_code
def yX4_addVoice : MethodName := ⟨RX4, "addVoice", "()Z"⟩
abbrev cX4_addPlusOrMinus : ByteArray := prog_6_method_9_code
def yX4_addPlusOrMinus : MethodName := ⟨RX4, "addPlusOrMinus", "()Z"⟩
abbrev cX4_addDigit : ByteArray := prog_6_method_10_code
def yX4_addDigit : MethodName := ⟨RX4, "addDigit", "(I)Z"⟩
abbrev cX4_addNumber : ByteArray := prog_6_method_11_code
def yX4_addNumber : MethodName := ⟨RX4, "addNumber", "(I)Z"⟩
abbrev cX4_takeDigit : ByteArray := prog_6_method_12_code
def yX4_takeDigit : MethodName := ⟨RX4, "takeDigit", "(I)Z"⟩
abbrev cX4_takeNumber : ByteArray := prog_6_method_13_code
def yX4_takeNumber : MethodName := ⟨RX4, "takeNumber", "(I)Z"⟩
abbrev cX4_takeSign : ByteArray := prog_6_method_14_code
def yX4_takeSign : MethodName := ⟨RX4, "takeSign", "(C)Z"⟩
abbrev cX4_skipBlanks : ByteArray := prog_6_method_15_code
def yX4_skipBlanks : MethodName := ⟨RX4, "skipBlanks", "()V"⟩
abbrev cX4_isAtDigit : ByteArray := prog_6_method_16_code
def yX4_isAtDigit : MethodName := ⟨RX4, "isAtDigit", "()Z"⟩
abbrev cX4_isAtEnd : ByteArray := prog_6_method_17_code
def yX4_isAtEnd : MethodName := ⟨RX4, "isAtEnd", "()Z"⟩
abbrev cX4_here : ByteArray := prog_6_method_18_code
def yX4_here : MethodName := ⟨RX4, "here", "()I"⟩
def RX5 : String := "PictureScript"
def TX5 : u_T := fun k => match k with
  | 0 => ("PictureScript", "text", "LPictureScript$Text;", true)
  | 1 => ("PictureScript", "script", "LPictureScript$Script;", false)
  | 2 => ("PictureScript", "play", "LPictureScript$Play;", true)
  | _ => ("PictureScript", "chart", "LPictureScript$Chart;", true)
def tyX5 : Nat → FieldType := fun k => match k with
  | 0 => .object "PictureScript$Text"
  | 1 => .object "PictureScript$Script"
  | 2 => .object "PictureScript$Play"
  | _ => .object "PictureScript$Chart"
abbrev wsX50 : List Cond := u_ws RX5 TX5 4
theorem nmX5 : ∀ a, a < 4 → ∀ b, b < 4 → a ≠ b → (TX5 a).2.1 ≠ (TX5 b).2.1 := by decide +kernel
theorem tyX5_ok : ∀ k, k < 4 → parseFieldDescriptor (TX5 k).2.2.1 = some (tyX5 k) := by decide +kernel
abbrev cX5_init : ByteArray := prog_1_method_1_code
def yX5_init : MethodName := ⟨RX5, "<init>", "()V"⟩
abbrev cX5_type : ByteArray := prog_1_method_2_code
def yX5_type : MethodName := ⟨RX5, "type", "(I)I"⟩
abbrev cX5_clearText : ByteArray := prog_1_method_3_code
def yX5_clearText : MethodName := ⟨RX5, "clearText", "()I"⟩
abbrev cX5_fault : ByteArray := prog_1_method_4_code
def yX5_fault : MethodName := ⟨RX5, "fault", "()I"⟩
abbrev cX5_read : ByteArray := prog_1_method_5_code
def yX5_read : MethodName := ⟨RX5, "read", "()I"⟩
abbrev cX5_begin : ByteArray := prog_1_method_6_code
def yX5_begin : MethodName := ⟨RX5, "begin", "()I"⟩
abbrev cX5_go : ByteArray := prog_1_method_7_code
def yX5_go : MethodName := ⟨RX5, "go", "()I"⟩
abbrev cX5_choose : ByteArray := prog_1_method_8_code
def yX5_choose : MethodName := ⟨RX5, "choose", "(I)I"⟩
abbrev cX5_skip : ByteArray := prog_1_method_9_code
def yX5_skip : MethodName := ⟨RX5, "skip", "()I"⟩
abbrev cX5_back : ByteArray := prog_1_method_10_code
def yX5_back : MethodName := ⟨RX5, "back", "(I)I"⟩
abbrev cX5_again : ByteArray := prog_1_method_11_code
def yX5_again : MethodName := ⟨RX5, "again", "()I"⟩
abbrev cX5_save : ByteArray := prog_1_method_12_code
def yX5_save : MethodName := ⟨RX5, "save", "(I)I"⟩
abbrev cX5_restore : ByteArray := prog_1_method_13_code
def yX5_restore : MethodName := ⟨RX5, "restore", "(I)I"⟩
abbrev cX5_shown : ByteArray := prog_1_method_14_code
def yX5_shown : MethodName := ⟨RX5, "shown", "(I)I"⟩
abbrev cX5_portrait : ByteArray := prog_1_method_15_code
def yX5_portrait : MethodName := ⟨RX5, "portrait", "(IZ)I"⟩
abbrev cX5_count : ByteArray := prog_1_method_22_code
def yX5_count : MethodName := ⟨RX5, "count", "(I)I"⟩
abbrev cX5_isLineShown : ByteArray := prog_1_method_25_code
def yX5_isLineShown : MethodName := ⟨RX5, "isLineShown", "()Z"⟩
abbrev cX5_goOnFromLine : ByteArray := prog_1_method_26_code
def yX5_goOnFromLine : MethodName := ⟨RX5, "goOnFromLine", "()Z"⟩
abbrev cX5_endIndex : ByteArray := prog_1_method_27_code
def yX5_endIndex : MethodName := ⟨RX5, "endIndex", "(I)I"⟩
def RX6 : String := "PictureScriptModel"
def TX6 : u_T := fun k => match k with
  | _ => ("", "", "", false)
def tyX6 : Nat → FieldType := fun k => match k with
  | _ => .int
abbrev wsX60 : List Cond := u_ws RX6 TX6 0
theorem nmX6 : ∀ a, a < 0 → ∀ b, b < 0 → a ≠ b → (TX6 a).2.1 ≠ (TX6 b).2.1 := by decide +kernel
theorem tyX6_ok : ∀ k, k < 0 → parseFieldDescriptor (TX6 k).2.2.1 = some (tyX6 k) := by decide +kernel
def RJx145de : String := "java/io/Serializable"
def TJx145de : u_T := fun k => match k with
  | _ => ("", "", "", false)
def tyJx145de : Nat → FieldType := fun k => match k with
  | _ => .int
abbrev wsJx145de0 : List Cond := u_ws RJx145de TJx145de 0
theorem nmJx145de : ∀ a, a < 0 → ∀ b, b < 0 → a ≠ b → (TJx145de a).2.1 ≠ (TJx145de b).2.1 := by decide +kernel
theorem tyJx145de_ok : ∀ k, k < 0 → parseFieldDescriptor (TJx145de k).2.2.1 = some (tyJx145de k) := by decide +kernel
def RJx9f9b0 : String := "java/lang/CharSequence"
def TJx9f9b0 : u_T := fun k => match k with
  | _ => ("", "", "", false)
def tyJx9f9b0 : Nat → FieldType := fun k => match k with
  | _ => .int
abbrev wsJx9f9b00 : List Cond := u_ws RJx9f9b0 TJx9f9b0 0
theorem nmJx9f9b0 : ∀ a, a < 0 → ∀ b, b < 0 → a ≠ b → (TJx9f9b0 a).2.1 ≠ (TJx9f9b0 b).2.1 := by decide +kernel
theorem tyJx9f9b0_ok : ∀ k, k < 0 → parseFieldDescriptor (TJx9f9b0 k).2.2.1 = some (tyJx9f9b0 k) := by decide +kernel
def RJ11 : String := "java/lang/Character"
def TJ11 : u_T := fun k => match k with
  | _ => ("", "", "", false)
def tyJ11 : Nat → FieldType := fun k => match k with
  | _ => .int
abbrev wsJ110 : List Cond := u_ws RJ11 TJ11 0
theorem nmJ11 : ∀ a, a < 0 → ∀ b, b < 0 → a ≠ b → (TJ11 a).2.1 ≠ (TJ11 b).2.1 := by decide +kernel
theorem tyJ11_ok : ∀ k, k < 0 → parseFieldDescriptor (TJ11 k).2.2.1 = some (tyJ11 k) := by decide +kernel
abbrev cJ11_isValidCodePoint_9a6ad : ByteArray := prog_9_method_11_code
def yJ11_isValidCodePoint_9a6ad : MethodName := ⟨RJ11, "isValidCodePoint", "(I)Z"⟩
abbrev cJ11_highSurrogate_5068e : ByteArray := prog_9_method_28_code
def yJ11_highSurrogate_5068e : MethodName := ⟨RJ11, "highSurrogate", "(I)C"⟩
abbrev cJ11_lowSurrogate_5068e : ByteArray := prog_9_method_29_code
def yJ11_lowSurrogate_5068e : MethodName := ⟨RJ11, "lowSurrogate", "(I)C"⟩
def RJxb160c : String := "java/lang/Comparable"
def TJxb160c : u_T := fun k => match k with
  | _ => ("", "", "", false)
def tyJxb160c : Nat → FieldType := fun k => match k with
  | _ => .int
abbrev wsJxb160c0 : List Cond := u_ws RJxb160c TJxb160c 0
theorem nmJxb160c : ∀ a, a < 0 → ∀ b, b < 0 → a ≠ b → (TJxb160c a).2.1 ≠ (TJxb160c b).2.1 := by decide +kernel
theorem tyJxb160c_ok : ∀ k, k < 0 → parseFieldDescriptor (TJxb160c k).2.2.1 = some (tyJxb160c k) := by decide +kernel
def RJ9 : String := "java/lang/Math"
def TJ9 : u_T := fun k => match k with
  | _ => ("", "", "", false)
def tyJ9 : Nat → FieldType := fun k => match k with
  | _ => .int
abbrev wsJ90 : List Cond := u_ws RJ9 TJ9 0
theorem nmJ9 : ∀ a, a < 0 → ∀ b, b < 0 → a ≠ b → (TJ9 a).2.1 ≠ (TJ9 b).2.1 := by decide +kernel
theorem tyJ9_ok : ∀ k, k < 0 → parseFieldDescriptor (TJ9 k).2.2.1 = some (tyJ9 k) := by decide +kernel
abbrev cJ9_max_7cf53 : ByteArray := prog_10_method_65_code
def yJ9_max_7cf53 : MethodName := ⟨RJ9, "max", "(II)I"⟩
abbrev cJ9_min_7cf53 : ByteArray := prog_10_method_69_code
def yJ9_min_7cf53 : MethodName := ⟨RJ9, "min", "(II)I"⟩
def RJ0 : String := "java/lang/String"
def TJ0 : u_T := fun k => match k with
  | _ => ("", "", "", false)
def tyJ0 : Nat → FieldType := fun k => match k with
  | _ => .int
abbrev wsJ00 : List Cond := u_ws RJ0 TJ0 0
theorem nmJ0 : ∀ a, a < 0 → ∀ b, b < 0 → a ≠ b → (TJ0 a).2.1 ≠ (TJ0 b).2.1 := by decide +kernel
theorem tyJ0_ok : ∀ k, k < 0 → parseFieldDescriptor (TJ0 k).2.2.1 = some (tyJ0 k) := by decide +kernel
abbrev cJ0_length_8abf5 : ByteArray := prog_11_method_54_code
def yJ0_length_8abf5 : MethodName := ⟨RJ0, "length", "()I"⟩
abbrev cJ0_indexOf_0f7a4 : ByteArray := prog_11_method_79_code
def yJ0_indexOf_0f7a4 : MethodName := ⟨RJ0, "indexOf", "(I)I"⟩
abbrev cJ0_indexOf_7cf53 : ByteArray := prog_11_method_80_code
def yJ0_indexOf_7cf53 : MethodName := ⟨RJ0, "indexOf", "(II)I"⟩
abbrev cJ0_coder_7d493 : ByteArray := prog_11_method_152_code
def yJ0_coder_7d493 : MethodName := ⟨RJ0, "coder", "()B"⟩
abbrev cJ0_isLatin1_aae02 : ByteArray := prog_11_method_154_code
def yJ0_isLatin1_aae02 : MethodName := ⟨RJ0, "isLatin1", "()Z"⟩
abbrev cJ0_checkBoundsBeginEnd_23922 : ByteArray := prog_11_method_158_code
def yJ0_checkBoundsBeginEnd_23922 : MethodName := ⟨RJ0, "checkBoundsBeginEnd", "(III)V"⟩
def RJ1 : String := "java/lang/StringLatin1"
def TJ1 : u_T := fun k => match k with
  | _ => ("", "", "", false)
def tyJ1 : Nat → FieldType := fun k => match k with
  | _ => .int
abbrev wsJ10 : List Cond := u_ws RJ1 TJ1 0
theorem nmJ1 : ∀ a, a < 0 → ∀ b, b < 0 → a ≠ b → (TJ1 a).2.1 ≠ (TJ1 b).2.1 := by decide +kernel
theorem tyJ1_ok : ∀ k, k < 0 → parseFieldDescriptor (TJ1 k).2.2.1 = some (tyJ1 k) := by decide +kernel
abbrev cJ1_canEncode_9a6ad : ByteArray := prog_12_method_4_code
def yJ1_canEncode_9a6ad : MethodName := ⟨RJ1, "canEncode", "(I)Z"⟩
abbrev cJ1_indexOf_4cfef : ByteArray := prog_12_method_22_code
def yJ1_indexOf_4cfef : MethodName := ⟨RJ1, "indexOf", "([BIII)I"⟩
abbrev cJ1_indexOfChar_4cfef : ByteArray := prog_12_method_23_code
def yJ1_indexOfChar_4cfef : MethodName := ⟨RJ1, "indexOfChar", "([BIII)I"⟩
def RJ2 : String := "java/lang/StringUTF16"
def TJ2 : u_T := fun k => match k with
  | _ => ("", "", "", false)
def tyJ2 : Nat → FieldType := fun k => match k with
  | _ => .int
abbrev wsJ20 : List Cond := u_ws RJ2 TJ2 0
theorem nmJ2 : ∀ a, a < 0 → ∀ b, b < 0 → a ≠ b → (TJ2 a).2.1 ≠ (TJ2 b).2.1 := by decide +kernel
theorem tyJ2_ok : ∀ k, k < 0 → parseFieldDescriptor (TJ2 k).2.2.1 = some (tyJ2 k) := by decide +kernel
abbrev cJ2_getChar_3b067 : ByteArray := prog_13_method_5_code
def yJ2_getChar_3b067 : MethodName := ⟨RJ2, "getChar", "([BI)C"⟩
abbrev cJ2_length_9d52b : ByteArray := prog_13_method_6_code
def yJ2_length_9d52b : MethodName := ⟨RJ2, "length", "([B)I"⟩
abbrev cJ2_indexOf_4cfef : ByteArray := prog_13_method_40_code
def yJ2_indexOf_4cfef : MethodName := ⟨RJ2, "indexOf", "([BIII)I"⟩
abbrev cJ2_indexOfChar_4cfef : ByteArray := prog_13_method_47_code
def yJ2_indexOfChar_4cfef : MethodName := ⟨RJ2, "indexOfChar", "([BIII)I"⟩
abbrev cJ2_indexOfCharUnsafe_4cfef : ByteArray := prog_13_method_48_code
def yJ2_indexOfCharUnsafe_4cfef : MethodName := ⟨RJ2, "indexOfCharUnsafe", "([BIII)I"⟩
abbrev cJ2_indexOfSupplementary_4cfef : ByteArray := prog_13_method_49_code
def yJ2_indexOfSupplementary_4cfef : MethodName := ⟨RJ2, "indexOfSupplementary", "([BIII)I"⟩
abbrev cJ2_checkBoundsBeginEnd_d044e : ByteArray := prog_13_method_93_code
def yJ2_checkBoundsBeginEnd_d044e : MethodName := ⟨RJ2, "checkBoundsBeginEnd", "(II[B)V"⟩
def RJ10 : String := "java/lang/System"
def TJ10 : u_T := fun k => match k with
  | _ => ("", "", "", false)
def tyJ10 : Nat → FieldType := fun k => match k with
  | _ => .int
abbrev wsJ100 : List Cond := u_ws RJ10 TJ10 0
theorem nmJ10 : ∀ a, a < 0 → ∀ b, b < 0 → a ≠ b → (TJ10 a).2.1 ≠ (TJ10 b).2.1 := by decide +kernel
theorem tyJ10_ok : ∀ k, k < 0 → parseFieldDescriptor (TJ10 k).2.2.1 = some (tyJ10 k) := by decide +kernel
def RJxfd54e : String := "java/lang/constant/Constable"
def TJxfd54e : u_T := fun k => match k with
  | _ => ("", "", "", false)
def tyJxfd54e : Nat → FieldType := fun k => match k with
  | _ => .int
abbrev wsJxfd54e0 : List Cond := u_ws RJxfd54e TJxfd54e 0
theorem nmJxfd54e : ∀ a, a < 0 → ∀ b, b < 0 → a ≠ b → (TJxfd54e a).2.1 ≠ (TJxfd54e b).2.1 := by decide +kernel
theorem tyJxfd54e_ok : ∀ k, k < 0 → parseFieldDescriptor (TJxfd54e k).2.2.1 = some (tyJxfd54e k) := by decide +kernel
def RJx3cf43 : String := "java/lang/constant/ConstantDesc"
def TJx3cf43 : u_T := fun k => match k with
  | _ => ("", "", "", false)
def tyJx3cf43 : Nat → FieldType := fun k => match k with
  | _ => .int
abbrev wsJx3cf430 : List Cond := u_ws RJx3cf43 TJx3cf43 0
theorem nmJx3cf43 : ∀ a, a < 0 → ∀ b, b < 0 → a ≠ b → (TJx3cf43 a).2.1 ≠ (TJx3cf43 b).2.1 := by decide +kernel
theorem tyJx3cf43_ok : ∀ k, k < 0 → parseFieldDescriptor (TJx3cf43 k).2.2.1 = some (tyJx3cf43 k) := by decide +kernel
def RJ7 : String := "java/util/Arrays"
def TJ7 : u_T := fun k => match k with
  | _ => ("", "", "", false)
def tyJ7 : Nat → FieldType := fun k => match k with
  | _ => .int
abbrev wsJ70 : List Cond := u_ws RJ7 TJ7 0
theorem nmJ7 : ∀ a, a < 0 → ∀ b, b < 0 → a ≠ b → (TJ7 a).2.1 ≠ (TJ7 b).2.1 := by decide +kernel
theorem tyJ7_ok : ∀ k, k < 0 → parseFieldDescriptor (TJ7 k).2.2.1 = some (tyJ7 k) := by decide +kernel
abbrev cJ7_fill_53178 : ByteArray := prog_15_method_103_code
def yJ7_fill_53178 : MethodName := ⟨RJ7, "fill", "([II)V"⟩
def RJ3 : String := "jdk/internal/util/Preconditions"
def TJ3 : u_T := fun k => match k with
  | _ => ("", "", "", false)
def tyJ3 : Nat → FieldType := fun k => match k with
  | _ => .int
abbrev wsJ30 : List Cond := u_ws RJ3 TJ3 0
theorem nmJ3 : ∀ a, a < 0 → ∀ b, b < 0 → a ≠ b → (TJ3 a).2.1 ≠ (TJ3 b).2.1 := by decide +kernel
theorem tyJ3_ok : ∀ k, k < 0 → parseFieldDescriptor (TJ3 k).2.2.1 = some (tyJ3 k) := by decide +kernel
abbrev cJ3_checkFromToIndex_8c36e : ByteArray := prog_16_method_12_code
def yJ3_checkFromToIndex_8c36e : MethodName := ⟨RJ3, "checkFromToIndex", "(IIILjava/util/function/BiFunction;)I"⟩
def RL : String := "PictureScriptLaw"
abbrev cL_cell : ByteArray := method_2_code
def yL_cell : MethodName := ⟨RL, "cell", "([II)I"⟩
abbrev cL_low : ByteArray := method_3_code
def yL_low : MethodName := ⟨RL, "low", "(II)I"⟩
abbrev cL_low5 : ByteArray := method_4_code
def yL_low5 : MethodName := ⟨RL, "low5", "(II)I"⟩
abbrev cL_shownKind : ByteArray := method_5_code
def yL_shownKind : MethodName := ⟨RL, "shownKind", "([II)I"⟩
abbrev cL_without : ByteArray := method_6_code
def yL_without : MethodName := ⟨RL, "without", "(II)I"⟩
abbrev cL_carries : ByteArray := method_7_code
def yL_carries : MethodName := ⟨RL, "carries", "([I[II)V"⟩
abbrev cL_isOpen : ByteArray := method_8_code
def yL_isOpen : MethodName := ⟨RL, "isOpen", "([IIII)Z"⟩
abbrev cL_openOnes : ByteArray := method_9_code
def yL_openOnes : MethodName := ⟨RL, "openOnes", "([III)I"⟩
abbrev cL_endOf : ByteArray := method_10_code
def yL_endOf : MethodName := ⟨RL, "endOf", "([II)I"⟩
abbrev cL_typesNumber : ByteArray := method_11_code
def yL_typesNumber : MethodName := ⟨RL, "typesNumber", "(LPictureScript;I)Z"⟩
abbrev cL_typesNode : ByteArray := method_12_code
def yL_typesNode : MethodName := ⟨RL, "typesNode", "(LPictureScript;[IIIII)Z"⟩
abbrev cL_reads : ByteArray := method_13_code
def yL_reads : MethodName := ⟨RL, "reads", "(LPictureScript;[I[III)Z"⟩
abbrev cL_isShown : ByteArray := method_14_code
def yL_isShown : MethodName := ⟨RL, "isShown", "(LPictureScript;[I[I)Z"⟩
abbrev cL_begins : ByteArray := method_15_code
def yL_begins : MethodName := ⟨RL, "begins", "([I[I)V"⟩
abbrev cL_takes : ByteArray := method_16_code
def yL_takes : MethodName := ⟨RL, "takes", "([I[II)V"⟩
abbrev cL_puts : ByteArray := method_17_code
def yL_puts : MethodName := ⟨RL, "puts", "([I[I)V"⟩
abbrev cL_starts : ByteArray := method_18_code
def yL_starts : MethodName := ⟨RL, "starts", "([I[I[I)V"⟩
abbrev cL_goes : ByteArray := method_19_code
def yL_goes : MethodName := ⟨RL, "goes", "(LPictureScript;[I[I[I)Z"⟩
abbrev cL_skips : ByteArray := method_20_code
def yL_skips : MethodName := ⟨RL, "skips", "(LPictureScript;[I[I[I)Z"⟩
abbrev cL_chooses : ByteArray := method_21_code
def yL_chooses : MethodName := ⟨RL, "chooses", "(LPictureScript;[I[I[II)Z"⟩
abbrev cL_turns : ByteArray := method_22_code
def yL_turns : MethodName := ⟨RL, "turns", "(LPictureScript;[I[II)Z"⟩
abbrev cL_again : ByteArray := method_23_code
def yL_again : MethodName := ⟨RL, "again", "(LPictureScript;[I[I)Z"⟩
abbrev cL_seen : ByteArray := method_24_code
def yL_seen : MethodName := ⟨RL, "seen", "([I)I"⟩
abbrev cL_law : ByteArray := code
def yL_law : MethodName := ⟨RL, "law", "([I)Z"⟩
abbrev vwCl : List vw_C := [(RX0, TX0, 8), (RX1, TX1, 4), (RX2, TX2, 6), (RX3, TX3, 6), (RX4, TX4, 5), (RX5, TX5, 4)]
set_option maxRecDepth 20000 in
theorem inX0 : ∀ w ∈ wsX00, w ∈ lw_tbl := by decide +kernel
set_option maxRecDepth 20000 in
theorem inX1 : ∀ w ∈ wsX10, w ∈ lw_tbl := by decide +kernel
set_option maxRecDepth 20000 in
theorem inX2 : ∀ w ∈ wsX20, w ∈ lw_tbl := by decide +kernel
set_option maxRecDepth 20000 in
theorem inX3 : ∀ w ∈ wsX30, w ∈ lw_tbl := by decide +kernel
set_option maxRecDepth 20000 in
theorem inX4 : ∀ w ∈ wsX40, w ∈ lw_tbl := by decide +kernel
set_option maxRecDepth 20000 in
theorem inX5 : ∀ w ∈ wsX50, w ∈ lw_tbl := by decide +kernel
