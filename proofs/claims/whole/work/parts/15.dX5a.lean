/-! ===== decode rows of X5 ===== -/
theorem d5_init_0 : Dal m5_init 0 0 1 := Or.inl ⟨0, by decide +kernel, rfl, rfl⟩
theorem d5_init_1 : Doi m5_init 1 4 := ⟨3, by decide +kernel, oi_X5_3, oi_i, oi_c, rfl⟩
theorem d5_init_4 : Dal m5_init 4 0 5 := Or.inl ⟨0, by decide +kernel, rfl, rfl⟩
theorem d5_init_5 : Dnew m5_init 5 4 5 [vI 0, vN, vN, vI 0, vI 0] 8 := ⟨9, RX4, TX4, tyX4, by decide +kernel, rfl, inGX4, tyX4_ok, tG_of (List.mem_of_getElem? (i := 87) (by decide +kernel)) (by decide +kernel), tG_of (List.mem_of_getElem? (i := 88) (by decide +kernel)) (by decide +kernel), tG_of (List.mem_of_getElem? (i := 65) (by decide +kernel)) (by decide +kernel), nw_X4.1, nw_X4.2, rfl⟩
theorem d5_init_8 : Dc m5_init 8 .dup 1 9 := ⟨by decide +kernel, rfl⟩
theorem d5_init_9 : Dii m5_init 9 m4_init 12 := ⟨11, by decide +kernel, ok_4_init, (Or.inr ⟨RX5, by decide +kernel⟩), by decide +kernel, by decide, rfl, i_4_init, rfl, rfl⟩
theorem d5_init_12 : Dpf m5_init 12 5 0 (.object "PictureScript$Text") true 15 := ⟨12, by decide +kernel, f_X5_12, p_X5_X5_0, rfl⟩
theorem d5_init_15 : Dal m5_init 15 0 16 := Or.inl ⟨0, by decide +kernel, rfl, rfl⟩
theorem d5_init_16 : Dnew m5_init 16 3 6 [vI 0, vN, vN, vN, vN, vN] 19 := ⟨16, RX3, TX3, tyX3, by decide +kernel, rfl, inGX3, tyX3_ok, tG_of (List.mem_of_getElem? (i := 139) (by decide +kernel)) (by decide +kernel), tG_of (List.mem_of_getElem? (i := 94) (by decide +kernel)) (by decide +kernel), tG_of (List.mem_of_getElem? (i := 66) (by decide +kernel)) (by decide +kernel), nw_X3.1, nw_X3.2, rfl⟩
theorem d5_init_19 : Dc m5_init 19 .dup 1 20 := ⟨by decide +kernel, rfl⟩
theorem d5_init_20 : Dii m5_init 20 m3_init 23 := ⟨18, by decide +kernel, ok_3_init, (Or.inr ⟨RX5, by decide +kernel⟩), by decide +kernel, by decide, rfl, i_3_init, rfl, rfl⟩
theorem d5_init_23 : Dpf m5_init 23 5 1 (.object "PictureScript$Script") false 26 := ⟨19, by decide +kernel, f_X5_19, p_X5_X5_1, rfl⟩
theorem d5_init_26 : Dal m5_init 26 0 27 := Or.inl ⟨0, by decide +kernel, rfl, rfl⟩
theorem d5_init_27 : Dnew m5_init 27 2 6 [vN, vI 0, vI 0, vN, vN, vN] 30 := ⟨23, RX2, TX2, tyX2, by decide +kernel, rfl, inGX2, tyX2_ok, tG_of (List.mem_of_getElem? (i := 141) (by decide +kernel)) (by decide +kernel), tG_of (List.mem_of_getElem? (i := 142) (by decide +kernel)) (by decide +kernel), tG_of (List.mem_of_getElem? (i := 67) (by decide +kernel)) (by decide +kernel), nw_X2.1, nw_X2.2, rfl⟩
theorem d5_init_30 : Dc m5_init 30 .dup 1 31 := ⟨by decide +kernel, rfl⟩
theorem d5_init_31 : Dii m5_init 31 m2_init 34 := ⟨25, by decide +kernel, ok_2_init, (Or.inl l_X5_25), by decide +kernel, by decide, rfl, i_2_init, rfl, rfl⟩
theorem d5_init_34 : Dpf m5_init 34 5 2 (.object "PictureScript$Play") true 37 := ⟨26, by decide +kernel, f_X5_26, p_X5_X5_2, rfl⟩
theorem d5_init_37 : Dal m5_init 37 0 38 := Or.inl ⟨0, by decide +kernel, rfl, rfl⟩
theorem d5_init_38 : Dnew m5_init 38 0 8 [vI 0, vN, vN, vN, vN, vI 0, vN, vN] 41 := ⟨30, RX0, TX0, tyX0, by decide +kernel, rfl, inGX0, tyX0_ok, tG_of (List.mem_of_getElem? (i := 196) (by decide +kernel)) (by decide +kernel), tG_of (List.mem_of_getElem? (i := 197) (by decide +kernel)) (by decide +kernel), tG_of (List.mem_of_getElem? (i := 69) (by decide +kernel)) (by decide +kernel), nw_X0.1, nw_X0.2, rfl⟩
theorem d5_init_41 : Dc m5_init 41 .dup 1 42 := ⟨by decide +kernel, rfl⟩
theorem d5_init_42 : Dii m5_init 42 m0_init 45 := ⟨32, by decide +kernel, ok_0_init, (Or.inr ⟨RX5, by decide +kernel⟩), by decide +kernel, by decide, rfl, i_0_init, rfl, rfl⟩
theorem d5_init_45 : Dpf m5_init 45 5 3 (.object "PictureScript$Chart") true 48 := ⟨33, by decide +kernel, f_X5_33, p_X5_X5_3, rfl⟩
theorem d5_init_48 : Dal m5_init 48 0 49 := Or.inl ⟨0, by decide +kernel, rfl, rfl⟩
theorem d5_init_49 : Dgf m5_init 49 5 2 52 := ⟨26, by decide +kernel, f_X5_26, rfl⟩
theorem d5_init_52 : Dal m5_init 52 0 53 := Or.inl ⟨0, by decide +kernel, rfl, rfl⟩
theorem d5_init_53 : Dgf m5_init 53 5 1 56 := ⟨19, by decide +kernel, f_X5_19, rfl⟩
theorem d5_init_56 : Div m5_init 56 m2_startScript 1 59 := ⟨37, by decide +kernel, lk_X5_37, v_2_startScript, rfl⟩
theorem d5_init_59 : Dal m5_init 59 0 60 := Or.inl ⟨0, by decide +kernel, rfl, rfl⟩
theorem d5_init_60 : Dgf m5_init 60 5 3 63 := ⟨33, by decide +kernel, f_X5_33, rfl⟩
theorem d5_init_63 : Dal m5_init 63 0 64 := Or.inl ⟨0, by decide +kernel, rfl, rfl⟩
theorem d5_init_64 : Dgf m5_init 64 5 1 67 := ⟨19, by decide +kernel, f_X5_19, rfl⟩
theorem d5_init_67 : Div m5_init 67 m0_draw 1 70 := ⟨41, by decide +kernel, lk_X5_41, v_0_draw, rfl⟩
theorem d5_init_70 : mR m5_init = none ∧ decode (mB m5_init) 70 = .ok (.return_, 1) := ⟨rfl, by decide +kernel⟩
theorem d5_type_0 : Dil m5_type 0 1 1 := Or.inl ⟨1, by decide +kernel, rfl, rfl⟩
theorem d5_type_1 : Dif m5_type 1 .lt 10 4 := ⟨(9), by decide +kernel, by decide, rfl⟩
theorem d5_type_4 : Dil m5_type 4 1 5 := Or.inl ⟨1, by decide +kernel, rfl, rfl⟩
theorem d5_type_5 : Dc m5_type 5 (.bipush 127) 2 7 := ⟨by decide +kernel, rfl⟩
theorem d5_type_7 : Dic m5_type 7 .le 13 10 := ⟨(6), by decide +kernel, by decide, rfl⟩
theorem d5_type_10 : Dc m5_type 10 (.bipush (-12)) 2 12 := ⟨by decide +kernel, rfl⟩
theorem d5_type_12 : mR m5_type = some .int ∧ decode (mB m5_type) 12 = .ok (.ireturn, 1) := ⟨rfl, by decide +kernel⟩
theorem d5_type_13 : Dal m5_type 13 0 14 := Or.inl ⟨0, by decide +kernel, rfl, rfl⟩
theorem d5_type_14 : Dgf m5_type 14 5 0 17 := ⟨12, by decide +kernel, f_X5_12, rfl⟩
theorem d5_type_17 : Dil m5_type 17 1 18 := Or.inl ⟨1, by decide +kernel, rfl, rfl⟩
theorem d5_type_18 : Dc m5_type 18 .i2b 1 19 := ⟨by decide +kernel, rfl⟩
theorem d5_type_19 : Div m5_type 19 m4_append 1 22 := ⟨44, by decide +kernel, lk_X5_44, v_4_append, rfl⟩
theorem d5_type_22 : Dif m5_type 22 .eq 35 25 := ⟨(13), by decide +kernel, by decide, rfl⟩
theorem d5_type_25 : Dal m5_type 25 0 26 := Or.inl ⟨0, by decide +kernel, rfl, rfl⟩
theorem d5_type_26 : Dgf m5_type 26 5 0 29 := ⟨12, by decide +kernel, f_X5_12, rfl⟩
theorem d5_type_29 : Dgf m5_type 29 4 0 32 := ⟨48, by decide +kernel, f_X5_48, rfl⟩
theorem d5_type_32 : Dgo m5_type 32 37 := ⟨5, by decide +kernel, by decide⟩
theorem d5_type_35 : Dc m5_type 35 (.bipush (-14)) 2 37 := ⟨by decide +kernel, rfl⟩
theorem d5_type_37 : mR m5_type = some .int ∧ decode (mB m5_type) 37 = .ok (.ireturn, 1) := ⟨rfl, by decide +kernel⟩
theorem d5_clearText_0 : Dal m5_clearText 0 0 1 := Or.inl ⟨0, by decide +kernel, rfl, rfl⟩
theorem d5_clearText_1 : Dgf m5_clearText 1 5 0 4 := ⟨12, by decide +kernel, f_X5_12, rfl⟩
theorem d5_clearText_4 : Dgf m5_clearText 4 4 0 7 := ⟨48, by decide +kernel, f_X5_48, rfl⟩
theorem d5_clearText_7 : Dis m5_clearText 7 1 8 := Or.inl ⟨1, by decide +kernel, rfl, rfl⟩
theorem d5_clearText_8 : Dal m5_clearText 8 0 9 := Or.inl ⟨0, by decide +kernel, rfl, rfl⟩
theorem d5_clearText_9 : Dgf m5_clearText 9 5 0 12 := ⟨12, by decide +kernel, f_X5_12, rfl⟩
theorem d5_clearText_12 : Dc m5_clearText 12 (.iconst 0) 1 13 := ⟨by decide +kernel, rfl⟩
theorem d5_clearText_13 : Dpf m5_clearText 13 4 0 .int false 16 := ⟨48, by decide +kernel, f_X5_48, p_X5_X4_0, rfl⟩
theorem d5_clearText_16 : Dil m5_clearText 16 1 17 := Or.inl ⟨1, by decide +kernel, rfl, rfl⟩
theorem d5_clearText_17 : mR m5_clearText = some .int ∧ decode (mB m5_clearText) 17 = .ok (.ireturn, 1) := ⟨rfl, by decide +kernel⟩
theorem d5_fault_0 : Dal m5_fault 0 0 1 := Or.inl ⟨0, by decide +kernel, rfl, rfl⟩
theorem d5_fault_1 : Dgf m5_fault 1 5 0 4 := ⟨12, by decide +kernel, f_X5_12, rfl⟩
theorem d5_fault_4 : Div m5_fault 4 m4_findFault 0 7 := ⟨52, by decide +kernel, lk_X5_52, v_4_findFault, rfl⟩
theorem d5_fault_7 : mR m5_fault = some .int ∧ decode (mB m5_fault) 7 = .ok (.ireturn, 1) := ⟨rfl, by decide +kernel⟩
theorem d5_read_0 : Dal m5_read 0 0 1 := Or.inl ⟨0, by decide +kernel, rfl, rfl⟩
theorem d5_read_1 : Dgf m5_read 1 5 0 4 := ⟨12, by decide +kernel, f_X5_12, rfl⟩
theorem d5_read_4 : Div m5_read 4 m4_findFault 0 7 := ⟨52, by decide +kernel, lk_X5_52, v_4_findFault, rfl⟩
theorem d5_read_7 : Dc m5_read 7 (.bipush (-11)) 2 9 := ⟨by decide +kernel, rfl⟩
theorem d5_read_9 : Dic m5_read 9 .eq 15 12 := ⟨(6), by decide +kernel, by decide, rfl⟩
theorem d5_read_12 : Dc m5_read 12 (.bipush (-13)) 2 14 := ⟨by decide +kernel, rfl⟩
theorem d5_read_14 : mR m5_read = some .int ∧ decode (mB m5_read) 14 = .ok (.ireturn, 1) := ⟨rfl, by decide +kernel⟩
theorem d5_read_15 : Dal m5_read 15 0 16 := Or.inl ⟨0, by decide +kernel, rfl, rfl⟩
theorem d5_read_16 : Dgf m5_read 16 5 1 19 := ⟨19, by decide +kernel, f_X5_19, rfl⟩
theorem d5_read_19 : Das m5_read 19 1 20 := Or.inl ⟨1, by decide +kernel, rfl, rfl⟩
theorem d5_read_20 : Dal m5_read 20 0 21 := Or.inl ⟨0, by decide +kernel, rfl, rfl⟩
theorem d5_read_21 : Dal m5_read 21 0 22 := Or.inl ⟨0, by decide +kernel, rfl, rfl⟩
theorem d5_read_22 : Dgf m5_read 22 5 0 25 := ⟨12, by decide +kernel, f_X5_12, rfl⟩
theorem d5_read_25 : Dgf m5_read 25 4 2 28 := ⟨56, by decide +kernel, f_X5_56, rfl⟩
theorem d5_read_28 : Dpf m5_read 28 5 1 (.object "PictureScript$Script") false 31 := ⟨19, by decide +kernel, f_X5_19, p_X5_X5_1, rfl⟩
theorem d5_read_31 : Dal m5_read 31 0 32 := Or.inl ⟨0, by decide +kernel, rfl, rfl⟩
theorem d5_read_32 : Dgf m5_read 32 5 0 35 := ⟨12, by decide +kernel, f_X5_12, rfl⟩
theorem d5_read_35 : Dal m5_read 35 1 36 := Or.inl ⟨1, by decide +kernel, rfl, rfl⟩
theorem d5_read_36 : Dpf m5_read 36 4 2 (.object "PictureScript$Script") false 39 := ⟨56, by decide +kernel, f_X5_56, p_X5_X4_2, rfl⟩
theorem d5_read_39 : Dal m5_read 39 0 40 := Or.inl ⟨0, by decide +kernel, rfl, rfl⟩
theorem d5_read_40 : Dgf m5_read 40 5 2 43 := ⟨26, by decide +kernel, f_X5_26, rfl⟩
theorem d5_read_43 : Dal m5_read 43 0 44 := Or.inl ⟨0, by decide +kernel, rfl, rfl⟩
theorem d5_read_44 : Dgf m5_read 44 5 1 47 := ⟨19, by decide +kernel, f_X5_19, rfl⟩
theorem d5_read_47 : Div m5_read 47 m2_startScript 1 50 := ⟨37, by decide +kernel, lk_X5_37, v_2_startScript, rfl⟩
theorem d5_read_50 : Dal m5_read 50 0 51 := Or.inl ⟨0, by decide +kernel, rfl, rfl⟩
theorem d5_read_51 : Dgf m5_read 51 5 3 54 := ⟨33, by decide +kernel, f_X5_33, rfl⟩
theorem d5_read_54 : Dal m5_read 54 0 55 := Or.inl ⟨0, by decide +kernel, rfl, rfl⟩
theorem d5_read_55 : Dgf m5_read 55 5 1 58 := ⟨19, by decide +kernel, f_X5_19, rfl⟩
theorem d5_read_58 : Div m5_read 58 m0_draw 1 61 := ⟨41, by decide +kernel, lk_X5_41, v_0_draw, rfl⟩
theorem d5_read_61 : Dal m5_read 61 0 62 := Or.inl ⟨0, by decide +kernel, rfl, rfl⟩
theorem d5_read_62 : Dgf m5_read 62 5 1 65 := ⟨19, by decide +kernel, f_X5_19, rfl⟩
theorem d5_read_65 : Dgf m5_read 65 3 0 68 := ⟨59, by decide +kernel, f_X5_59, rfl⟩
theorem d5_read_68 : mR m5_read = some .int ∧ decode (mB m5_read) 68 = .ok (.ireturn, 1) := ⟨rfl, by decide +kernel⟩
theorem d5_begin_0 : Dal m5_begin 0 0 1 := Or.inl ⟨0, by decide +kernel, rfl, rfl⟩
theorem d5_begin_1 : Dgf m5_begin 1 5 2 4 := ⟨26, by decide +kernel, f_X5_26, rfl⟩
theorem d5_begin_4 : Dal m5_begin 4 0 5 := Or.inl ⟨0, by decide +kernel, rfl, rfl⟩
theorem d5_begin_5 : Dgf m5_begin 5 5 1 8 := ⟨19, by decide +kernel, f_X5_19, rfl⟩
theorem d5_begin_8 : Div m5_begin 8 m2_startAnew 1 11 := ⟨62, by decide +kernel, lk_X5_62, v_2_startAnew, rfl⟩
theorem d5_begin_11 : Dal m5_begin 11 0 12 := Or.inl ⟨0, by decide +kernel, rfl, rfl⟩
theorem d5_begin_12 : Dgf m5_begin 12 5 2 15 := ⟨26, by decide +kernel, f_X5_26, rfl⟩
theorem d5_begin_15 : Div m5_begin 15 m2_now 0 18 := ⟨65, by decide +kernel, lk_X5_65, v_2_now, rfl⟩
theorem d5_begin_18 : Dgf m5_begin 18 1 0 21 := ⟨69, by decide +kernel, f_X5_69, rfl⟩
theorem d5_begin_21 : mR m5_begin = some .int ∧ decode (mB m5_begin) 21 = .ok (.ireturn, 1) := ⟨rfl, by decide +kernel⟩
theorem d5_go_0 : Dal m5_go 0 0 1 := Or.inl ⟨0, by decide +kernel, rfl, rfl⟩
theorem d5_go_1 : Div m5_go 1 m5_isLineShown 0 4 := ⟨74, by decide +kernel, lk_X5_74, v_5_isLineShown, rfl⟩
theorem d5_go_4 : Dif m5_go 4 .ne 10 7 := ⟨(6), by decide +kernel, by decide, rfl⟩
theorem d5_go_7 : Dc m5_go 7 (.bipush (-13)) 2 9 := ⟨by decide +kernel, rfl⟩
theorem d5_go_9 : mR m5_go = some .int ∧ decode (mB m5_go) 9 = .ok (.ireturn, 1) := ⟨rfl, by decide +kernel⟩
theorem d5_go_10 : Dal m5_go 10 0 11 := Or.inl ⟨0, by decide +kernel, rfl, rfl⟩
theorem d5_go_11 : Div m5_go 11 m5_goOnFromLine 0 14 := ⟨78, by decide +kernel, lk_X5_78, v_5_goOnFromLine, rfl⟩
theorem d5_go_14 : Dc m5_go 14 .pop 1 15 := ⟨by decide +kernel, rfl⟩
theorem d5_go_15 : Dal m5_go 15 0 16 := Or.inl ⟨0, by decide +kernel, rfl, rfl⟩
theorem d5_go_16 : Dgf m5_go 16 5 2 19 := ⟨26, by decide +kernel, f_X5_26, rfl⟩
theorem d5_go_19 : Div m5_go 19 m2_now 0 22 := ⟨65, by decide +kernel, lk_X5_65, v_2_now, rfl⟩
theorem d5_go_22 : Dgf m5_go 22 1 0 25 := ⟨69, by decide +kernel, f_X5_69, rfl⟩
theorem d5_go_25 : mR m5_go = some .int ∧ decode (mB m5_go) 25 = .ok (.ireturn, 1) := ⟨rfl, by decide +kernel⟩
theorem d5_choose_0 : Dil m5_choose 0 1 1 := Or.inl ⟨1, by decide +kernel, rfl, rfl⟩
theorem d5_choose_1 : Dif m5_choose 1 .ge 7 4 := ⟨(6), by decide +kernel, by decide, rfl⟩
theorem d5_choose_4 : Dc m5_choose 4 (.bipush (-12)) 2 6 := ⟨by decide +kernel, rfl⟩
theorem d5_choose_6 : mR m5_choose = some .int ∧ decode (mB m5_choose) 6 = .ok (.ireturn, 1) := ⟨rfl, by decide +kernel⟩
theorem d5_choose_7 : Dal m5_choose 7 0 8 := Or.inl ⟨0, by decide +kernel, rfl, rfl⟩
theorem d5_choose_8 : Dgf m5_choose 8 5 2 11 := ⟨26, by decide +kernel, f_X5_26, rfl⟩
theorem d5_choose_11 : Div m5_choose 11 m2_now 0 14 := ⟨65, by decide +kernel, lk_X5_65, v_2_now, rfl⟩
theorem d5_choose_14 : Das m5_choose 14 2 15 := Or.inl ⟨2, by decide +kernel, rfl, rfl⟩
theorem d5_choose_15 : Dal m5_choose 15 0 16 := Or.inl ⟨0, by decide +kernel, rfl, rfl⟩
theorem d5_choose_16 : Dgf m5_choose 16 5 1 19 := ⟨19, by decide +kernel, f_X5_19, rfl⟩
theorem d5_choose_19 : Dal m5_choose 19 2 20 := Or.inl ⟨2, by decide +kernel, rfl, rfl⟩
theorem d5_choose_20 : Dgf m5_choose 20 1 0 23 := ⟨69, by decide +kernel, f_X5_69, rfl⟩
theorem d5_choose_23 : Dil m5_choose 23 1 24 := Or.inl ⟨1, by decide +kernel, rfl, rfl⟩
theorem d5_choose_24 : Dal m5_choose 24 2 25 := Or.inl ⟨2, by decide +kernel, rfl, rfl⟩
theorem d5_choose_25 : Dgf m5_choose 25 1 1 28 := ⟨81, by decide +kernel, f_X5_81, rfl⟩
theorem d5_choose_28 : Div m5_choose 28 m3_isOpen 3 31 := ⟨84, by decide +kernel, lk_X5_84, v_3_isOpen, rfl⟩
theorem d5_choose_31 : Dif m5_choose 31 .ne 37 34 := ⟨(6), by decide +kernel, by decide, rfl⟩
theorem d5_choose_34 : Dc m5_choose 34 (.bipush (-13)) 2 36 := ⟨by decide +kernel, rfl⟩
theorem d5_choose_36 : mR m5_choose = some .int ∧ decode (mB m5_choose) 36 = .ok (.ireturn, 1) := ⟨rfl, by decide +kernel⟩
theorem d5_choose_37 : Dal m5_choose 37 0 38 := Or.inl ⟨0, by decide +kernel, rfl, rfl⟩
theorem d5_choose_38 : Dgf m5_choose 38 5 2 41 := ⟨26, by decide +kernel, f_X5_26, rfl⟩
theorem d5_choose_41 : Dal m5_choose 41 0 42 := Or.inl ⟨0, by decide +kernel, rfl, rfl⟩
theorem d5_choose_42 : Dgf m5_choose 42 5 1 45 := ⟨19, by decide +kernel, f_X5_19, rfl⟩
theorem d5_choose_45 : Dal m5_choose 45 0 46 := Or.inl ⟨0, by decide +kernel, rfl, rfl⟩
theorem d5_choose_46 : Dgf m5_choose 46 5 1 49 := ⟨19, by decide +kernel, f_X5_19, rfl⟩
theorem d5_choose_49 : Dal m5_choose 49 2 50 := Or.inl ⟨2, by decide +kernel, rfl, rfl⟩
theorem d5_choose_50 : Dgf m5_choose 50 1 0 53 := ⟨69, by decide +kernel, f_X5_69, rfl⟩
theorem d5_choose_53 : Dil m5_choose 53 1 54 := Or.inl ⟨1, by decide +kernel, rfl, rfl⟩
theorem d5_choose_54 : Dc m5_choose 54 (.iconst 0) 1 55 := ⟨by decide +kernel, rfl⟩
theorem d5_choose_55 : Div m5_choose 55 m3_optionPart 3 58 := ⟨88, by decide +kernel, lk_X5_88, v_3_optionPart, rfl⟩
theorem d5_choose_58 : Div m5_choose 58 m2_goOn 2 61 := ⟨92, by decide +kernel, lk_X5_92, v_2_goOn, rfl⟩
theorem d5_choose_61 : Dc m5_choose 61 .pop 1 62 := ⟨by decide +kernel, rfl⟩
theorem d5_choose_62 : Dal m5_choose 62 0 63 := Or.inl ⟨0, by decide +kernel, rfl, rfl⟩
theorem d5_choose_63 : Dgf m5_choose 63 5 2 66 := ⟨26, by decide +kernel, f_X5_26, rfl⟩
theorem d5_choose_66 : Div m5_choose 66 m2_now 0 69 := ⟨65, by decide +kernel, lk_X5_65, v_2_now, rfl⟩
theorem d5_choose_69 : Dgf m5_choose 69 1 0 72 := ⟨69, by decide +kernel, f_X5_69, rfl⟩
theorem d5_choose_72 : mR m5_choose = some .int ∧ decode (mB m5_choose) 72 = .ok (.ireturn, 1) := ⟨rfl, by decide +kernel⟩
theorem d5_skip_0 : Dal m5_skip 0 0 1 := Or.inl ⟨0, by decide +kernel, rfl, rfl⟩
theorem d5_skip_1 : Div m5_skip 1 m5_isLineShown 0 4 := ⟨74, by decide +kernel, lk_X5_74, v_5_isLineShown, rfl⟩
theorem d5_skip_4 : Dif m5_skip 4 .ne 10 7 := ⟨(6), by decide +kernel, by decide, rfl⟩
theorem d5_skip_7 : Dc m5_skip 7 (.bipush (-13)) 2 9 := ⟨by decide +kernel, rfl⟩
theorem d5_skip_9 : mR m5_skip = some .int ∧ decode (mB m5_skip) 9 = .ok (.ireturn, 1) := ⟨rfl, by decide +kernel⟩
theorem d5_skip_10 : Dc m5_skip 10 (.iconst 0) 1 11 := ⟨by decide +kernel, rfl⟩
theorem d5_skip_11 : Dis m5_skip 11 1 12 := Or.inl ⟨1, by decide +kernel, rfl, rfl⟩
theorem d5_skip_12 : Dc m5_skip 12 (.iconst 1) 1 13 := ⟨by decide +kernel, rfl⟩
theorem d5_skip_13 : Dis m5_skip 13 2 14 := Or.inl ⟨2, by decide +kernel, rfl, rfl⟩
theorem d5_skip_14 : Dil m5_skip 14 1 15 := Or.inl ⟨1, by decide +kernel, rfl, rfl⟩
theorem d5_skip_15 : Dc m5_skip 15 (.bipush 60) 2 17 := ⟨by decide +kernel, rfl⟩
theorem d5_skip_17 : Dic m5_skip 17 .ge 42 20 := ⟨(25), by decide +kernel, by decide, rfl⟩
theorem d5_skip_20 : Dil m5_skip 20 2 21 := Or.inl ⟨2, by decide +kernel, rfl, rfl⟩
theorem d5_skip_21 : Dif m5_skip 21 .eq 42 24 := ⟨(21), by decide +kernel, by decide, rfl⟩
theorem d5_skip_24 : Dal m5_skip 24 0 25 := Or.inl ⟨0, by decide +kernel, rfl, rfl⟩
theorem d5_skip_25 : Div m5_skip 25 m5_isLineShown 0 28 := ⟨74, by decide +kernel, lk_X5_74, v_5_isLineShown, rfl⟩
theorem d5_skip_28 : Dif m5_skip 28 .eq 42 31 := ⟨(14), by decide +kernel, by decide, rfl⟩
theorem d5_skip_31 : Dal m5_skip 31 0 32 := Or.inl ⟨0, by decide +kernel, rfl, rfl⟩
theorem d5_skip_32 : Div m5_skip 32 m5_goOnFromLine 0 35 := ⟨78, by decide +kernel, lk_X5_78, v_5_goOnFromLine, rfl⟩
theorem d5_skip_35 : Dis m5_skip 35 2 36 := Or.inl ⟨2, by decide +kernel, rfl, rfl⟩
theorem d5_skip_36 : Dc m5_skip 36 (.iinc 1 1) 3 39 := ⟨by decide +kernel, rfl⟩
theorem d5_skip_39 : Dgo m5_skip 39 14 := ⟨(-25), by decide +kernel, by decide⟩
theorem d5_skip_42 : Dil m5_skip 42 1 43 := Or.inl ⟨1, by decide +kernel, rfl, rfl⟩
theorem d5_skip_43 : mR m5_skip = some .int ∧ decode (mB m5_skip) 43 = .ok (.ireturn, 1) := ⟨rfl, by decide +kernel⟩
theorem d5_back_0 : Dil m5_back 0 1 1 := Or.inl ⟨1, by decide +kernel, rfl, rfl⟩
theorem d5_back_1 : Dc m5_back 1 (.iconst 1) 1 2 := ⟨by decide +kernel, rfl⟩
theorem d5_back_2 : Dic m5_back 2 .lt 11 5 := ⟨(9), by decide +kernel, by decide, rfl⟩
theorem d5_back_5 : Dil m5_back 5 1 6 := Or.inl ⟨1, by decide +kernel, rfl, rfl⟩
theorem d5_back_6 : Dc m5_back 6 (.bipush 20) 2 8 := ⟨by decide +kernel, rfl⟩
theorem d5_back_8 : Dic m5_back 8 .le 14 11 := ⟨(6), by decide +kernel, by decide, rfl⟩
theorem d5_back_11 : Dc m5_back 11 (.bipush (-12)) 2 13 := ⟨by decide +kernel, rfl⟩
theorem d5_back_13 : mR m5_back = some .int ∧ decode (mB m5_back) 13 = .ok (.ireturn, 1) := ⟨rfl, by decide +kernel⟩
theorem d5_back_14 : Dal m5_back 14 0 15 := Or.inl ⟨0, by decide +kernel, rfl, rfl⟩
theorem d5_back_15 : Dgf m5_back 15 5 2 18 := ⟨26, by decide +kernel, f_X5_26, rfl⟩
theorem d5_back_18 : Dil m5_back 18 1 19 := Or.inl ⟨1, by decide +kernel, rfl, rfl⟩
theorem d5_back_19 : Div m5_back 19 m2_turnBack 1 22 := ⟨96, by decide +kernel, lk_X5_96, v_2_turnBack, rfl⟩
theorem d5_back_22 : Dif m5_back 22 .eq 38 25 := ⟨(16), by decide +kernel, by decide, rfl⟩
theorem d5_back_25 : Dal m5_back 25 0 26 := Or.inl ⟨0, by decide +kernel, rfl, rfl⟩
theorem d5_back_26 : Dgf m5_back 26 5 2 29 := ⟨26, by decide +kernel, f_X5_26, rfl⟩
theorem d5_back_29 : Div m5_back 29 m2_now 0 32 := ⟨65, by decide +kernel, lk_X5_65, v_2_now, rfl⟩
theorem d5_back_32 : Dgf m5_back 32 1 0 35 := ⟨69, by decide +kernel, f_X5_69, rfl⟩
theorem d5_back_35 : Dgo m5_back 35 40 := ⟨5, by decide +kernel, by decide⟩
theorem d5_back_38 : Dc m5_back 38 (.bipush (-13)) 2 40 := ⟨by decide +kernel, rfl⟩
theorem d5_back_40 : mR m5_back = some .int ∧ decode (mB m5_back) 40 = .ok (.ireturn, 1) := ⟨rfl, by decide +kernel⟩
theorem d5_again_0 : Dal m5_again 0 0 1 := Or.inl ⟨0, by decide +kernel, rfl, rfl⟩
theorem d5_again_1 : Dgf m5_again 1 5 2 4 := ⟨26, by decide +kernel, f_X5_26, rfl⟩
theorem d5_again_4 : Div m5_again 4 m2_turnForth 0 7 := ⟨100, by decide +kernel, lk_X5_100, v_2_turnForth, rfl⟩
theorem d5_again_7 : Dif m5_again 7 .eq 23 10 := ⟨(16), by decide +kernel, by decide, rfl⟩
theorem d5_again_10 : Dal m5_again 10 0 11 := Or.inl ⟨0, by decide +kernel, rfl, rfl⟩
theorem d5_again_11 : Dgf m5_again 11 5 2 14 := ⟨26, by decide +kernel, f_X5_26, rfl⟩
theorem d5_again_14 : Div m5_again 14 m2_now 0 17 := ⟨65, by decide +kernel, lk_X5_65, v_2_now, rfl⟩
theorem d5_again_17 : Dgf m5_again 17 1 0 20 := ⟨69, by decide +kernel, f_X5_69, rfl⟩
theorem d5_again_20 : Dgo m5_again 20 25 := ⟨5, by decide +kernel, by decide⟩
theorem d5_again_23 : Dc m5_again 23 (.bipush (-13)) 2 25 := ⟨by decide +kernel, rfl⟩
theorem d5_again_25 : mR m5_again = some .int ∧ decode (mB m5_again) 25 = .ok (.ireturn, 1) := ⟨rfl, by decide +kernel⟩
theorem d5_save_0 : Dil m5_save 0 1 1 := Or.inl ⟨1, by decide +kernel, rfl, rfl⟩
theorem d5_save_1 : Dif m5_save 1 .lt 9 4 := ⟨(8), by decide +kernel, by decide, rfl⟩
theorem d5_save_4 : Dil m5_save 4 1 5 := Or.inl ⟨1, by decide +kernel, rfl, rfl⟩
theorem d5_save_5 : Dc m5_save 5 (.iconst 3) 1 6 := ⟨by decide +kernel, rfl⟩
theorem d5_save_6 : Dic m5_save 6 .lt 12 9 := ⟨(6), by decide +kernel, by decide, rfl⟩
theorem d5_save_9 : Dc m5_save 9 (.bipush (-12)) 2 11 := ⟨by decide +kernel, rfl⟩
theorem d5_save_11 : mR m5_save = some .int ∧ decode (mB m5_save) 11 = .ok (.ireturn, 1) := ⟨rfl, by decide +kernel⟩
theorem d5_save_12 : Dal m5_save 12 0 13 := Or.inl ⟨0, by decide +kernel, rfl, rfl⟩
theorem d5_save_13 : Dgf m5_save 13 5 2 16 := ⟨26, by decide +kernel, f_X5_26, rfl⟩
theorem d5_save_16 : Dil m5_save 16 1 17 := Or.inl ⟨1, by decide +kernel, rfl, rfl⟩
theorem d5_save_17 : Div m5_save 17 m2_keepIn 1 20 := ⟨103, by decide +kernel, lk_X5_103, v_2_keepIn, rfl⟩
theorem d5_save_20 : Dal m5_save 20 0 21 := Or.inl ⟨0, by decide +kernel, rfl, rfl⟩
theorem d5_save_21 : Dgf m5_save 21 5 2 24 := ⟨26, by decide +kernel, f_X5_26, rfl⟩
theorem d5_save_24 : Div m5_save 24 m2_now 0 27 := ⟨65, by decide +kernel, lk_X5_65, v_2_now, rfl⟩
theorem d5_save_27 : Dgf m5_save 27 1 0 30 := ⟨69, by decide +kernel, f_X5_69, rfl⟩
theorem d5_save_30 : mR m5_save = some .int ∧ decode (mB m5_save) 30 = .ok (.ireturn, 1) := ⟨rfl, by decide +kernel⟩
theorem d5_restore_0 : Dil m5_restore 0 1 1 := Or.inl ⟨1, by decide +kernel, rfl, rfl⟩
theorem d5_restore_1 : Dif m5_restore 1 .lt 9 4 := ⟨(8), by decide +kernel, by decide, rfl⟩
theorem d5_restore_4 : Dil m5_restore 4 1 5 := Or.inl ⟨1, by decide +kernel, rfl, rfl⟩
theorem d5_restore_5 : Dc m5_restore 5 (.iconst 3) 1 6 := ⟨by decide +kernel, rfl⟩
theorem d5_restore_6 : Dic m5_restore 6 .lt 12 9 := ⟨(6), by decide +kernel, by decide, rfl⟩
theorem d5_restore_9 : Dc m5_restore 9 (.bipush (-12)) 2 11 := ⟨by decide +kernel, rfl⟩
theorem d5_restore_11 : mR m5_restore = some .int ∧ decode (mB m5_restore) 11 = .ok (.ireturn, 1) := ⟨rfl, by decide +kernel⟩
theorem d5_restore_12 : Dal m5_restore 12 0 13 := Or.inl ⟨0, by decide +kernel, rfl, rfl⟩
theorem d5_restore_13 : Dgf m5_restore 13 5 2 16 := ⟨26, by decide +kernel, f_X5_26, rfl⟩
theorem d5_restore_16 : Dil m5_restore 16 1 17 := Or.inl ⟨1, by decide +kernel, rfl, rfl⟩
theorem d5_restore_17 : Div m5_restore 17 m2_takeFrom 1 20 := ⟨107, by decide +kernel, lk_X5_107, v_2_takeFrom, rfl⟩
theorem d5_restore_20 : Dif m5_restore 20 .eq 36 23 := ⟨(16), by decide +kernel, by decide, rfl⟩
theorem d5_restore_23 : Dal m5_restore 23 0 24 := Or.inl ⟨0, by decide +kernel, rfl, rfl⟩
theorem d5_restore_24 : Dgf m5_restore 24 5 2 27 := ⟨26, by decide +kernel, f_X5_26, rfl⟩
theorem d5_restore_27 : Div m5_restore 27 m2_now 0 30 := ⟨65, by decide +kernel, lk_X5_65, v_2_now, rfl⟩
theorem d5_restore_30 : Dgf m5_restore 30 1 0 33 := ⟨69, by decide +kernel, f_X5_69, rfl⟩
theorem d5_restore_33 : Dgo m5_restore 33 38 := ⟨5, by decide +kernel, by decide⟩
theorem d5_restore_36 : Dc m5_restore 36 (.bipush (-13)) 2 38 := ⟨by decide +kernel, rfl⟩
theorem d5_restore_38 : mR m5_restore = some .int ∧ decode (mB m5_restore) 38 = .ok (.ireturn, 1) := ⟨rfl, by decide +kernel⟩
theorem d5_shown_0 : Dal m5_shown 0 0 1 := Or.inl ⟨0, by decide +kernel, rfl, rfl⟩
theorem d5_shown_1 : Dgf m5_shown 1 5 2 4 := ⟨26, by decide +kernel, f_X5_26, rfl⟩
theorem d5_shown_4 : Div m5_shown 4 m2_now 0 7 := ⟨65, by decide +kernel, lk_X5_65, v_2_now, rfl⟩
theorem d5_shown_7 : Das m5_shown 7 2 8 := Or.inl ⟨2, by decide +kernel, rfl, rfl⟩
theorem d5_shown_8 : Dil m5_shown 8 1 9 := Or.inl ⟨1, by decide +kernel, rfl, rfl⟩
theorem d5_shown_9 : Dts m5_shown 9 0 [48, 53, 65, 90, 102, 107] 123 := ⟨114, 5, #[39, 44, 56, 81, 93, 98], 39, by decide +kernel, by decide, by decide, rfl, by decide⟩
theorem d5_shown_48 : Dal m5_shown 48 2 49 := Or.inl ⟨2, by decide +kernel, rfl, rfl⟩
theorem d5_shown_49 : Dgf m5_shown 49 1 0 52 := ⟨69, by decide +kernel, f_X5_69, rfl⟩
theorem d5_shown_52 : mR m5_shown = some .int ∧ decode (mB m5_shown) 52 = .ok (.ireturn, 1) := ⟨rfl, by decide +kernel⟩
theorem d5_shown_53 : Dal m5_shown 53 0 54 := Or.inl ⟨0, by decide +kernel, rfl, rfl⟩
theorem d5_shown_54 : Dgf m5_shown 54 5 1 57 := ⟨19, by decide +kernel, f_X5_19, rfl⟩
theorem d5_shown_57 : Dal m5_shown 57 2 58 := Or.inl ⟨2, by decide +kernel, rfl, rfl⟩
theorem d5_shown_58 : Dgf m5_shown 58 1 0 61 := ⟨69, by decide +kernel, f_X5_69, rfl⟩
theorem d5_shown_61 : Div m5_shown 61 m3_shownKind 1 64 := ⟨110, by decide +kernel, lk_X5_110, v_3_shownKind, rfl⟩
theorem d5_shown_64 : mR m5_shown = some .int ∧ decode (mB m5_shown) 64 = .ok (.ireturn, 1) := ⟨rfl, by decide +kernel⟩
theorem d5_shown_65 : Dal m5_shown 65 0 66 := Or.inl ⟨0, by decide +kernel, rfl, rfl⟩
theorem d5_shown_66 : Div m5_shown 66 m5_isLineShown 0 69 := ⟨74, by decide +kernel, lk_X5_74, v_5_isLineShown, rfl⟩
theorem d5_shown_69 : Dif m5_shown 69 .eq 87 72 := ⟨(18), by decide +kernel, by decide, rfl⟩
theorem d5_shown_72 : Dal m5_shown 72 0 73 := Or.inl ⟨0, by decide +kernel, rfl, rfl⟩
theorem d5_shown_73 : Dgf m5_shown 73 5 1 76 := ⟨19, by decide +kernel, f_X5_19, rfl⟩
theorem d5_shown_76 : Dal m5_shown 76 2 77 := Or.inl ⟨2, by decide +kernel, rfl, rfl⟩
theorem d5_shown_77 : Dgf m5_shown 77 1 0 80 := ⟨69, by decide +kernel, f_X5_69, rfl⟩
theorem d5_shown_80 : Dc m5_shown 80 (.iconst 0) 1 81 := ⟨by decide +kernel, rfl⟩
theorem d5_shown_81 : Div m5_shown 81 m3_numberOf 2 84 := ⟨114, by decide +kernel, lk_X5_114, v_3_numberOf, rfl⟩
theorem d5_shown_84 : Dgo m5_shown 84 89 := ⟨5, by decide +kernel, by decide⟩
theorem d5_shown_87 : Dc m5_shown 87 (.bipush (-11)) 2 89 := ⟨by decide +kernel, rfl⟩
theorem d5_shown_89 : mR m5_shown = some .int ∧ decode (mB m5_shown) 89 = .ok (.ireturn, 1) := ⟨rfl, by decide +kernel⟩
theorem d5_shown_90 : Dal m5_shown 90 0 91 := Or.inl ⟨0, by decide +kernel, rfl, rfl⟩
theorem d5_shown_91 : Dgf m5_shown 91 5 1 94 := ⟨19, by decide +kernel, f_X5_19, rfl⟩
theorem d5_shown_94 : Dal m5_shown 94 2 95 := Or.inl ⟨2, by decide +kernel, rfl, rfl⟩
theorem d5_shown_95 : Dgf m5_shown 95 1 0 98 := ⟨69, by decide +kernel, f_X5_69, rfl⟩
theorem d5_shown_98 : Div m5_shown 98 m3_shownNumber 1 101 := ⟨118, by decide +kernel, lk_X5_118, v_3_shownNumber, rfl⟩
theorem d5_shown_101 : mR m5_shown = some .int ∧ decode (mB m5_shown) 101 = .ok (.ireturn, 1) := ⟨rfl, by decide +kernel⟩
theorem d5_shown_102 : Dal m5_shown 102 2 103 := Or.inl ⟨2, by decide +kernel, rfl, rfl⟩
theorem d5_shown_103 : Dgf m5_shown 103 1 1 106 := ⟨81, by decide +kernel, f_X5_81, rfl⟩
theorem d5_shown_106 : mR m5_shown = some .int ∧ decode (mB m5_shown) 106 = .ok (.ireturn, 1) := ⟨rfl, by decide +kernel⟩
theorem d5_shown_107 : Dal m5_shown 107 0 108 := Or.inl ⟨0, by decide +kernel, rfl, rfl⟩
theorem d5_shown_108 : Dgf m5_shown 108 5 1 111 := ⟨19, by decide +kernel, f_X5_19, rfl⟩
theorem d5_shown_111 : Dal m5_shown 111 2 112 := Or.inl ⟨2, by decide +kernel, rfl, rfl⟩
theorem d5_shown_112 : Dgf m5_shown 112 1 0 115 := ⟨69, by decide +kernel, f_X5_69, rfl⟩
theorem d5_shown_115 : Dal m5_shown 115 2 116 := Or.inl ⟨2, by decide +kernel, rfl, rfl⟩
theorem d5_shown_116 : Dgf m5_shown 116 1 1 119 := ⟨81, by decide +kernel, f_X5_81, rfl⟩
theorem d5_shown_119 : Div m5_shown 119 m3_openOptions 2 122 := ⟨121, by decide +kernel, lk_X5_121, v_3_openOptions, rfl⟩
theorem d5_shown_122 : mR m5_shown = some .int ∧ decode (mB m5_shown) 122 = .ok (.ireturn, 1) := ⟨rfl, by decide +kernel⟩
theorem d5_shown_123 : Dc m5_shown 123 (.bipush (-12)) 2 125 := ⟨by decide +kernel, rfl⟩
theorem d5_shown_125 : mR m5_shown = some .int ∧ decode (mB m5_shown) 125 = .ok (.ireturn, 1) := ⟨rfl, by decide +kernel⟩
theorem d5_portrait_0 : Dil m5_portrait 0 1 1 := Or.inl ⟨1, by decide +kernel, rfl, rfl⟩
theorem d5_portrait_1 : Dif m5_portrait 1 .lt 9 4 := ⟨(8), by decide +kernel, by decide, rfl⟩
theorem d5_portrait_4 : Dil m5_portrait 4 1 5 := Or.inl ⟨1, by decide +kernel, rfl, rfl⟩
theorem d5_portrait_5 : Dc m5_portrait 5 (.iconst 3) 1 6 := ⟨by decide +kernel, rfl⟩
theorem d5_portrait_6 : Dic m5_portrait 6 .lt 12 9 := ⟨(6), by decide +kernel, by decide, rfl⟩
theorem d5_portrait_9 : Dc m5_portrait 9 (.bipush (-12)) 2 11 := ⟨by decide +kernel, rfl⟩
theorem d5_portrait_11 : mR m5_portrait = some .int ∧ decode (mB m5_portrait) 11 = .ok (.ireturn, 1) := ⟨rfl, by decide +kernel⟩
theorem d5_portrait_12 : Dal m5_portrait 12 0 13 := Or.inl ⟨0, by decide +kernel, rfl, rfl⟩
theorem d5_portrait_13 : Dgf m5_portrait 13 5 2 16 := ⟨26, by decide +kernel, f_X5_26, rfl⟩
theorem d5_portrait_16 : Div m5_portrait 16 m2_now 0 19 := ⟨65, by decide +kernel, lk_X5_65, v_2_now, rfl⟩
theorem d5_portrait_19 : Das m5_portrait 19 3 20 := Or.inl ⟨3, by decide +kernel, rfl, rfl⟩
theorem d5_portrait_20 : Dil m5_portrait 20 2 21 := Or.inl ⟨2, by decide +kernel, rfl, rfl⟩
theorem d5_portrait_21 : Dif m5_portrait 21 .eq 33 24 := ⟨(12), by decide +kernel, by decide, rfl⟩
theorem d5_portrait_24 : Dal m5_portrait 24 3 25 := Or.inl ⟨3, by decide +kernel, rfl, rfl⟩
theorem d5_portrait_25 : Dgf m5_portrait 25 1 3 28 := ⟨124, by decide +kernel, f_X5_124, rfl⟩
theorem d5_portrait_28 : Dil m5_portrait 28 1 29 := Or.inl ⟨1, by decide +kernel, rfl, rfl⟩
theorem d5_portrait_29 : Dc m5_portrait 29 .iaload 1 30 := ⟨by decide +kernel, rfl⟩
theorem d5_portrait_30 : Dgo m5_portrait 30 39 := ⟨9, by decide +kernel, by decide⟩
theorem d5_portrait_33 : Dal m5_portrait 33 3 34 := Or.inl ⟨3, by decide +kernel, rfl, rfl⟩
theorem d5_portrait_34 : Dgf m5_portrait 34 1 2 37 := ⟨128, by decide +kernel, f_X5_128, rfl⟩
theorem d5_portrait_37 : Dil m5_portrait 37 1 38 := Or.inl ⟨1, by decide +kernel, rfl, rfl⟩
theorem d5_portrait_38 : Dc m5_portrait 38 .iaload 1 39 := ⟨by decide +kernel, rfl⟩
theorem d5_portrait_39 : mR m5_portrait = some .int ∧ decode (mB m5_portrait) 39 = .ok (.ireturn, 1) := ⟨rfl, by decide +kernel⟩
theorem d5_node_0 : Dal m5_node 0 0 1 := Or.inl ⟨0, by decide +kernel, rfl, rfl⟩
theorem d5_node_1 : Dgf m5_node 1 5 1 4 := ⟨19, by decide +kernel, f_X5_19, rfl⟩
theorem d5_node_4 : Dil m5_node 4 1 5 := Or.inl ⟨1, by decide +kernel, rfl, rfl⟩
theorem d5_node_5 : Div m5_node 5 m3_has 1 8 := ⟨131, by decide +kernel, lk_X5_131, v_3_has, rfl⟩
theorem d5_node_8 : Dif m5_node 8 .eq 20 11 := ⟨(12), by decide +kernel, by decide, rfl⟩
theorem d5_node_11 : Dil m5_node 11 2 12 := Or.inl ⟨2, by decide +kernel, rfl, rfl⟩
theorem d5_node_12 : Dif m5_node 12 .lt 20 15 := ⟨(8), by decide +kernel, by decide, rfl⟩
theorem d5_node_15 : Dil m5_node 15 2 16 := Or.inl ⟨2, by decide +kernel, rfl, rfl⟩
theorem d5_node_16 : Dc m5_node 16 (.iconst 3) 1 17 := ⟨by decide +kernel, rfl⟩
theorem d5_node_17 : Dic m5_node 17 .le 23 20 := ⟨(6), by decide +kernel, by decide, rfl⟩
theorem d5_node_20 : Dc m5_node 20 (.bipush (-12)) 2 22 := ⟨by decide +kernel, rfl⟩
theorem d5_node_22 : mR m5_node = some .int ∧ decode (mB m5_node) 22 = .ok (.ireturn, 1) := ⟨rfl, by decide +kernel⟩
theorem d5_node_23 : Dil m5_node 23 2 24 := Or.inl ⟨2, by decide +kernel, rfl, rfl⟩
theorem d5_node_24 : Dif m5_node 24 .ne 38 27 := ⟨(14), by decide +kernel, by decide, rfl⟩
theorem d5_node_27 : Dal m5_node 27 0 28 := Or.inl ⟨0, by decide +kernel, rfl, rfl⟩
theorem d5_node_28 : Dgf m5_node 28 5 1 31 := ⟨19, by decide +kernel, f_X5_19, rfl⟩
theorem d5_node_31 : Dil m5_node 31 1 32 := Or.inl ⟨1, by decide +kernel, rfl, rfl⟩
theorem d5_node_32 : Div m5_node 32 m3_kindOf 1 35 := ⟨134, by decide +kernel, lk_X5_134, v_3_kindOf, rfl⟩
theorem d5_node_35 : Dgo m5_node 35 49 := ⟨14, by decide +kernel, by decide⟩
theorem d5_node_38 : Dal m5_node 38 0 39 := Or.inl ⟨0, by decide +kernel, rfl, rfl⟩
theorem d5_node_39 : Dgf m5_node 39 5 1 42 := ⟨19, by decide +kernel, f_X5_19, rfl⟩
theorem d5_node_42 : Dil m5_node 42 1 43 := Or.inl ⟨1, by decide +kernel, rfl, rfl⟩
theorem d5_node_43 : Dil m5_node 43 2 44 := Or.inl ⟨2, by decide +kernel, rfl, rfl⟩
theorem d5_node_44 : Dc m5_node 44 (.iconst 1) 1 45 := ⟨by decide +kernel, rfl⟩
theorem d5_node_45 : Dc m5_node 45 .isub 1 46 := ⟨by decide +kernel, rfl⟩
theorem d5_node_46 : Div m5_node 46 m3_numberOf 2 49 := ⟨114, by decide +kernel, lk_X5_114, v_3_numberOf, rfl⟩
theorem d5_node_49 : mR m5_node = some .int ∧ decode (mB m5_node) 49 = .ok (.ireturn, 1) := ⟨rfl, by decide +kernel⟩
theorem d5_option_0 : Dal m5_option 0 0 1 := Or.inl ⟨0, by decide +kernel, rfl, rfl⟩
theorem d5_option_1 : Dgf m5_option 1 5 1 4 := ⟨19, by decide +kernel, f_X5_19, rfl⟩
theorem d5_option_4 : Dil m5_option 4 1 5 := Or.inl ⟨1, by decide +kernel, rfl, rfl⟩
theorem d5_option_5 : Div m5_option 5 m3_kindOf 1 8 := ⟨134, by decide +kernel, lk_X5_134, v_3_kindOf, rfl⟩
theorem d5_option_8 : Dc m5_option 8 (.bipush 6) 2 10 := ⟨by decide +kernel, rfl⟩
theorem d5_option_10 : Dic m5_option 10 .ne 26 13 := ⟨(16), by decide +kernel, by decide, rfl⟩
theorem d5_option_13 : Dil m5_option 13 2 14 := Or.inl ⟨2, by decide +kernel, rfl, rfl⟩
theorem d5_option_14 : Dif m5_option 14 .lt 26 17 := ⟨(12), by decide +kernel, by decide, rfl⟩
theorem d5_option_17 : Dil m5_option 17 3 18 := Or.inl ⟨3, by decide +kernel, rfl, rfl⟩
theorem d5_option_18 : Dif m5_option 18 .lt 26 21 := ⟨(8), by decide +kernel, by decide, rfl⟩
theorem d5_option_21 : Dil m5_option 21 3 22 := Or.inl ⟨3, by decide +kernel, rfl, rfl⟩
theorem d5_option_22 : Dc m5_option 22 (.iconst 3) 1 23 := ⟨by decide +kernel, rfl⟩
theorem d5_option_23 : Dic m5_option 23 .lt 29 26 := ⟨(6), by decide +kernel, by decide, rfl⟩
theorem d5_option_26 : Dc m5_option 26 (.bipush (-12)) 2 28 := ⟨by decide +kernel, rfl⟩
theorem d5_option_28 : mR m5_option = some .int ∧ decode (mB m5_option) 28 = .ok (.ireturn, 1) := ⟨rfl, by decide +kernel⟩
theorem d5_option_29 : Dal m5_option 29 0 30 := Or.inl ⟨0, by decide +kernel, rfl, rfl⟩
theorem d5_option_30 : Dgf m5_option 30 5 1 33 := ⟨19, by decide +kernel, f_X5_19, rfl⟩
theorem d5_option_33 : Dil m5_option 33 1 34 := Or.inl ⟨1, by decide +kernel, rfl, rfl⟩
theorem d5_option_34 : Dil m5_option 34 2 35 := Or.inl ⟨2, by decide +kernel, rfl, rfl⟩
theorem d5_option_35 : Dil m5_option 35 3 36 := Or.inl ⟨3, by decide +kernel, rfl, rfl⟩
theorem d5_option_36 : Div m5_option 36 m3_optionPart 3 39 := ⟨88, by decide +kernel, lk_X5_88, v_3_optionPart, rfl⟩
theorem d5_option_39 : mR m5_option = some .int ∧ decode (mB m5_option) 39 = .ok (.ireturn, 1) := ⟨rfl, by decide +kernel⟩
theorem d5_situations_0 : Dil m5_situations 0 1 1 := Or.inl ⟨1, by decide +kernel, rfl, rfl⟩
theorem d5_situations_1 : Dc m5_situations 1 (.iconst (-1)) 1 2 := ⟨by decide +kernel, rfl⟩
theorem d5_situations_2 : Dic m5_situations 2 .lt 11 5 := ⟨(9), by decide +kernel, by decide, rfl⟩
theorem d5_situations_5 : Dil m5_situations 5 1 6 := Or.inl ⟨1, by decide +kernel, rfl, rfl⟩
theorem d5_situations_6 : Dc m5_situations 6 (.bipush 31) 2 8 := ⟨by decide +kernel, rfl⟩
theorem d5_situations_8 : Dic m5_situations 8 .lt 14 11 := ⟨(6), by decide +kernel, by decide, rfl⟩
theorem d5_situations_11 : Dc m5_situations 11 (.bipush (-12)) 2 13 := ⟨by decide +kernel, rfl⟩
theorem d5_situations_13 : mR m5_situations = some .int ∧ decode (mB m5_situations) 13 = .ok (.ireturn, 1) := ⟨rfl, by decide +kernel⟩
theorem d5_situations_14 : Dil m5_situations 14 1 15 := Or.inl ⟨1, by decide +kernel, rfl, rfl⟩
theorem d5_situations_15 : Dc m5_situations 15 (.iconst (-1)) 1 16 := ⟨by decide +kernel, rfl⟩
theorem d5_situations_16 : Dic m5_situations 16 .ne 29 19 := ⟨(13), by decide +kernel, by decide, rfl⟩
theorem d5_situations_19 : Dal m5_situations 19 0 20 := Or.inl ⟨0, by decide +kernel, rfl, rfl⟩
theorem d5_situations_20 : Dgf m5_situations 20 5 3 23 := ⟨33, by decide +kernel, f_X5_33, rfl⟩
theorem d5_situations_23 : Dgf m5_situations 23 0 0 26 := ⟨137, by decide +kernel, f_X5_137, rfl⟩
theorem d5_situations_26 : Dgo m5_situations 26 37 := ⟨11, by decide +kernel, by decide⟩
theorem d5_situations_29 : Dal m5_situations 29 0 30 := Or.inl ⟨0, by decide +kernel, rfl, rfl⟩
theorem d5_situations_30 : Dgf m5_situations 30 5 3 33 := ⟨33, by decide +kernel, f_X5_33, rfl⟩
theorem d5_situations_33 : Dil m5_situations 33 1 34 := Or.inl ⟨1, by decide +kernel, rfl, rfl⟩
theorem d5_situations_34 : Div m5_situations 34 m0_reachedWith 1 37 := ⟨140, by decide +kernel, lk_X5_140, v_0_reachedWith, rfl⟩
theorem d5_situations_37 : mR m5_situations = some .int ∧ decode (mB m5_situations) 37 = .ok (.ireturn, 1) := ⟨rfl, by decide +kernel⟩
theorem d5_choicesTo_0 : Dil m5_choicesTo 0 1 1 := Or.inl ⟨1, by decide +kernel, rfl, rfl⟩
theorem d5_choicesTo_1 : Dis' m5_choicesTo 1 m5_endIndex 1 4 := ⟨143, by decide +kernel, lk_X5_143, s_5_endIndex, rfl⟩
theorem d5_choicesTo_4 : Dis m5_choicesTo 4 2 5 := Or.inl ⟨2, by decide +kernel, rfl, rfl⟩
theorem d5_choicesTo_5 : Dil m5_choicesTo 5 2 6 := Or.inl ⟨2, by decide +kernel, rfl, rfl⟩
theorem d5_choicesTo_6 : Dc m5_choicesTo 6 (.iconst (-1)) 1 7 := ⟨by decide +kernel, rfl⟩
theorem d5_choicesTo_7 : Dic m5_choicesTo 7 .ne 15 10 := ⟨(8), by decide +kernel, by decide, rfl⟩
theorem d5_choicesTo_10 : Dc m5_choicesTo 10 (.bipush (-12)) 2 12 := ⟨by decide +kernel, rfl⟩
theorem d5_choicesTo_12 : Dgo m5_choicesTo 12 23 := ⟨11, by decide +kernel, by decide⟩
theorem d5_choicesTo_15 : Dal m5_choicesTo 15 0 16 := Or.inl ⟨0, by decide +kernel, rfl, rfl⟩
theorem d5_choicesTo_16 : Dgf m5_choicesTo 16 5 3 19 := ⟨33, by decide +kernel, f_X5_33, rfl⟩
theorem d5_choicesTo_19 : Dil m5_choicesTo 19 2 20 := Or.inl ⟨2, by decide +kernel, rfl, rfl⟩
theorem d5_choicesTo_20 : Div m5_choicesTo 20 m0_wayLength 1 23 := ⟨146, by decide +kernel, lk_X5_146, v_0_wayLength, rfl⟩
theorem d5_choicesTo_23 : mR m5_choicesTo = some .int ∧ decode (mB m5_choicesTo) 23 = .ok (.ireturn, 1) := ⟨rfl, by decide +kernel⟩
theorem d5_wayTo_0 : Dil m5_wayTo 0 1 1 := Or.inl ⟨1, by decide +kernel, rfl, rfl⟩
theorem d5_wayTo_1 : Dis' m5_wayTo 1 m5_endIndex 1 4 := ⟨143, by decide +kernel, lk_X5_143, s_5_endIndex, rfl⟩
theorem d5_wayTo_4 : Dis m5_wayTo 4 3 5 := Or.inl ⟨3, by decide +kernel, rfl, rfl⟩
theorem d5_wayTo_5 : Dil m5_wayTo 5 3 6 := Or.inl ⟨3, by decide +kernel, rfl, rfl⟩
theorem d5_wayTo_6 : Dc m5_wayTo 6 (.iconst (-1)) 1 7 := ⟨by decide +kernel, rfl⟩
theorem d5_wayTo_7 : Dic m5_wayTo 7 .eq 14 10 := ⟨(7), by decide +kernel, by decide, rfl⟩
theorem d5_wayTo_10 : Dil m5_wayTo 10 2 11 := Or.inl ⟨2, by decide +kernel, rfl, rfl⟩
theorem d5_wayTo_11 : Dif m5_wayTo 11 .ge 17 14 := ⟨(6), by decide +kernel, by decide, rfl⟩
theorem d5_wayTo_14 : Dc m5_wayTo 14 (.bipush (-12)) 2 16 := ⟨by decide +kernel, rfl⟩
theorem d5_wayTo_16 : mR m5_wayTo = some .int ∧ decode (mB m5_wayTo) 16 = .ok (.ireturn, 1) := ⟨rfl, by decide +kernel⟩
theorem d5_wayTo_17 : Dal m5_wayTo 17 0 18 := Or.inl ⟨0, by decide +kernel, rfl, rfl⟩
theorem d5_wayTo_18 : Dgf m5_wayTo 18 5 3 21 := ⟨33, by decide +kernel, f_X5_33, rfl⟩
theorem d5_wayTo_21 : Dil m5_wayTo 21 3 22 := Or.inl ⟨3, by decide +kernel, rfl, rfl⟩
theorem d5_wayTo_22 : Dil m5_wayTo 22 2 23 := Or.inl ⟨2, by decide +kernel, rfl, rfl⟩
theorem d5_wayTo_23 : Div m5_wayTo 23 m0_wayChoice 2 26 := ⟨149, by decide +kernel, lk_X5_149, v_0_wayChoice, rfl⟩
theorem d5_wayTo_26 : mR m5_wayTo = some .int ∧ decode (mB m5_wayTo) 26 = .ok (.ireturn, 1) := ⟨rfl, by decide +kernel⟩
theorem d5_usable_0 : Dil m5_usable 0 2 1 := Or.inl ⟨2, by decide +kernel, rfl, rfl⟩
theorem d5_usable_1 : Dif m5_usable 1 .lt 16 4 := ⟨(15), by decide +kernel, by decide, rfl⟩
theorem d5_usable_4 : Dil m5_usable 4 2 5 := Or.inl ⟨2, by decide +kernel, rfl, rfl⟩
theorem d5_usable_5 : Dal m5_usable 5 0 6 := Or.inl ⟨0, by decide +kernel, rfl, rfl⟩
