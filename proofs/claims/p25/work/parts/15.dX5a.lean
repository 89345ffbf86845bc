/-! ===== decode rows of X5 ===== -/
theorem d5_init_0 : Dal m5_init 0 0 1 := Or.inl ⟨0, by decide +kernel, rfl, rfl⟩
theorem d5_init_1 : Doi m5_init 1 4 := ⟨3, by decide +kernel, oi_X5_3, oi_i, oi_c, rfl⟩
theorem d5_init_4 : Dal m5_init 4 0 5 := Or.inl ⟨0, by decide +kernel, rfl, rfl⟩
theorem d5_init_5 : Dnew m5_init 5 4 5 [vI 0, vN, vN, vI 0, vI 0] 8 := ⟨9, RX4, TX4, tyX4, by decide +kernel, rfl, inGX4, tyX4_ok, tG_of (List.mem_of_getElem? (i := 47) (by decide +kernel)) (by decide +kernel), tG_of (List.mem_of_getElem? (i := 48) (by decide +kernel)) (by decide +kernel), tG_of (List.mem_of_getElem? (i := 26) (by decide +kernel)) (by decide +kernel), nw_X4.1, nw_X4.2, rfl⟩
theorem d5_init_8 : Dc m5_init 8 .dup 1 9 := ⟨by decide +kernel, rfl⟩
theorem d5_init_9 : Dii m5_init 9 m4_init 12 := ⟨11, by decide +kernel, ok_4_init, (Or.inr ⟨RX5, by decide +kernel⟩), by decide +kernel, by decide, rfl, i_4_init, rfl, rfl⟩
theorem d5_init_12 : Dpf m5_init 12 5 0 (.object "PictureScript$Text") true 15 := ⟨12, by decide +kernel, f_X5_12, p_X5_X5_0, rfl⟩
theorem d5_init_15 : Dal m5_init 15 0 16 := Or.inl ⟨0, by decide +kernel, rfl, rfl⟩
theorem d5_init_16 : Dnew m5_init 16 3 6 [vI 0, vN, vN, vN, vN, vN] 19 := ⟨16, RX3, TX3, tyX3, by decide +kernel, rfl, inGX3, tyX3_ok, tG_of (List.mem_of_getElem? (i := 99) (by decide +kernel)) (by decide +kernel), tG_of (List.mem_of_getElem? (i := 54) (by decide +kernel)) (by decide +kernel), tG_of (List.mem_of_getElem? (i := 27) (by decide +kernel)) (by decide +kernel), nw_X3.1, nw_X3.2, rfl⟩
theorem d5_init_19 : Dc m5_init 19 .dup 1 20 := ⟨by decide +kernel, rfl⟩
theorem d5_init_20 : Dii m5_init 20 m3_init 23 := ⟨18, by decide +kernel, ok_3_init, (Or.inr ⟨RX5, by decide +kernel⟩), by decide +kernel, by decide, rfl, i_3_init, rfl, rfl⟩
theorem d5_init_23 : Dpf m5_init 23 5 1 (.object "PictureScript$Script") false 26 := ⟨19, by decide +kernel, f_X5_19, p_X5_X5_1, rfl⟩
theorem d5_init_26 : Dal m5_init 26 0 27 := Or.inl ⟨0, by decide +kernel, rfl, rfl⟩
theorem d5_init_27 : Dnew m5_init 27 2 6 [vN, vI 0, vI 0, vN, vN, vN] 30 := ⟨23, RX2, TX2, tyX2, by decide +kernel, rfl, inGX2, tyX2_ok, tG_of (List.mem_of_getElem? (i := 101) (by decide +kernel)) (by decide +kernel), tG_of (List.mem_of_getElem? (i := 102) (by decide +kernel)) (by decide +kernel), tG_of (List.mem_of_getElem? (i := 28) (by decide +kernel)) (by decide +kernel), nw_X2.1, nw_X2.2, rfl⟩
theorem d5_init_30 : Dc m5_init 30 .dup 1 31 := ⟨by decide +kernel, rfl⟩
theorem d5_init_31 : Dii m5_init 31 m2_init 34 := ⟨25, by decide +kernel, ok_2_init, (Or.inl l_X5_25), by decide +kernel, by decide, rfl, i_2_init, rfl, rfl⟩
theorem d5_init_34 : Dpf m5_init 34 5 2 (.object "PictureScript$Play") true 37 := ⟨26, by decide +kernel, f_X5_26, p_X5_X5_2, rfl⟩
theorem d5_init_37 : Dal m5_init 37 0 38 := Or.inl ⟨0, by decide +kernel, rfl, rfl⟩
theorem d5_init_38 : Dnew m5_init 38 0 8 [vI 0, vN, vN, vN, vN, vI 0, vN, vN] 41 := ⟨30, RX0, TX0, tyX0, by decide +kernel, rfl, inGX0, tyX0_ok, tG_of (List.mem_of_getElem? (i := 156) (by decide +kernel)) (by decide +kernel), tG_of (List.mem_of_getElem? (i := 157) (by decide +kernel)) (by decide +kernel), tG_of (List.mem_of_getElem? (i := 30) (by decide +kernel)) (by decide +kernel), nw_X0.1, nw_X0.2, rfl⟩
theorem d5_init_41 : Dc m5_init 41 .dup 1 42 := ⟨by decide +kernel, rfl⟩
theorem d5_init_42 : Dii m5_init 42 m0_init 45 := ⟨32, by decide +kernel, ok_0_init, (Or.inr ⟨RX5, by decide +kernel⟩), by decide +kernel, by decide, rfl, i_0_init, rfl, rfl⟩
theorem d5_init_45 : Dpf m5_init 45 5 3 (.object "PictureScript$Chart") true 48 := ⟨33, by decide +kernel, f_X5_33, p_X5_X5_3, rfl⟩
theorem d5_init_48 : Dal m5_init 48 0 49 := Or.inl ⟨0, by decide +kernel, rfl, rfl⟩
theorem d5_init_49 : Dgf m5_init 49 5 2 52 := ⟨26, by decide +kernel, f_X5_26, rfl⟩
theorem d5_init_52 : Dal m5_init 52 0 53 := Or.inl ⟨0, by decide +kernel, rfl, rfl⟩
theorem d5_init_53 : Dgf m5_init 53 5 1 56 := ⟨19, by decide +kernel, f_X5_19, rfl⟩
theorem d5_init_56 : Div m5_init 56 m2_startScript 1 59 := ⟨37, by decide +kernel, lk_X5_37, v_2_startScript, rfl⟩
theorem d5_init_59 : Dal m5_init 59 0 60 := Or.inl ⟨0, by decide +kernel, rfl, rfl⟩
theorem d5_init_60 : Dgf m5_init 60 5 3 63 := ⟨33, by decide +kernel, f_X5_33, rfl⟩
theorem d5_init_63 : Dal m5_init 63 0 64 := Or.inl ⟨0, by decide +kernel, rfl, rfl⟩
theorem d5_init_64 : Dgf m5_init 64 5 1 67 := ⟨19, by decide +kernel, f_X5_19, rfl⟩
theorem d5_init_67 : Div m5_init 67 m0_draw 1 70 := ⟨41, by decide +kernel, lk_X5_41, v_0_draw, rfl⟩
theorem d5_init_70 : mR m5_init = none ∧ decode (mB m5_init) 70 = .ok (.return_, 1) := ⟨rfl, by decide +kernel⟩
theorem d5_type_0 : Dil m5_type 0 1 1 := Or.inl ⟨1, by decide +kernel, rfl, rfl⟩
theorem d5_type_1 : Dif m5_type 1 .lt 10 4 := ⟨(9), by decide +kernel, by decide, rfl⟩
theorem d5_type_4 : Dil m5_type 4 1 5 := Or.inl ⟨1, by decide +kernel, rfl, rfl⟩
theorem d5_type_5 : Dc m5_type 5 (.bipush 127) 2 7 := ⟨by decide +kernel, rfl⟩
theorem d5_type_7 : Dic m5_type 7 .le 13 10 := ⟨(6), by decide +kernel, by decide, rfl⟩
theorem d5_type_10 : Dc m5_type 10 (.bipush (-12)) 2 12 := ⟨by decide +kernel, rfl⟩
theorem d5_type_12 : mR m5_type = some .int ∧ decode (mB m5_type) 12 = .ok (.ireturn, 1) := ⟨rfl, by decide +kernel⟩
theorem d5_type_13 : Dal m5_type 13 0 14 := Or.inl ⟨0, by decide +kernel, rfl, rfl⟩
theorem d5_type_14 : Dgf m5_type 14 5 0 17 := ⟨12, by decide +kernel, f_X5_12, rfl⟩
theorem d5_type_17 : Dil m5_type 17 1 18 := Or.inl ⟨1, by decide +kernel, rfl, rfl⟩
theorem d5_type_18 : Dc m5_type 18 .i2b 1 19 := ⟨by decide +kernel, rfl⟩
theorem d5_type_19 : Div m5_type 19 m4_append 1 22 := ⟨44, by decide +kernel, lk_X5_44, v_4_append, rfl⟩
theorem d5_type_22 : Dif m5_type 22 .eq 35 25 := ⟨(13), by decide +kernel, by decide, rfl⟩
theorem d5_type_25 : Dal m5_type 25 0 26 := Or.inl ⟨0, by decide +kernel, rfl, rfl⟩
theorem d5_type_26 : Dgf m5_type 26 5 0 29 := ⟨12, by decide +kernel, f_X5_12, rfl⟩
theorem d5_type_29 : Dgf m5_type 29 4 0 32 := ⟨48, by decide +kernel, f_X5_48, rfl⟩
theorem d5_type_32 : Dgo m5_type 32 37 := ⟨5, by decide +kernel, by decide⟩
theorem d5_type_35 : Dc m5_type 35 (.bipush (-14)) 2 37 := ⟨by decide +kernel, rfl⟩
theorem d5_type_37 : mR m5_type = some .int ∧ decode (mB m5_type) 37 = .ok (.ireturn, 1) := ⟨rfl, by decide +kernel⟩
theorem d5_clearText_0 : Dal m5_clearText 0 0 1 := Or.inl ⟨0, by decide +kernel, rfl, rfl⟩
theorem d5_clearText_1 : Dgf m5_clearText 1 5 0 4 := ⟨12, by decide +kernel, f_X5_12, rfl⟩
theorem d5_clearText_4 : Dgf m5_clearText 4 4 0 7 := ⟨48, by decide +kernel, f_X5_48, rfl⟩
theorem d5_clearText_7 : Dis m5_clearText 7 1 8 := Or.inl ⟨1, by decide +kernel, rfl, rfl⟩
theorem d5_clearText_8 : Dal m5_clearText 8 0 9 := Or.inl ⟨0, by decide +kernel, rfl, rfl⟩
theorem d5_clearText_9 : Dgf m5_clearText 9 5 0 12 := ⟨12, by decide +kernel, f_X5_12, rfl⟩
theorem d5_clearText_12 : Dc m5_clearText 12 (.iconst 0) 1 13 := ⟨by decide +kernel, rfl⟩
theorem d5_clearText_13 : Dpf m5_clearText 13 4 0 .int false 16 := ⟨48, by decide +kernel, f_X5_48, p_X5_X4_0, rfl⟩
theorem d5_clearText_16 : Dil m5_clearText 16 1 17 := Or.inl ⟨1, by decide +kernel, rfl, rfl⟩
theorem d5_clearText_17 : mR m5_clearText = some .int ∧ decode (mB m5_clearText) 17 = .ok (.ireturn, 1) := ⟨rfl, by decide +kernel⟩
theorem d5_fault_0 : Dal m5_fault 0 0 1 := Or.inl ⟨0, by decide +kernel, rfl, rfl⟩
theorem d5_fault_1 : Dgf m5_fault 1 5 0 4 := ⟨12, by decide +kernel, f_X5_12, rfl⟩
theorem d5_fault_4 : Div m5_fault 4 m4_findFault 0 7 := ⟨52, by decide +kernel, lk_X5_52, v_4_findFault, rfl⟩
theorem d5_fault_7 : mR m5_fault = some .int ∧ decode (mB m5_fault) 7 = .ok (.ireturn, 1) := ⟨rfl, by decide +kernel⟩
theorem d5_read_0 : Dal m5_read 0 0 1 := Or.inl ⟨0, by decide +kernel, rfl, rfl⟩
theorem d5_read_1 : Dgf m5_read 1 5 0 4 := ⟨12, by decide +kernel, f_X5_12, rfl⟩
theorem d5_read_4 : Div m5_read 4 m4_findFault 0 7 := ⟨52, by decide +kernel, lk_X5_52, v_4_findFault, rfl⟩
theorem d5_read_7 : Dc m5_read 7 (.bipush (-11)) 2 9 := ⟨by decide +kernel, rfl⟩
theorem d5_read_9 : Dic m5_read 9 .eq 15 12 := ⟨(6), by decide +kernel, by decide, rfl⟩
theorem d5_read_12 : Dc m5_read 12 (.bipush (-13)) 2 14 := ⟨by decide +kernel, rfl⟩
theorem d5_read_14 : mR m5_read = some .int ∧ decode (mB m5_read) 14 = .ok (.ireturn, 1) := ⟨rfl, by decide +kernel⟩
theorem d5_read_15 : Dal m5_read 15 0 16 := Or.inl ⟨0, by decide +kernel, rfl, rfl⟩
theorem d5_read_16 : Dgf m5_read 16 5 1 19 := ⟨19, by decide +kernel, f_X5_19, rfl⟩
theorem d5_read_19 : Das m5_read 19 1 20 := Or.inl ⟨1, by decide +kernel, rfl, rfl⟩
theorem d5_read_20 : Dal m5_read 20 0 21 := Or.inl ⟨0, by decide +kernel, rfl, rfl⟩
theorem d5_read_21 : Dal m5_read 21 0 22 := Or.inl ⟨0, by decide +kernel, rfl, rfl⟩
theorem d5_read_22 : Dgf m5_read 22 5 0 25 := ⟨12, by decide +kernel, f_X5_12, rfl⟩
theorem d5_read_25 : Dgf m5_read 25 4 2 28 := ⟨56, by decide +kernel, f_X5_56, rfl⟩
theorem d5_read_28 : Dpf m5_read 28 5 1 (.object "PictureScript$Script") false 31 := ⟨19, by decide +kernel, f_X5_19, p_X5_X5_1, rfl⟩
theorem d5_read_31 : Dal m5_read 31 0 32 := Or.inl ⟨0, by decide +kernel, rfl, rfl⟩
theorem d5_read_32 : Dgf m5_read 32 5 0 35 := ⟨12, by decide +kernel, f_X5_12, rfl⟩
theorem d5_read_35 : Dal m5_read 35 1 36 := Or.inl ⟨1, by decide +kernel, rfl, rfl⟩
theorem d5_read_36 : Dpf m5_read 36 4 2 (.object "PictureScript$Script") false 39 := ⟨56, by decide +kernel, f_X5_56, p_X5_X4_2, rfl⟩
theorem d5_read_39 : Dal m5_read 39 0 40 := Or.inl ⟨0, by decide +kernel, rfl, rfl⟩
theorem d5_read_40 : Dgf m5_read 40 5 2 43 := ⟨26, by decide +kernel, f_X5_26, rfl⟩
theorem d5_read_43 : Dal m5_read 43 0 44 := Or.inl ⟨0, by decide +kernel, rfl, rfl⟩
theorem d5_read_44 : Dgf m5_read 44 5 1 47 := ⟨19, by decide +kernel, f_X5_19, rfl⟩
theorem d5_read_47 : Div m5_read 47 m2_startScript 1 50 := ⟨37, by decide +kernel, lk_X5_37, v_2_startScript, rfl⟩
theorem d5_read_50 : Dal m5_read 50 0 51 := Or.inl ⟨0, by decide +kernel, rfl, rfl⟩
theorem d5_read_51 : Dgf m5_read 51 5 3 54 := ⟨33, by decide +kernel, f_X5_33, rfl⟩
theorem d5_read_54 : Dal m5_read 54 0 55 := Or.inl ⟨0, by decide +kernel, rfl, rfl⟩
theorem d5_read_55 : Dgf m5_read 55 5 1 58 := ⟨19, by decide +kernel, f_X5_19, rfl⟩
theorem d5_read_58 : Div m5_read 58 m0_draw 1 61 := ⟨41, by decide +kernel, lk_X5_41, v_0_draw, rfl⟩
theorem d5_read_61 : Dal m5_read 61 0 62 := Or.inl ⟨0, by decide +kernel, rfl, rfl⟩
theorem d5_read_62 : Dgf m5_read 62 5 1 65 := ⟨19, by decide +kernel, f_X5_19, rfl⟩
theorem d5_read_65 : Dgf m5_read 65 3 0 68 := ⟨59, by decide +kernel, f_X5_59, rfl⟩
theorem d5_read_68 : mR m5_read = some .int ∧ decode (mB m5_read) 68 = .ok (.ireturn, 1) := ⟨rfl, by decide +kernel⟩
theorem d5_begin_0 : Dal m5_begin 0 0 1 := Or.inl ⟨0, by decide +kernel, rfl, rfl⟩
theorem d5_begin_1 : Dgf m5_begin 1 5 2 4 := ⟨26, by decide +kernel, f_X5_26, rfl⟩
theorem d5_begin_4 : Dal m5_begin 4 0 5 := Or.inl ⟨0, by decide +kernel, rfl, rfl⟩
theorem d5_begin_5 : Dgf m5_begin 5 5 1 8 := ⟨19, by decide +kernel, f_X5_19, rfl⟩
theorem d5_begin_8 : Div m5_begin 8 m2_startAnew 1 11 := ⟨62, by decide +kernel, lk_X5_62, v_2_startAnew, rfl⟩
theorem d5_begin_11 : Dal m5_begin 11 0 12 := Or.inl ⟨0, by decide +kernel, rfl, rfl⟩
theorem d5_begin_12 : Dgf m5_begin 12 5 2 15 := ⟨26, by decide +kernel, f_X5_26, rfl⟩
theorem d5_begin_15 : Div m5_begin 15 m2_now 0 18 := ⟨65, by decide +kernel, lk_X5_65, v_2_now, rfl⟩
theorem d5_begin_18 : Dgf m5_begin 18 1 0 21 := ⟨69, by decide +kernel, f_X5_69, rfl⟩
theorem d5_begin_21 : mR m5_begin = some .int ∧ decode (mB m5_begin) 21 = .ok (.ireturn, 1) := ⟨rfl, by decide +kernel⟩
theorem d5_go_0 : Dal m5_go 0 0 1 := Or.inl ⟨0, by decide +kernel, rfl, rfl⟩
theorem d5_go_1 : Div m5_go 1 m5_isLineShown 0 4 := ⟨74, by decide +kernel, lk_X5_74, v_5_isLineShown, rfl⟩
theorem d5_go_4 : Dif m5_go 4 .ne 10 7 := ⟨(6), by decide +kernel, by decide, rfl⟩
theorem d5_go_7 : Dc m5_go 7 (.bipush (-13)) 2 9 := ⟨by decide +kernel, rfl⟩
theorem d5_go_9 : mR m5_go = some .int ∧ decode (mB m5_go) 9 = .ok (.ireturn, 1) := ⟨rfl, by decide +kernel⟩
theorem d5_go_10 : Dal m5_go 10 0 11 := Or.inl ⟨0, by decide +kernel, rfl, rfl⟩
theorem d5_go_11 : Div m5_go 11 m5_goOnFromLine 0 14 := ⟨78, by decide +kernel, lk_X5_78, v_5_goOnFromLine, rfl⟩
theorem d5_go_14 : Dc m5_go 14 .pop 1 15 := ⟨by decide +kernel, rfl⟩
theorem d5_go_15 : Dal m5_go 15 0 16 := Or.inl ⟨0, by decide +kernel, rfl, rfl⟩
theorem d5_go_16 : Dgf m5_go 16 5 2 19 := ⟨26, by decide +kernel, f_X5_26, rfl⟩
theorem d5_go_19 : Div m5_go 19 m2_now 0 22 := ⟨65, by decide +kernel, lk_X5_65, v_2_now, rfl⟩
theorem d5_go_22 : Dgf m5_go 22 1 0 25 := ⟨69, by decide +kernel, f_X5_69, rfl⟩
theorem d5_go_25 : mR m5_go = some .int ∧ decode (mB m5_go) 25 = .ok (.ireturn, 1) := ⟨rfl, by decide +kernel⟩
theorem d5_choose_0 : Dil m5_choose 0 1 1 := Or.inl ⟨1, by decide +kernel, rfl, rfl⟩
theorem d5_choose_1 : Dif m5_choose 1 .ge 7 4 := ⟨(6), by decide +kernel, by decide, rfl⟩
theorem d5_choose_4 : Dc m5_choose 4 (.bipush (-12)) 2 6 := ⟨by decide +kernel, rfl⟩
theorem d5_choose_6 : mR m5_choose = some .int ∧ decode (mB m5_choose) 6 = .ok (.ireturn, 1) := ⟨rfl, by decide +kernel⟩
theorem d5_choose_7 : Dal m5_choose 7 0 8 := Or.inl ⟨0, by decide +kernel, rfl, rfl⟩
theorem d5_choose_8 : Dgf m5_choose 8 5 2 11 := ⟨26, by decide +kernel, f_X5_26, rfl⟩
theorem d5_choose_11 : Div m5_choose 11 m2_now 0 14 := ⟨65, by decide +kernel, lk_X5_65, v_2_now, rfl⟩
theorem d5_choose_14 : Das m5_choose 14 2 15 := Or.inl ⟨2, by decide +kernel, rfl, rfl⟩
theorem d5_choose_15 : Dal m5_choose 15 0 16 := Or.inl ⟨0, by decide +kernel, rfl, rfl⟩
theorem d5_choose_16 : Dgf m5_choose 16 5 1 19 := ⟨19, by decide +kernel, f_X5_19, rfl⟩
theorem d5_choose_19 : Dal m5_choose 19 2 20 := Or.inl ⟨2, by decide +kernel, rfl, rfl⟩
theorem d5_choose_20 : Dgf m5_choose 20 1 0 23 := ⟨69, by decide +kernel, f_X5_69, rfl⟩
theorem d5_choose_23 : Dil m5_choose 23 1 24 := Or.inl ⟨1, by decide +kernel, rfl, rfl⟩
theorem d5_choose_24 : Dal m5_choose 24 2 25 := Or.inl ⟨2, by decide +kernel, rfl, rfl⟩
theorem d5_choose_25 : Dgf m5_choose 25 1 1 28 := ⟨81, by decide +kernel, f_X5_81, rfl⟩
theorem d5_choose_28 : Div m5_choose 28 m3_isOpen 3 31 := ⟨84, by decide +kernel, lk_X5_84, v_3_isOpen, rfl⟩
theorem d5_choose_31 : Dif m5_choose 31 .ne 37 34 := ⟨(6), by decide +kernel, by decide, rfl⟩
theorem d5_choose_34 : Dc m5_choose 34 (.bipush (-13)) 2 36 := ⟨by decide +kernel, rfl⟩
theorem d5_choose_36 : mR m5_choose = some .int ∧ decode (mB m5_choose) 36 = .ok (.ireturn, 1) := ⟨rfl, by decide +kernel⟩
theorem d5_choose_37 : Dal m5_choose 37 0 38 := Or.inl ⟨0, by decide +kernel, rfl, rfl⟩
theorem d5_choose_38 : Dgf m5_choose 38 5 2 41 := ⟨26, by decide +kernel, f_X5_26, rfl⟩
theorem d5_choose_41 : Dal m5_choose 41 0 42 := Or.inl ⟨0, by decide +kernel, rfl, rfl⟩
theorem d5_choose_42 : Dgf m5_choose 42 5 1 45 := ⟨19, by decide +kernel, f_X5_19, rfl⟩
theorem d5_choose_45 : Dal m5_choose 45 0 46 := Or.inl ⟨0, by decide +kernel, rfl, rfl⟩
theorem d5_choose_46 : Dgf m5_choose 46 5 1 49 := ⟨19, by decide +kernel, f_X5_19, rfl⟩
theorem d5_choose_49 : Dal m5_choose 49 2 50 := Or.inl ⟨2, by decide +kernel, rfl, rfl⟩
theorem d5_choose_50 : Dgf m5_choose 50 1 0 53 := ⟨69, by decide +kernel, f_X5_69, rfl⟩
theorem d5_choose_53 : Dil m5_choose 53 1 54 := Or.inl ⟨1, by decide +kernel, rfl, rfl⟩
theorem d5_choose_54 : Dc m5_choose 54 (.iconst 0) 1 55 := ⟨by decide +kernel, rfl⟩
theorem d5_choose_55 : Div m5_choose 55 m3_optionPart 3 58 := ⟨88, by decide +kernel, lk_X5_88, v_3_optionPart, rfl⟩
theorem d5_choose_58 : Div m5_choose 58 m2_goOn 2 61 := ⟨92, by decide +kernel, lk_X5_92, v_2_goOn, rfl⟩
theorem d5_choose_61 : Dc m5_choose 61 .pop 1 62 := ⟨by decide +kernel, rfl⟩
theorem d5_choose_62 : Dal m5_choose 62 0 63 := Or.inl ⟨0, by decide +kernel, rfl, rfl⟩
theorem d5_choose_63 : Dgf m5_choose 63 5 2 66 := ⟨26, by decide +kernel, f_X5_26, rfl⟩
theorem d5_choose_66 : Div m5_choose 66 m2_now 0 69 := ⟨65, by decide +kernel, lk_X5_65, v_2_now, rfl⟩
theorem d5_choose_69 : Dgf m5_choose 69 1 0 72 := ⟨69, by decide +kernel, f_X5_69, rfl⟩
theorem d5_choose_72 : mR m5_choose = some .int ∧ decode (mB m5_choose) 72 = .ok (.ireturn, 1) := ⟨rfl, by decide +kernel⟩
theorem d5_skip_0 : Dal m5_skip 0 0 1 := Or.inl ⟨0, by decide +kernel, rfl, rfl⟩
theorem d5_skip_1 : Div m5_skip 1 m5_isLineShown 0 4 := ⟨74, by decide +kernel, lk_X5_74, v_5_isLineShown, rfl⟩
theorem d5_skip_4 : Dif m5_skip 4 .ne 10 7 := ⟨(6), by decide +kernel, by decide, rfl⟩
theorem d5_skip_7 : Dc m5_skip 7 (.bipush (-13)) 2 9 := ⟨by decide +kernel, rfl⟩
theorem d5_skip_9 : mR m5_skip = some .int ∧ decode (mB m5_skip) 9 = .ok (.ireturn, 1) := ⟨rfl, by decide +kernel⟩
theorem d5_skip_10 : Dc m5_skip 10 (.iconst 0) 1 11 := ⟨by decide +kernel, rfl⟩
theorem d5_skip_11 : Dis m5_skip 11 1 12 := Or.inl ⟨1, by decide +kernel, rfl, rfl⟩
theorem d5_skip_12 : Dc m5_skip 12 (.iconst 1) 1 13 := ⟨by decide +kernel, rfl⟩
theorem d5_skip_13 : Dis m5_skip 13 2 14 := Or.inl ⟨2, by decide +kernel, rfl, rfl⟩
theorem d5_skip_14 : Dil m5_skip 14 1 15 := Or.inl ⟨1, by decide +kernel, rfl, rfl⟩
theorem d5_skip_15 : Dc m5_skip 15 (.bipush 60) 2 17 := ⟨by decide +kernel, rfl⟩
theorem d5_skip_17 : Dic m5_skip 17 .ge 42 20 := ⟨(25), by decide +kernel, by decide, rfl⟩
theorem d5_skip_20 : Dil m5_skip 20 2 21 := Or.inl ⟨2, by decide +kernel, rfl, rfl⟩
theorem d5_skip_21 : Dif m5_skip 21 .eq 42 24 := ⟨(21), by decide +kernel, by decide, rfl⟩
theorem d5_skip_24 : Dal m5_skip 24 0 25 := Or.inl ⟨0, by decide +kernel, rfl, rfl⟩
theorem d5_skip_25 : Div m5_skip 25 m5_isLineShown 0 28 := ⟨74, by decide +kernel, lk_X5_74, v_5_isLineShown, rfl⟩
theorem d5_skip_28 : Dif m5_skip 28 .eq 42 31 := ⟨(14), by decide +kernel, by decide, rfl⟩
theorem d5_skip_31 : Dal m5_skip 31 0 32 := Or.inl ⟨0, by decide +kernel, rfl, rfl⟩
theorem d5_skip_32 : Div m5_skip 32 m5_goOnFromLine 0 35 := ⟨78, by decide +kernel, lk_X5_78, v_5_goOnFromLine, rfl⟩
theorem d5_skip_35 : Dis m5_skip 35 2 36 := Or.inl ⟨2, by decide +kernel, rfl, rfl⟩
theorem d5_skip_36 : Dc m5_skip 36 (.iinc 1 1) 3 39 := ⟨by decide +kernel, rfl⟩
theorem d5_skip_39 : Dgo m5_skip 39 14 := ⟨(-25), by decide +kernel, by decide⟩
theorem d5_skip_42 : Dil m5_skip 42 1 43 := Or.inl ⟨1, by decide +kernel, rfl, rfl⟩
theorem d5_skip_43 : mR m5_skip = some .int ∧ decode (mB m5_skip) 43 = .ok (.ireturn, 1) := ⟨rfl, by decide +kernel⟩
theorem d5_back_0 : Dil m5_back 0 1 1 := Or.inl ⟨1, by decide +kernel, rfl, rfl⟩
theorem d5_back_1 : Dc m5_back 1 (.iconst 1) 1 2 := ⟨by decide +kernel, rfl⟩
theorem d5_back_2 : Dic m5_back 2 .lt 11 5 := ⟨(9), by decide +kernel, by decide, rfl⟩
theorem d5_back_5 : Dil m5_back 5 1 6 := Or.inl ⟨1, by decide +kernel, rfl, rfl⟩
theorem d5_back_6 : Dc m5_back 6 (.bipush 20) 2 8 := ⟨by decide +kernel, rfl⟩
theorem d5_back_8 : Dic m5_back 8 .le 14 11 := ⟨(6), by decide +kernel, by decide, rfl⟩
theorem d5_back_11 : Dc m5_back 11 (.bipush (-12)) 2 13 := ⟨by decide +kernel, rfl⟩
theorem d5_back_13 : mR m5_back = some .int ∧ decode (mB m5_back) 13 = .ok (.ireturn, 1) := ⟨rfl, by decide +kernel⟩
theorem d5_back_14 : Dal m5_back 14 0 15 := Or.inl ⟨0, by decide +kernel, rfl, rfl⟩
theorem d5_back_15 : Dgf m5_back 15 5 2 18 := ⟨26, by decide +kernel, f_X5_26, rfl⟩
theorem d5_back_18 : Dil m5_back 18 1 19 := Or.inl ⟨1, by decide +kernel, rfl, rfl⟩
theorem d5_back_19 : Div m5_back 19 m2_turnBack 1 22 := ⟨96, by decide +kernel, lk_X5_96, v_2_turnBack, rfl⟩
theorem d5_back_22 : Dif m5_back 22 .eq 38 25 := ⟨(16), by decide +kernel, by decide, rfl⟩
theorem d5_back_25 : Dal m5_back 25 0 26 := Or.inl ⟨0, by decide +kernel, rfl, rfl⟩
theorem d5_back_26 : Dgf m5_back 26 5 2 29 := ⟨26, by decide +kernel, f_X5_26, rfl⟩
theorem d5_back_29 : Div m5_back 29 m2_now 0 32 := ⟨65, by decide +kernel, lk_X5_65, v_2_now, rfl⟩
theorem d5_back_32 : Dgf m5_back 32 1 0 35 := ⟨69, by decide +kernel, f_X5_69, rfl⟩
theorem d5_back_35 : Dgo m5_back 35 40 := ⟨5, by decide +kernel, by decide⟩
theorem d5_back_38 : Dc m5_back 38 (.bipush (-13)) 2 40 := ⟨by decide +kernel, rfl⟩
theorem d5_back_40 : mR m5_back = some .int ∧ decode (mB m5_back) 40 = .ok (.ireturn, 1) := ⟨rfl, by decide +kernel⟩
theorem d5_again_0 : Dal m5_again 0 0 1 := Or.inl ⟨0, by decide +kernel, rfl, rfl⟩
theorem d5_again_1 : Dgf m5_again 1 5 2 4 := ⟨26, by decide +kernel, f_X5_26, rfl⟩
theorem d5_again_4 : Div m5_again 4 m2_turnForth 0 7 := ⟨100, by decide +kernel, lk_X5_100, v_2_turnForth, rfl⟩
theorem d5_again_7 : Dif m5_again 7 .eq 23 10 := ⟨(16), by decide +kernel, by decide, rfl⟩
theorem d5_again_10 : Dal m5_again 10 0 11 := Or.inl ⟨0, by decide +kernel, rfl, rfl⟩
theorem d5_again_11 : Dgf m5_again 11 5 2 14 := ⟨26, by decide +kernel, f_X5_26, rfl⟩
theorem d5_again_14 : Div m5_again 14 m2_now 0 17 := ⟨65, by decide +kernel, lk_X5_65, v_2_now, rfl⟩
theorem d5_again_17 : Dgf m5_again 17 1 0 20 := ⟨69, by decide +kernel, f_X5_69, rfl⟩
theorem d5_again_20 : Dgo m5_again 20 25 := ⟨5, by decide +kernel, by decide⟩
theorem d5_again_23 : Dc m5_again 23 (.bipush (-13)) 2 25 := ⟨by decide +kernel, rfl⟩
theorem d5_again_25 : mR m5_again = some .int ∧ decode (mB m5_again) 25 = .ok (.ireturn, 1) := ⟨rfl, by decide +kernel⟩
theorem d5_save_0 : Dil m5_save 0 1 1 := Or.inl ⟨1, by decide +kernel, rfl, rfl⟩
theorem d5_save_1 : Dif m5_save 1 .lt 9 4 := ⟨(8), by decide +kernel, by decide, rfl⟩
theorem d5_save_4 : Dil m5_save 4 1 5 := Or.inl ⟨1, by decide +kernel, rfl, rfl⟩
theorem d5_save_5 : Dc m5_save 5 (.iconst 3) 1 6 := ⟨by decide +kernel, rfl⟩
theorem d5_save_6 : Dic m5_save 6 .lt 12 9 := ⟨(6), by decide +kernel, by decide, rfl⟩
theorem d5_save_9 : Dc m5_save 9 (.bipush (-12)) 2 11 := ⟨by decide +kernel, rfl⟩
theorem d5_save_11 : mR m5_save = some .int ∧ decode (mB m5_save) 11 = .ok (.ireturn, 1) := ⟨rfl, by decide +kernel⟩
theorem d5_save_12 : Dal m5_save 12 0 13 := Or.inl ⟨0, by decide +kernel, rfl, rfl⟩
theorem d5_save_13 : Dgf m5_save 13 5 2 16 := ⟨26, by decide +kernel, f_X5_26, rfl⟩
theorem d5_save_16 : Dil m5_save 16 1 17 := Or.inl ⟨1, by decide +kernel, rfl, rfl⟩
theorem d5_save_17 : Div m5_save 17 m2_keepIn 1 20 := ⟨103, by decide +kernel, lk_X5_103, v_2_keepIn, rfl⟩
theorem d5_save_20 : Dal m5_save 20 0 21 := Or.inl ⟨0, by decide +kernel, rfl, rfl⟩
theorem d5_save_21 : Dgf m5_save 21 5 2 24 := ⟨26, by decide +kernel, f_X5_26, rfl⟩
theorem d5_save_24 : Div m5_save 24 m2_now 0 27 := ⟨65, by decide +kernel, lk_X5_65, v_2_now, rfl⟩
theorem d5_save_27 : Dgf m5_save 27 1 0 30 := ⟨69, by decide +kernel, f_X5_69, rfl⟩
theorem d5_save_30 : mR m5_save = some .int ∧ decode (mB m5_save) 30 = .ok (.ireturn, 1) := ⟨rfl, by decide +kernel⟩
theorem d5_restore_0 : Dil m5_restore 0 1 1 := Or.inl ⟨1, by decide +kernel, rfl, rfl⟩
theorem d5_restore_1 : Dif m5_restore 1 .lt 9 4 := ⟨(8), by decide +kernel, by decide, rfl⟩
theorem d5_restore_4 : Dil m5_restore 4 1 5 := Or.inl ⟨1, by decide +kernel, rfl, rfl⟩
theorem d5_restore_5 : Dc m5_restore 5 (.iconst 3) 1 6 := ⟨by decide +kernel, rfl⟩
theorem d5_restore_6 : Dic m5_restore 6 .lt 12 9 := ⟨(6), by decide +kernel, by decide, rfl⟩
theorem d5_restore_9 : Dc m5_restore 9 (.bipush (-12)) 2 11 := ⟨by decide +kernel, rfl⟩
theorem d5_restore_11 : mR m5_restore = some .int ∧ decode (mB m5_restore) 11 = .ok (.ireturn, 1) := ⟨rfl, by decide +kernel⟩
theorem d5_restore_12 : Dal m5_restore 12 0 13 := Or.inl ⟨0, by decide +kernel, rfl, rfl⟩
theorem d5_restore_13 : Dgf m5_restore 13 5 2 16 := ⟨26, by decide +kernel, f_X5_26, rfl⟩
theorem d5_restore_16 : Dil m5_restore 16 1 17 := Or.inl ⟨1, by decide +kernel, rfl, rfl⟩
theorem d5_restore_17 : Div m5_restore 17 m2_takeFrom 1 20 := ⟨107, by decide +kernel, lk_X5_107, v_2_takeFrom, rfl⟩
theorem d5_restore_20 : Dif m5_restore 20 .eq 36 23 := ⟨(16), by decide +kernel, by decide, rfl⟩
theorem d5_restore_23 : Dal m5_restore 23 0 24 := Or.inl ⟨0, by decide +kernel, rfl, rfl⟩
theorem d5_restore_24 : Dgf m5_restore 24 5 2 27 := ⟨26, by decide +kernel, f_X5_26, rfl⟩
theorem d5_restore_27 : Div m5_restore 27 m2_now 0 30 := ⟨65, by decide +kernel, lk_X5_65, v_2_now, rfl⟩
theorem d5_restore_30 : Dgf m5_restore 30 1 0 33 := ⟨69, by decide +kernel, f_X5_69, rfl⟩
theorem d5_restore_33 : Dgo m5_restore 33 38 := ⟨5, by decide +kernel, by decide⟩
theorem d5_restore_36 : Dc m5_restore 36 (.bipush (-13)) 2 38 := ⟨by decide +kernel, rfl⟩
theorem d5_restore_38 : mR m5_restore = some .int ∧ decode (mB m5_restore) 38 = .ok (.ireturn, 1) := ⟨rfl, by decide +kernel⟩
theorem d5_shown_0 : Dal m5_shown 0 0 1 := Or.inl ⟨0, by decide +kernel, rfl, rfl⟩
theorem d5_shown_1 : Dgf m5_shown 1 5 2 4 := ⟨26, by decide +kernel, f_X5_26, rfl⟩
theorem d5_shown_4 : Div m5_shown 4 m2_now 0 7 := ⟨65, by decide +kernel, lk_X5_65, v_2_now, rfl⟩
theorem d5_shown_7 : Das m5_shown 7 2 8 := Or.inl ⟨2, by decide +kernel, rfl, rfl⟩
theorem d5_shown_8 : Dil m5_shown 8 1 9 := Or.inl ⟨1, by decide +kernel, rfl, rfl⟩
theorem d5_shown_9 : Dts m5_shown 9 0 [48, 53, 65, 90, 102, 107] 123 := ⟨114, 5, #[39, 44, 56, 81, 93, 98], 39, by decide +kernel, by decide, by decide, rfl, by decide⟩
theorem d5_shown_48 : Dal m5_shown 48 2 49 := Or.inl ⟨2, by decide +kernel, rfl, rfl⟩
theorem d5_shown_49 : Dgf m5_shown 49 1 0 52 := ⟨69, by decide +kernel, f_X5_69, rfl⟩
theorem d5_shown_52 : mR m5_shown = some .int ∧ decode (mB m5_shown) 52 = .ok (.ireturn, 1) := ⟨rfl, by decide +kernel⟩
theorem d5_shown_53 : Dal m5_shown 53 0 54 := Or.inl ⟨0, by decide +kernel, rfl, rfl⟩
theorem d5_shown_54 : Dgf m5_shown 54 5 1 57 := ⟨19, by decide +kernel, f_X5_19, rfl⟩
theorem d5_shown_57 : Dal m5_shown 57 2 58 := Or.inl ⟨2, by decide +kernel, rfl, rfl⟩
theorem d5_shown_58 : Dgf m5_shown 58 1 0 61 := ⟨69, by decide +kernel, f_X5_69, rfl⟩
theorem d5_shown_61 : Div m5_shown 61 m3_shownKind 1 64 := ⟨110, by decide +kernel, lk_X5_110, v_3_shownKind, rfl⟩
theorem d5_shown_64 : mR m5_shown = some .int ∧ decode (mB m5_shown) 64 = .ok (.ireturn, 1) := ⟨rfl, by decide +kernel⟩
theorem d5_shown_65 : Dal m5_shown 65 0 66 := Or.inl ⟨0, by decide +kernel, rfl, rfl⟩
theorem d5_shown_66 : Div m5_shown 66 m5_isLineShown 0 69 := ⟨74, by decide +kernel, lk_X5_74, v_5_isLineShown, rfl⟩
theorem d5_shown_69 : Dif m5_shown 69 .eq 87 72 := ⟨(18), by decide +kernel, by decide, rfl⟩
theorem d5_shown_72 : Dal m5_shown 72 0 73 := Or.inl ⟨0, by decide +kernel, rfl, rfl⟩
theorem d5_shown_73 : Dgf m5_shown 73 5 1 76 := ⟨19, by decide +kernel, f_X5_19, rfl⟩
theorem d5_shown_76 : Dal m5_shown 76 2 77 := Or.inl ⟨2, by decide +kernel, rfl, rfl⟩
theorem d5_shown_77 : Dgf m5_shown 77 1 0 80 := ⟨69, by decide +kernel, f_X5_69, rfl⟩
theorem d5_shown_80 : Dc m5_shown 80 (.iconst 0) 1 81 := ⟨by decide +kernel, rfl⟩
theorem d5_shown_81 : Div m5_shown 81 m3_numberOf 2 84 := ⟨114, by decide +kernel, lk_X5_114, v_3_numberOf, rfl⟩
theorem d5_shown_84 : Dgo m5_shown 84 89 := ⟨5, by decide +kernel, by decide⟩
theorem d5_shown_87 : Dc m5_shown 87 (.bipush (-11)) 2 89 := ⟨by decide +kernel, rfl⟩
theorem d5_shown_89 : mR m5_shown = some .int ∧ decode (mB m5_shown) 89 = .ok (.ireturn, 1) := ⟨rfl, by decide +kernel⟩
theorem d5_shown_90 : Dal m5_shown 90 0 91 := Or.inl ⟨0, by decide +kernel, rfl, rfl⟩
theorem d5_shown_91 : Dgf m5_shown 91 5 1 94 := ⟨19, by decide +kernel, f_X5_19, rfl⟩
theorem d5_shown_94 : Dal m5_shown 94 2 95 := Or.inl ⟨2, by decide +kernel, rfl, rfl⟩
theorem d5_shown_95 : Dgf m5_shown 95 1 0 98 := ⟨69, by decide +kernel, f_X5_69, rfl⟩
theorem d5_shown_98 : Div m5_shown 98 m3_shownNumber 1 101 := ⟨118, by decide +kernel, lk_X5_118, v_3_shownNumber, rfl⟩
theorem d5_shown_101 : mR m5_shown = some .int ∧ decode (mB m5_shown) 101 = .ok (.ireturn, 1) := ⟨rfl, by decide +kernel⟩
theorem d5_shown_102 : Dal m5_shown 102 2 103 := Or.inl ⟨2, by decide +kernel, rfl, rfl⟩
theorem d5_shown_103 : Dgf m5_shown 103 1 1 106 := ⟨81, by decide +kernel, f_X5_81, rfl⟩
theorem d5_shown_106 : mR m5_shown = some .int ∧ decode (mB m5_shown) 106 = .ok (.ireturn, 1) := ⟨rfl, by decide +kernel⟩
theorem d5_shown_107 : Dal m5_shown 107 0 108 := Or.inl ⟨0, by decide +kernel, rfl, rfl⟩
theorem d5_shown_108 : Dgf m5_shown 108 5 1 111 := ⟨19, by decide +kernel, f_X5_19, rfl⟩
theorem d5_shown_111 : Dal m5_shown 111 2 112 := Or.inl ⟨2, by decide +kernel, rfl, rfl⟩
theorem d5_shown_112 : Dgf m5_shown 112 1 0 115 := ⟨69, by decide +kernel, f_X5_69, rfl⟩
theorem d5_shown_115 : Dal m5_shown 115 2 116 := Or.inl ⟨2, by decide +kernel, rfl, rfl⟩
theorem d5_shown_116 : Dgf m5_shown 116 1 1 119 := ⟨81, by decide +kernel, f_X5_81, rfl⟩
theorem d5_shown_119 : Div m5_shown 119 m3_openOptions 2 122 := ⟨121, by decide +kernel, lk_X5_121, v_3_openOptions, rfl⟩
theorem d5_shown_122 : mR m5_shown = some .int ∧ decode (mB m5_shown) 122 = .ok (.ireturn, 1) := ⟨rfl, by decide +kernel⟩
theorem d5_shown_123 : Dc m5_shown 123 (.bipush (-12)) 2 125 := ⟨by decide +kernel, rfl⟩
theorem d5_shown_125 : mR m5_shown = some .int ∧ decode (mB m5_shown) 125 = .ok (.ireturn, 1) := ⟨rfl, by decide +kernel⟩
theorem d5_portrait_0 : Dil m5_portrait 0 1 1 := Or.inl ⟨1, by decide +kernel, rfl, rfl⟩
theorem d5_portrait_1 : Dif m5_portrait 1 .lt 9 4 := ⟨(8), by decide +kernel, by decide, rfl⟩
theorem d5_portrait_4 : Dil m5_portrait 4 1 5 := Or.inl ⟨1, by decide +kernel, rfl, rfl⟩
theorem d5_portrait_5 : Dc m5_portrait 5 (.iconst 3) 1 6 := ⟨by decide +kernel, rfl⟩
theorem d5_portrait_6 : Dic m5_portrait 6 .lt 12 9 := ⟨(6), by decide +kernel, by decide, rfl⟩
theorem d5_portrait_9 : Dc m5_portrait 9 (.bipush (-12)) 2 11 := ⟨by decide +kernel, rfl⟩
theorem d5_portrait_11 : mR m5_portrait = some .int ∧ decode (mB m5_portrait) 11 = .ok (.ireturn, 1) := ⟨rfl, by decide +kernel⟩
theorem d5_portrait_12 : Dal m5_portrait 12 0 13 := Or.inl ⟨0, by decide +kernel, rfl, rfl⟩
theorem d5_portrait_13 : Dgf m5_portrait 13 5 2 16 := ⟨26, by decide +kernel, f_X5_26, rfl⟩
theorem d5_portrait_16 : Div m5_portrait 16 m2_now 0 19 := ⟨65, by decide +kernel, lk_X5_65, v_2_now, rfl⟩
theorem d5_portrait_19 : Das m5_portrait 19 3 20 := Or.inl ⟨3, by decide +kernel, rfl, rfl⟩
theorem d5_portrait_20 : Dil m5_portrait 20 2 21 := Or.inl ⟨2, by decide +kernel, rfl, rfl⟩
theorem d5_portrait_21 : Dif m5_portrait 21 .eq 33 24 := ⟨(12), by decide +kernel, by decide, rfl⟩
theorem d5_portrait_24 : Dal m5_portrait 24 3 25 := Or.inl ⟨3, by decide +kernel, rfl, rfl⟩
theorem d5_portrait_25 : Dgf m5_portrait 25 1 3 28 := ⟨124, by decide +kernel, f_X5_124, rfl⟩
theorem d5_portrait_28 : Dil m5_portrait 28 1 29 := Or.inl ⟨1, by decide +kernel, rfl, rfl⟩
theorem d5_portrait_29 : Dc m5_portrait 29 .iaload 1 30 := ⟨by decide +kernel, rfl⟩
theorem d5_portrait_30 : Dgo m5_portrait 30 39 := ⟨9, by decide +kernel, by decide⟩
theorem d5_portrait_33 : Dal m5_portrait 33 3 34 := Or.inl ⟨3, by decide +kernel, rfl, rfl⟩
theorem d5_portrait_34 : Dgf m5_portrait 34 1 2 37 := ⟨128, by decide +kernel, f_X5_128, rfl⟩
theorem d5_portrait_37 : Dil m5_portrait 37 1 38 := Or.inl ⟨1, by decide +kernel, rfl, rfl⟩
theorem d5_portrait_38 : Dc m5_portrait 38 .iaload 1 39 := ⟨by decide +kernel, rfl⟩
theorem d5_portrait_39 : mR m5_portrait = some .int ∧ decode (mB m5_portrait) 39 = .ok (.ireturn, 1) := ⟨rfl, by decide +kernel⟩
theorem d5_count_0 : Dil m5_count 0 1 1 := Or.inl ⟨1, by decide +kernel, rfl, rfl⟩
theorem d5_count_1 : Dts m5_count 1 0 [44, 52, 62, 80, 88, 96, 104] 112 := ⟨111, 6, #[43, 51, 61, 79, 87, 95, 103], 43, by decide +kernel, by decide, by decide, rfl, by decide⟩
theorem d5_count_44 : Dal m5_count 44 0 45 := Or.inl ⟨0, by decide +kernel, rfl, rfl⟩
theorem d5_count_45 : Dgf m5_count 45 5 1 48 := ⟨19, by decide +kernel, f_X5_19, rfl⟩
theorem d5_count_48 : Dgf m5_count 48 3 0 51 := ⟨59, by decide +kernel, f_X5_59, rfl⟩
theorem d5_count_51 : mR m5_count = some .int ∧ decode (mB m5_count) 51 = .ok (.ireturn, 1) := ⟨rfl, by decide +kernel⟩
theorem d5_count_52 : Dal m5_count 52 0 53 := Or.inl ⟨0, by decide +kernel, rfl, rfl⟩
theorem d5_count_53 : Dgf m5_count 53 5 2 56 := ⟨26, by decide +kernel, f_X5_26, rfl⟩
theorem d5_count_56 : Dgf m5_count 56 2 2 59 := ⟨159, by decide +kernel, f_X5_159, rfl⟩
theorem d5_count_59 : Dc m5_count 59 (.iconst 1) 1 60 := ⟨by decide +kernel, rfl⟩
theorem d5_count_60 : Dc m5_count 60 .iadd 1 61 := ⟨by decide +kernel, rfl⟩
theorem d5_count_61 : mR m5_count = some .int ∧ decode (mB m5_count) 61 = .ok (.ireturn, 1) := ⟨rfl, by decide +kernel⟩
theorem d5_count_62 : Dal m5_count 62 0 63 := Or.inl ⟨0, by decide +kernel, rfl, rfl⟩
theorem d5_count_63 : Dgf m5_count 63 5 2 66 := ⟨26, by decide +kernel, f_X5_26, rfl⟩
theorem d5_count_66 : Dgf m5_count 66 2 1 69 := ⟨162, by decide +kernel, f_X5_162, rfl⟩
theorem d5_count_69 : Dal m5_count 69 0 70 := Or.inl ⟨0, by decide +kernel, rfl, rfl⟩
theorem d5_count_70 : Dgf m5_count 70 5 2 73 := ⟨26, by decide +kernel, f_X5_26, rfl⟩
theorem d5_count_73 : Dgf m5_count 73 2 2 76 := ⟨159, by decide +kernel, f_X5_159, rfl⟩
theorem d5_count_76 : Dc m5_count 76 .isub 1 77 := ⟨by decide +kernel, rfl⟩
theorem d5_count_77 : Dc m5_count 77 (.iconst 1) 1 78 := ⟨by decide +kernel, rfl⟩
theorem d5_count_78 : Dc m5_count 78 .isub 1 79 := ⟨by decide +kernel, rfl⟩
theorem d5_count_79 : mR m5_count = some .int ∧ decode (mB m5_count) 79 = .ok (.ireturn, 1) := ⟨rfl, by decide +kernel⟩
theorem d5_count_80 : Dal m5_count 80 0 81 := Or.inl ⟨0, by decide +kernel, rfl, rfl⟩
theorem d5_count_81 : Dgf m5_count 81 5 2 84 := ⟨26, by decide +kernel, f_X5_26, rfl⟩
theorem d5_count_84 : Div m5_count 84 m2_seenNodes 0 87 := ⟨165, by decide +kernel, lk_X5_165, v_2_seenNodes, rfl⟩
theorem d5_count_87 : mR m5_count = some .int ∧ decode (mB m5_count) 87 = .ok (.ireturn, 1) := ⟨rfl, by decide +kernel⟩
theorem d5_count_88 : Dal m5_count 88 0 89 := Or.inl ⟨0, by decide +kernel, rfl, rfl⟩
theorem d5_count_89 : Dgf m5_count 89 5 2 92 := ⟨26, by decide +kernel, f_X5_26, rfl⟩
theorem d5_count_92 : Div m5_count 92 m2_usedSlots 0 95 := ⟨168, by decide +kernel, lk_X5_168, v_2_usedSlots, rfl⟩
theorem d5_count_95 : mR m5_count = some .int ∧ decode (mB m5_count) 95 = .ok (.ireturn, 1) := ⟨rfl, by decide +kernel⟩
theorem d5_count_96 : Dal m5_count 96 0 97 := Or.inl ⟨0, by decide +kernel, rfl, rfl⟩
theorem d5_count_97 : Dgf m5_count 97 5 3 100 := ⟨33, by decide +kernel, f_X5_33, rfl⟩
theorem d5_count_100 : Div m5_count 100 m0_reachedEnds 0 103 := ⟨171, by decide +kernel, lk_X5_171, v_0_reachedEnds, rfl⟩
theorem d5_count_103 : mR m5_count = some .int ∧ decode (mB m5_count) 103 = .ok (.ireturn, 1) := ⟨rfl, by decide +kernel⟩
theorem d5_count_104 : Dal m5_count 104 0 105 := Or.inl ⟨0, by decide +kernel, rfl, rfl⟩
theorem d5_count_105 : Dgf m5_count 105 5 0 108 := ⟨12, by decide +kernel, f_X5_12, rfl⟩
theorem d5_count_108 : Dgf m5_count 108 4 0 111 := ⟨48, by decide +kernel, f_X5_48, rfl⟩
theorem d5_count_111 : mR m5_count = some .int ∧ decode (mB m5_count) 111 = .ok (.ireturn, 1) := ⟨rfl, by decide +kernel⟩
theorem d5_count_112 : Dc m5_count 112 (.bipush (-12)) 2 114 := ⟨by decide +kernel, rfl⟩
theorem d5_count_114 : mR m5_count = some .int ∧ decode (mB m5_count) 114 = .ok (.ireturn, 1) := ⟨rfl, by decide +kernel⟩
theorem d5_isLineShown_0 : Dal m5_isLineShown 0 0 1 := Or.inl ⟨0, by decide +kernel, rfl, rfl⟩
theorem d5_isLineShown_1 : Dgf m5_isLineShown 1 5 1 4 := ⟨19, by decide +kernel, f_X5_19, rfl⟩
theorem d5_isLineShown_4 : Dal m5_isLineShown 4 0 5 := Or.inl ⟨0, by decide +kernel, rfl, rfl⟩
theorem d5_isLineShown_5 : Dgf m5_isLineShown 5 5 2 8 := ⟨26, by decide +kernel, f_X5_26, rfl⟩
theorem d5_isLineShown_8 : Div m5_isLineShown 8 m2_now 0 11 := ⟨65, by decide +kernel, lk_X5_65, v_2_now, rfl⟩
theorem d5_isLineShown_11 : Dgf m5_isLineShown 11 1 0 14 := ⟨69, by decide +kernel, f_X5_69, rfl⟩
theorem d5_isLineShown_14 : Div m5_isLineShown 14 m3_shownKind 1 17 := ⟨110, by decide +kernel, lk_X5_110, v_3_shownKind, rfl⟩
theorem d5_isLineShown_17 : Dif m5_isLineShown 17 .ne 24 20 := ⟨(7), by decide +kernel, by decide, rfl⟩
theorem d5_isLineShown_20 : Dc m5_isLineShown 20 (.iconst 1) 1 21 := ⟨by decide +kernel, rfl⟩
theorem d5_isLineShown_21 : Dgo m5_isLineShown 21 25 := ⟨4, by decide +kernel, by decide⟩
theorem d5_isLineShown_24 : Dc m5_isLineShown 24 (.iconst 0) 1 25 := ⟨by decide +kernel, rfl⟩
theorem d5_isLineShown_25 : mR m5_isLineShown = some .boolean ∧ decode (mB m5_isLineShown) 25 = .ok (.ireturn, 1) := ⟨rfl, by decide +kernel⟩
theorem d5_goOnFromLine_0 : Dal m5_goOnFromLine 0 0 1 := Or.inl ⟨0, by decide +kernel, rfl, rfl⟩
theorem d5_goOnFromLine_1 : Dgf m5_goOnFromLine 1 5 2 4 := ⟨26, by decide +kernel, f_X5_26, rfl⟩
theorem d5_goOnFromLine_4 : Dal m5_goOnFromLine 4 0 5 := Or.inl ⟨0, by decide +kernel, rfl, rfl⟩
theorem d5_goOnFromLine_5 : Dgf m5_goOnFromLine 5 5 1 8 := ⟨19, by decide +kernel, f_X5_19, rfl⟩
theorem d5_goOnFromLine_8 : Dal m5_goOnFromLine 8 0 9 := Or.inl ⟨0, by decide +kernel, rfl, rfl⟩
theorem d5_goOnFromLine_9 : Dgf m5_goOnFromLine 9 5 2 12 := ⟨26, by decide +kernel, f_X5_26, rfl⟩
theorem d5_goOnFromLine_12 : Div m5_goOnFromLine 12 m2_now 0 15 := ⟨65, by decide +kernel, lk_X5_65, v_2_now, rfl⟩
theorem d5_goOnFromLine_15 : Dgf m5_goOnFromLine 15 1 0 18 := ⟨69, by decide +kernel, f_X5_69, rfl⟩
theorem d5_goOnFromLine_18 : Dc m5_goOnFromLine 18 (.iconst 1) 1 19 := ⟨by decide +kernel, rfl⟩
theorem d5_goOnFromLine_19 : Dc m5_goOnFromLine 19 .iadd 1 20 := ⟨by decide +kernel, rfl⟩
theorem d5_goOnFromLine_20 : Div m5_goOnFromLine 20 m2_goOn 2 23 := ⟨92, by decide +kernel, lk_X5_92, v_2_goOn, rfl⟩
theorem d5_goOnFromLine_23 : mR m5_goOnFromLine = some .boolean ∧ decode (mB m5_goOnFromLine) 23 = .ok (.ireturn, 1) := ⟨rfl, by decide +kernel⟩
theorem d5_endIndex_0 : Dil m5_endIndex 0 0 1 := Or.inl ⟨0, by decide +kernel, rfl, rfl⟩
theorem d5_endIndex_1 : Dc m5_endIndex 1 (.bipush (-3)) 2 3 := ⟨by decide +kernel, rfl⟩
theorem d5_endIndex_3 : Dic m5_endIndex 3 .ne 8 6 := ⟨(5), by decide +kernel, by decide, rfl⟩
theorem d5_endIndex_6 : Dc m5_endIndex 6 (.iconst 0) 1 7 := ⟨by decide +kernel, rfl⟩
theorem d5_endIndex_7 : mR m5_endIndex = some .int ∧ decode (mB m5_endIndex) 7 = .ok (.ireturn, 1) := ⟨rfl, by decide +kernel⟩
theorem d5_endIndex_8 : Dil m5_endIndex 8 0 9 := Or.inl ⟨0, by decide +kernel, rfl, rfl⟩
theorem d5_endIndex_9 : Dc m5_endIndex 9 (.bipush (-2)) 2 11 := ⟨by decide +kernel, rfl⟩
theorem d5_endIndex_11 : Dic m5_endIndex 11 .ne 16 14 := ⟨(5), by decide +kernel, by decide, rfl⟩
theorem d5_endIndex_14 : Dc m5_endIndex 14 (.iconst 1) 1 15 := ⟨by decide +kernel, rfl⟩
theorem d5_endIndex_15 : mR m5_endIndex = some .int ∧ decode (mB m5_endIndex) 15 = .ok (.ireturn, 1) := ⟨rfl, by decide +kernel⟩
theorem d5_endIndex_16 : Dil m5_endIndex 16 0 17 := Or.inl ⟨0, by decide +kernel, rfl, rfl⟩
theorem d5_endIndex_17 : Dif m5_endIndex 17 .lt 32 20 := ⟨(15), by decide +kernel, by decide, rfl⟩
theorem d5_endIndex_20 : Dil m5_endIndex 20 0 21 := Or.inl ⟨0, by decide +kernel, rfl, rfl⟩
theorem d5_endIndex_21 : Dc m5_endIndex 21 (.bipush 9) 2 23 := ⟨by decide +kernel, rfl⟩
theorem d5_endIndex_23 : Dic m5_endIndex 23 .gt 32 26 := ⟨(9), by decide +kernel, by decide, rfl⟩
theorem d5_endIndex_26 : Dil m5_endIndex 26 0 27 := Or.inl ⟨0, by decide +kernel, rfl, rfl⟩
theorem d5_endIndex_27 : Dc m5_endIndex 27 (.iconst 2) 1 28 := ⟨by decide +kernel, rfl⟩
theorem d5_endIndex_28 : Dc m5_endIndex 28 .iadd 1 29 := ⟨by decide +kernel, rfl⟩
theorem d5_endIndex_29 : Dgo m5_endIndex 29 33 := ⟨4, by decide +kernel, by decide⟩
theorem d5_endIndex_32 : Dc m5_endIndex 32 (.iconst (-1)) 1 33 := ⟨by decide +kernel, rfl⟩
theorem d5_endIndex_33 : mR m5_endIndex = some .int ∧ decode (mB m5_endIndex) 33 = .ok (.ireturn, 1) := ⟨rfl, by decide +kernel⟩
