/-! ===== decode rows of X5 ===== -/
theorem d5_usable_6 : Dgf m5_usable 6 5 1 9 := ⟨19, by decide +kernel, f_X5_19, rfl⟩
theorem d5_usable_9 : Dil m5_usable 9 1 10 := Or.inl ⟨1, by decide +kernel, rfl, rfl⟩
theorem d5_usable_10 : Div m5_usable 10 m3_optionsOf 1 13 := ⟨152, by decide +kernel, lk_X5_152, v_3_optionsOf, rfl⟩
theorem d5_usable_13 : Dic m5_usable 13 .lt 19 16 := ⟨(6), by decide +kernel, by decide, rfl⟩
theorem d5_usable_16 : Dc m5_usable 16 (.bipush (-12)) 2 18 := ⟨by decide +kernel, rfl⟩
theorem d5_usable_18 : mR m5_usable = some .int ∧ decode (mB m5_usable) 18 = .ok (.ireturn, 1) := ⟨rfl, by decide +kernel⟩
theorem d5_usable_19 : Dal m5_usable 19 0 20 := Or.inl ⟨0, by decide +kernel, rfl, rfl⟩
theorem d5_usable_20 : Dgf m5_usable 20 5 3 23 := ⟨33, by decide +kernel, f_X5_33, rfl⟩
theorem d5_usable_23 : Dal m5_usable 23 0 24 := Or.inl ⟨0, by decide +kernel, rfl, rfl⟩
theorem d5_usable_24 : Dgf m5_usable 24 5 1 27 := ⟨19, by decide +kernel, f_X5_19, rfl⟩
theorem d5_usable_27 : Dil m5_usable 27 1 28 := Or.inl ⟨1, by decide +kernel, rfl, rfl⟩
theorem d5_usable_28 : Dil m5_usable 28 2 29 := Or.inl ⟨2, by decide +kernel, rfl, rfl⟩
theorem d5_usable_29 : Div m5_usable 29 m0_canUse 3 32 := ⟨155, by decide +kernel, lk_X5_155, v_0_canUse, rfl⟩
theorem d5_usable_32 : Dif m5_usable 32 .eq 39 35 := ⟨(7), by decide +kernel, by decide, rfl⟩
theorem d5_usable_35 : Dc m5_usable 35 (.iconst 1) 1 36 := ⟨by decide +kernel, rfl⟩
theorem d5_usable_36 : Dgo m5_usable 36 40 := ⟨4, by decide +kernel, by decide⟩
theorem d5_usable_39 : Dc m5_usable 39 (.iconst 0) 1 40 := ⟨by decide +kernel, rfl⟩
theorem d5_usable_40 : mR m5_usable = some .int ∧ decode (mB m5_usable) 40 = .ok (.ireturn, 1) := ⟨rfl, by decide +kernel⟩
theorem d5_count_0 : Dil m5_count 0 1 1 := Or.inl ⟨1, by decide +kernel, rfl, rfl⟩
theorem d5_count_1 : Dts m5_count 1 0 [44, 52, 62, 80, 88, 96, 104] 112 := ⟨111, 6, #[43, 51, 61, 79, 87, 95, 103], 43, by decide +kernel, by decide, by decide, rfl, by decide⟩
theorem d5_count_44 : Dal m5_count 44 0 45 := Or.inl ⟨0, by decide +kernel, rfl, rfl⟩
theorem d5_count_45 : Dgf m5_count 45 5 1 48 := ⟨19, by decide +kernel, f_X5_19, rfl⟩
theorem d5_count_48 : Dgf m5_count 48 3 0 51 := ⟨59, by decide +kernel, f_X5_59, rfl⟩
theorem d5_count_51 : mR m5_count = some .int ∧ decode (mB m5_count) 51 = .ok (.ireturn, 1) := ⟨rfl, by decide +kernel⟩
theorem d5_count_52 : Dal m5_count 52 0 53 := Or.inl ⟨0, by decide +kernel, rfl, rfl⟩
theorem d5_count_53 : Dgf m5_count 53 5 2 56 := ⟨26, by decide +kernel, f_X5_26, rfl⟩
theorem d5_count_56 : Dgf m5_count 56 2 2 59 := ⟨159, by decide +kernel, f_X5_159, rfl⟩
theorem d5_count_59 : Dc m5_count 59 (.iconst 1) 1 60 := ⟨by decide +kernel, rfl⟩
theorem d5_count_60 : Dc m5_count 60 .iadd 1 61 := ⟨by decide +kernel, rfl⟩
theorem d5_count_61 : mR m5_count = some .int ∧ decode (mB m5_count) 61 = .ok (.ireturn, 1) := ⟨rfl, by decide +kernel⟩
theorem d5_count_62 : Dal m5_count 62 0 63 := Or.inl ⟨0, by decide +kernel, rfl, rfl⟩
theorem d5_count_63 : Dgf m5_count 63 5 2 66 := ⟨26, by decide +kernel, f_X5_26, rfl⟩
theorem d5_count_66 : Dgf m5_count 66 2 1 69 := ⟨162, by decide +kernel, f_X5_162, rfl⟩
theorem d5_count_69 : Dal m5_count 69 0 70 := Or.inl ⟨0, by decide +kernel, rfl, rfl⟩
theorem d5_count_70 : Dgf m5_count 70 5 2 73 := ⟨26, by decide +kernel, f_X5_26, rfl⟩
theorem d5_count_73 : Dgf m5_count 73 2 2 76 := ⟨159, by decide +kernel, f_X5_159, rfl⟩
theorem d5_count_76 : Dc m5_count 76 .isub 1 77 := ⟨by decide +kernel, rfl⟩
theorem d5_count_77 : Dc m5_count 77 (.iconst 1) 1 78 := ⟨by decide +kernel, rfl⟩
theorem d5_count_78 : Dc m5_count 78 .isub 1 79 := ⟨by decide +kernel, rfl⟩
theorem d5_count_79 : mR m5_count = some .int ∧ decode (mB m5_count) 79 = .ok (.ireturn, 1) := ⟨rfl, by decide +kernel⟩
theorem d5_count_80 : Dal m5_count 80 0 81 := Or.inl ⟨0, by decide +kernel, rfl, rfl⟩
theorem d5_count_81 : Dgf m5_count 81 5 2 84 := ⟨26, by decide +kernel, f_X5_26, rfl⟩
theorem d5_count_84 : Div m5_count 84 m2_seenNodes 0 87 := ⟨165, by decide +kernel, lk_X5_165, v_2_seenNodes, rfl⟩
theorem d5_count_87 : mR m5_count = some .int ∧ decode (mB m5_count) 87 = .ok (.ireturn, 1) := ⟨rfl, by decide +kernel⟩
theorem d5_count_88 : Dal m5_count 88 0 89 := Or.inl ⟨0, by decide +kernel, rfl, rfl⟩
theorem d5_count_89 : Dgf m5_count 89 5 2 92 := ⟨26, by decide +kernel, f_X5_26, rfl⟩
theorem d5_count_92 : Div m5_count 92 m2_usedSlots 0 95 := ⟨168, by decide +kernel, lk_X5_168, v_2_usedSlots, rfl⟩
theorem d5_count_95 : mR m5_count = some .int ∧ decode (mB m5_count) 95 = .ok (.ireturn, 1) := ⟨rfl, by decide +kernel⟩
theorem d5_count_96 : Dal m5_count 96 0 97 := Or.inl ⟨0, by decide +kernel, rfl, rfl⟩
theorem d5_count_97 : Dgf m5_count 97 5 3 100 := ⟨33, by decide +kernel, f_X5_33, rfl⟩
theorem d5_count_100 : Div m5_count 100 m0_reachedEnds 0 103 := ⟨171, by decide +kernel, lk_X5_171, v_0_reachedEnds, rfl⟩
theorem d5_count_103 : mR m5_count = some .int ∧ decode (mB m5_count) 103 = .ok (.ireturn, 1) := ⟨rfl, by decide +kernel⟩
theorem d5_count_104 : Dal m5_count 104 0 105 := Or.inl ⟨0, by decide +kernel, rfl, rfl⟩
theorem d5_count_105 : Dgf m5_count 105 5 0 108 := ⟨12, by decide +kernel, f_X5_12, rfl⟩
theorem d5_count_108 : Dgf m5_count 108 4 0 111 := ⟨48, by decide +kernel, f_X5_48, rfl⟩
theorem d5_count_111 : mR m5_count = some .int ∧ decode (mB m5_count) 111 = .ok (.ireturn, 1) := ⟨rfl, by decide +kernel⟩
theorem d5_count_112 : Dc m5_count 112 (.bipush (-12)) 2 114 := ⟨by decide +kernel, rfl⟩
theorem d5_count_114 : mR m5_count = some .int ∧ decode (mB m5_count) 114 = .ok (.ireturn, 1) := ⟨rfl, by decide +kernel⟩
theorem d5_digest_0 : Dl2 m5_digest 0 163 3 := ⟨174, by decide +kernel, tG_of (List.mem_of_getElem? (i := 695) (by decide +kernel)) (by decide +kernel), rfl⟩
theorem d5_digest_3 : Dls m5_digest 3 1 4 := Or.inl ⟨1, by decide +kernel, rfl, rfl⟩
theorem d5_digest_4 : Dc m5_digest 4 (.iconst 0) 1 5 := ⟨by decide +kernel, rfl⟩
theorem d5_digest_5 : Dis m5_digest 5 3 6 := Or.inl ⟨3, by decide +kernel, rfl, rfl⟩
theorem d5_digest_6 : Dil m5_digest 6 3 7 := Or.inl ⟨3, by decide +kernel, rfl, rfl⟩
theorem d5_digest_7 : Dc m5_digest 7 (.bipush 7) 2 9 := ⟨by decide +kernel, rfl⟩
theorem d5_digest_9 : Dic m5_digest 9 .ge 31 12 := ⟨(22), by decide +kernel, by decide, rfl⟩
theorem d5_digest_12 : Dl2 m5_digest 12 31 15 := ⟨176, by decide +kernel, tG_of (List.mem_of_getElem? (i := 696) (by decide +kernel)) (by decide +kernel), rfl⟩
theorem d5_digest_15 : Dll m5_digest 15 1 16 := Or.inl ⟨1, by decide +kernel, rfl, rfl⟩
theorem d5_digest_16 : Dc m5_digest 16 .lmul 1 17 := ⟨by decide +kernel, rfl⟩
theorem d5_digest_17 : Dal m5_digest 17 0 18 := Or.inl ⟨0, by decide +kernel, rfl, rfl⟩
theorem d5_digest_18 : Dil m5_digest 18 3 19 := Or.inl ⟨3, by decide +kernel, rfl, rfl⟩
theorem d5_digest_19 : Div m5_digest 19 m5_count 1 22 := ⟨178, by decide +kernel, lk_X5_178, v_5_count, rfl⟩
theorem d5_digest_22 : Dc m5_digest 22 .i2l 1 23 := ⟨by decide +kernel, rfl⟩
theorem d5_digest_23 : Dc m5_digest 23 .ladd 1 24 := ⟨by decide +kernel, rfl⟩
theorem d5_digest_24 : Dls m5_digest 24 1 25 := Or.inl ⟨1, by decide +kernel, rfl, rfl⟩
theorem d5_digest_25 : Dc m5_digest 25 (.iinc 3 1) 3 28 := ⟨by decide +kernel, rfl⟩
theorem d5_digest_28 : Dgo m5_digest 28 6 := ⟨(-22), by decide +kernel, by decide⟩
theorem d5_digest_31 : Dc m5_digest 31 (.iconst 0) 1 32 := ⟨by decide +kernel, rfl⟩
theorem d5_digest_32 : Dis m5_digest 32 3 33 := Or.inl ⟨3, by decide +kernel, rfl, rfl⟩
theorem d5_digest_33 : Dil m5_digest 33 3 34 := Or.inl ⟨3, by decide +kernel, rfl, rfl⟩
theorem d5_digest_34 : Dc m5_digest 34 (.bipush 6) 2 36 := ⟨by decide +kernel, rfl⟩
theorem d5_digest_36 : Dic m5_digest 36 .ge 58 39 := ⟨(22), by decide +kernel, by decide, rfl⟩
theorem d5_digest_39 : Dl2 m5_digest 39 31 42 := ⟨176, by decide +kernel, tG_of (List.mem_of_getElem? (i := 696) (by decide +kernel)) (by decide +kernel), rfl⟩
theorem d5_digest_42 : Dll m5_digest 42 1 43 := Or.inl ⟨1, by decide +kernel, rfl, rfl⟩
theorem d5_digest_43 : Dc m5_digest 43 .lmul 1 44 := ⟨by decide +kernel, rfl⟩
theorem d5_digest_44 : Dal m5_digest 44 0 45 := Or.inl ⟨0, by decide +kernel, rfl, rfl⟩
theorem d5_digest_45 : Dil m5_digest 45 3 46 := Or.inl ⟨3, by decide +kernel, rfl, rfl⟩
theorem d5_digest_46 : Div m5_digest 46 m5_shown 1 49 := ⟨181, by decide +kernel, lk_X5_181, v_5_shown, rfl⟩
theorem d5_digest_49 : Dc m5_digest 49 .i2l 1 50 := ⟨by decide +kernel, rfl⟩
theorem d5_digest_50 : Dc m5_digest 50 .ladd 1 51 := ⟨by decide +kernel, rfl⟩
theorem d5_digest_51 : Dls m5_digest 51 1 52 := Or.inl ⟨1, by decide +kernel, rfl, rfl⟩
theorem d5_digest_52 : Dc m5_digest 52 (.iinc 3 1) 3 55 := ⟨by decide +kernel, rfl⟩
theorem d5_digest_55 : Dgo m5_digest 55 33 := ⟨(-22), by decide +kernel, by decide⟩
theorem d5_digest_58 : Dc m5_digest 58 (.iconst 0) 1 59 := ⟨by decide +kernel, rfl⟩
theorem d5_digest_59 : Dis m5_digest 59 3 60 := Or.inl ⟨3, by decide +kernel, rfl, rfl⟩
theorem d5_digest_60 : Dil m5_digest 60 3 61 := Or.inl ⟨3, by decide +kernel, rfl, rfl⟩
theorem d5_digest_61 : Dc m5_digest 61 (.iconst 3) 1 62 := ⟨by decide +kernel, rfl⟩
theorem d5_digest_62 : Dic m5_digest 62 .ge 99 65 := ⟨(37), by decide +kernel, by decide, rfl⟩
theorem d5_digest_65 : Dl2 m5_digest 65 31 68 := ⟨176, by decide +kernel, tG_of (List.mem_of_getElem? (i := 696) (by decide +kernel)) (by decide +kernel), rfl⟩
theorem d5_digest_68 : Dll m5_digest 68 1 69 := Or.inl ⟨1, by decide +kernel, rfl, rfl⟩
theorem d5_digest_69 : Dc m5_digest 69 .lmul 1 70 := ⟨by decide +kernel, rfl⟩
theorem d5_digest_70 : Dal m5_digest 70 0 71 := Or.inl ⟨0, by decide +kernel, rfl, rfl⟩
theorem d5_digest_71 : Dil m5_digest 71 3 72 := Or.inl ⟨3, by decide +kernel, rfl, rfl⟩
theorem d5_digest_72 : Dc m5_digest 72 (.iconst 0) 1 73 := ⟨by decide +kernel, rfl⟩
theorem d5_digest_73 : Div m5_digest 73 m5_portrait 2 76 := ⟨184, by decide +kernel, lk_X5_184, v_5_portrait, rfl⟩
theorem d5_digest_76 : Dc m5_digest 76 .i2l 1 77 := ⟨by decide +kernel, rfl⟩
theorem d5_digest_77 : Dc m5_digest 77 .ladd 1 78 := ⟨by decide +kernel, rfl⟩
theorem d5_digest_78 : Dls m5_digest 78 1 79 := Or.inl ⟨1, by decide +kernel, rfl, rfl⟩
theorem d5_digest_79 : Dl2 m5_digest 79 31 82 := ⟨176, by decide +kernel, tG_of (List.mem_of_getElem? (i := 696) (by decide +kernel)) (by decide +kernel), rfl⟩
theorem d5_digest_82 : Dll m5_digest 82 1 83 := Or.inl ⟨1, by decide +kernel, rfl, rfl⟩
theorem d5_digest_83 : Dc m5_digest 83 .lmul 1 84 := ⟨by decide +kernel, rfl⟩
theorem d5_digest_84 : Dal m5_digest 84 0 85 := Or.inl ⟨0, by decide +kernel, rfl, rfl⟩
theorem d5_digest_85 : Dil m5_digest 85 3 86 := Or.inl ⟨3, by decide +kernel, rfl, rfl⟩
theorem d5_digest_86 : Dc m5_digest 86 (.iconst 1) 1 87 := ⟨by decide +kernel, rfl⟩
theorem d5_digest_87 : Div m5_digest 87 m5_portrait 2 90 := ⟨184, by decide +kernel, lk_X5_184, v_5_portrait, rfl⟩
theorem d5_digest_90 : Dc m5_digest 90 .i2l 1 91 := ⟨by decide +kernel, rfl⟩
theorem d5_digest_91 : Dc m5_digest 91 .ladd 1 92 := ⟨by decide +kernel, rfl⟩
theorem d5_digest_92 : Dls m5_digest 92 1 93 := Or.inl ⟨1, by decide +kernel, rfl, rfl⟩
theorem d5_digest_93 : Dc m5_digest 93 (.iinc 3 1) 3 96 := ⟨by decide +kernel, rfl⟩
theorem d5_digest_96 : Dgo m5_digest 96 60 := ⟨(-36), by decide +kernel, by decide⟩
theorem d5_digest_99 : Dc m5_digest 99 (.iconst 0) 1 100 := ⟨by decide +kernel, rfl⟩
theorem d5_digest_100 : Dis m5_digest 100 3 101 := Or.inl ⟨3, by decide +kernel, rfl, rfl⟩
theorem d5_digest_101 : Dil m5_digest 101 3 102 := Or.inl ⟨3, by decide +kernel, rfl, rfl⟩
theorem d5_digest_102 : Dal m5_digest 102 0 103 := Or.inl ⟨0, by decide +kernel, rfl, rfl⟩
theorem d5_digest_103 : Dgf m5_digest 103 5 1 106 := ⟨19, by decide +kernel, f_X5_19, rfl⟩
theorem d5_digest_106 : Dgf m5_digest 106 3 0 109 := ⟨59, by decide +kernel, f_X5_59, rfl⟩
theorem d5_digest_109 : Dic m5_digest 109 .ge 125 112 := ⟨(16), by decide +kernel, by decide, rfl⟩
theorem d5_digest_112 : Dal m5_digest 112 0 113 := Or.inl ⟨0, by decide +kernel, rfl, rfl⟩
theorem d5_digest_113 : Dll m5_digest 113 1 114 := Or.inl ⟨1, by decide +kernel, rfl, rfl⟩
theorem d5_digest_114 : Dil m5_digest 114 3 115 := Or.inl ⟨3, by decide +kernel, rfl, rfl⟩
theorem d5_digest_115 : Div m5_digest 115 m5_digestNode 2 118 := ⟨188, by decide +kernel, lk_X5_188, v_5_digestNode, rfl⟩
theorem d5_digest_118 : Dls m5_digest 118 1 119 := Or.inl ⟨1, by decide +kernel, rfl, rfl⟩
theorem d5_digest_119 : Dc m5_digest 119 (.iinc 3 1) 3 122 := ⟨by decide +kernel, rfl⟩
theorem d5_digest_122 : Dgo m5_digest 122 101 := ⟨(-21), by decide +kernel, by decide⟩
theorem d5_digest_125 : Dl2 m5_digest 125 31 128 := ⟨176, by decide +kernel, tG_of (List.mem_of_getElem? (i := 696) (by decide +kernel)) (by decide +kernel), rfl⟩
theorem d5_digest_128 : Dll m5_digest 128 1 129 := Or.inl ⟨1, by decide +kernel, rfl, rfl⟩
theorem d5_digest_129 : Dc m5_digest 129 .lmul 1 130 := ⟨by decide +kernel, rfl⟩
theorem d5_digest_130 : Dal m5_digest 130 0 131 := Or.inl ⟨0, by decide +kernel, rfl, rfl⟩
theorem d5_digest_131 : Dc m5_digest 131 (.iconst (-1)) 1 132 := ⟨by decide +kernel, rfl⟩
theorem d5_digest_132 : Div m5_digest 132 m5_situations 1 135 := ⟨192, by decide +kernel, lk_X5_192, v_5_situations, rfl⟩
theorem d5_digest_135 : Dc m5_digest 135 .i2l 1 136 := ⟨by decide +kernel, rfl⟩
theorem d5_digest_136 : Dc m5_digest 136 .ladd 1 137 := ⟨by decide +kernel, rfl⟩
theorem d5_digest_137 : Dls m5_digest 137 1 138 := Or.inl ⟨1, by decide +kernel, rfl, rfl⟩
theorem d5_digest_138 : Dc m5_digest 138 (.iconst 0) 1 139 := ⟨by decide +kernel, rfl⟩
theorem d5_digest_139 : Dis m5_digest 139 3 140 := Or.inl ⟨3, by decide +kernel, rfl, rfl⟩
theorem d5_digest_140 : Dil m5_digest 140 3 141 := Or.inl ⟨3, by decide +kernel, rfl, rfl⟩
theorem d5_digest_141 : Dc m5_digest 141 (.bipush 12) 2 143 := ⟨by decide +kernel, rfl⟩
theorem d5_digest_143 : Dic m5_digest 143 .ge 168 146 := ⟨(25), by decide +kernel, by decide, rfl⟩
theorem d5_digest_146 : Dl2 m5_digest 146 31 149 := ⟨176, by decide +kernel, tG_of (List.mem_of_getElem? (i := 696) (by decide +kernel)) (by decide +kernel), rfl⟩
theorem d5_digest_149 : Dll m5_digest 149 1 150 := Or.inl ⟨1, by decide +kernel, rfl, rfl⟩
theorem d5_digest_150 : Dc m5_digest 150 .lmul 1 151 := ⟨by decide +kernel, rfl⟩
theorem d5_digest_151 : Dal m5_digest 151 0 152 := Or.inl ⟨0, by decide +kernel, rfl, rfl⟩
theorem d5_digest_152 : Dgf m5_digest 152 5 3 155 := ⟨33, by decide +kernel, f_X5_33, rfl⟩
theorem d5_digest_155 : Dil m5_digest 155 3 156 := Or.inl ⟨3, by decide +kernel, rfl, rfl⟩
theorem d5_digest_156 : Div m5_digest 156 m0_wayLength 1 159 := ⟨146, by decide +kernel, lk_X5_146, v_0_wayLength, rfl⟩
theorem d5_digest_159 : Dc m5_digest 159 .i2l 1 160 := ⟨by decide +kernel, rfl⟩
theorem d5_digest_160 : Dc m5_digest 160 .ladd 1 161 := ⟨by decide +kernel, rfl⟩
theorem d5_digest_161 : Dls m5_digest 161 1 162 := Or.inl ⟨1, by decide +kernel, rfl, rfl⟩
theorem d5_digest_162 : Dc m5_digest 162 (.iinc 3 1) 3 165 := ⟨by decide +kernel, rfl⟩
theorem d5_digest_165 : Dgo m5_digest 165 140 := ⟨(-25), by decide +kernel, by decide⟩
theorem d5_digest_168 : Dc m5_digest 168 (.iconst 0) 1 169 := ⟨by decide +kernel, rfl⟩
theorem d5_digest_169 : Dis m5_digest 169 3 170 := Or.inl ⟨3, by decide +kernel, rfl, rfl⟩
theorem d5_digest_170 : Dil m5_digest 170 3 171 := Or.inl ⟨3, by decide +kernel, rfl, rfl⟩
theorem d5_digest_171 : Dal m5_digest 171 0 172 := Or.inl ⟨0, by decide +kernel, rfl, rfl⟩
theorem d5_digest_172 : Dgf m5_digest 172 5 0 175 := ⟨12, by decide +kernel, f_X5_12, rfl⟩
theorem d5_digest_175 : Dgf m5_digest 175 4 0 178 := ⟨48, by decide +kernel, f_X5_48, rfl⟩
theorem d5_digest_178 : Dic m5_digest 178 .ge 203 181 := ⟨(25), by decide +kernel, by decide, rfl⟩
theorem d5_digest_181 : Dl2 m5_digest 181 31 184 := ⟨176, by decide +kernel, tG_of (List.mem_of_getElem? (i := 696) (by decide +kernel)) (by decide +kernel), rfl⟩
theorem d5_digest_184 : Dll m5_digest 184 1 185 := Or.inl ⟨1, by decide +kernel, rfl, rfl⟩
theorem d5_digest_185 : Dc m5_digest 185 .lmul 1 186 := ⟨by decide +kernel, rfl⟩
theorem d5_digest_186 : Dal m5_digest 186 0 187 := Or.inl ⟨0, by decide +kernel, rfl, rfl⟩
theorem d5_digest_187 : Dgf m5_digest 187 5 0 190 := ⟨12, by decide +kernel, f_X5_12, rfl⟩
theorem d5_digest_190 : Dil m5_digest 190 3 191 := Or.inl ⟨3, by decide +kernel, rfl, rfl⟩
theorem d5_digest_191 : Div m5_digest 191 m4_byteAt 1 194 := ⟨195, by decide +kernel, lk_X5_195, v_4_byteAt, rfl⟩
theorem d5_digest_194 : Dc m5_digest 194 .i2l 1 195 := ⟨by decide +kernel, rfl⟩
theorem d5_digest_195 : Dc m5_digest 195 .ladd 1 196 := ⟨by decide +kernel, rfl⟩
theorem d5_digest_196 : Dls m5_digest 196 1 197 := Or.inl ⟨1, by decide +kernel, rfl, rfl⟩
theorem d5_digest_197 : Dc m5_digest 197 (.iinc 3 1) 3 200 := ⟨by decide +kernel, rfl⟩
theorem d5_digest_200 : Dgo m5_digest 200 170 := ⟨(-30), by decide +kernel, by decide⟩
theorem d5_digest_203 : Dll m5_digest 203 1 204 := Or.inl ⟨1, by decide +kernel, rfl, rfl⟩
theorem d5_digest_204 : mR m5_digest = some .long ∧ decode (mB m5_digest) 204 = .ok (.lreturn, 1) := ⟨rfl, by decide +kernel⟩
theorem d5_digestNode_0 : Dll m5_digestNode 0 1 1 := Or.inl ⟨1, by decide +kernel, rfl, rfl⟩
theorem d5_digestNode_1 : Dls m5_digestNode 1 4 3 := Or.inr ⟨by decide +kernel, rfl⟩
theorem d5_digestNode_3 : Dc m5_digestNode 3 (.iconst 0) 1 4 := ⟨by decide +kernel, rfl⟩
theorem d5_digestNode_4 : Dis m5_digestNode 4 6 6 := Or.inr ⟨by decide +kernel, rfl⟩
theorem d5_digestNode_6 : Dil m5_digestNode 6 6 8 := Or.inr ⟨by decide +kernel, rfl⟩
theorem d5_digestNode_8 : Dc m5_digestNode 8 (.iconst 3) 1 9 := ⟨by decide +kernel, rfl⟩
theorem d5_digestNode_9 : Dic m5_digestNode 9 .gt 35 12 := ⟨(26), by decide +kernel, by decide, rfl⟩
theorem d5_digestNode_12 : Dl2 m5_digestNode 12 31 15 := ⟨176, by decide +kernel, tG_of (List.mem_of_getElem? (i := 696) (by decide +kernel)) (by decide +kernel), rfl⟩
theorem d5_digestNode_15 : Dll m5_digestNode 15 4 17 := Or.inr ⟨by decide +kernel, rfl⟩
theorem d5_digestNode_17 : Dc m5_digestNode 17 .lmul 1 18 := ⟨by decide +kernel, rfl⟩
theorem d5_digestNode_18 : Dal m5_digestNode 18 0 19 := Or.inl ⟨0, by decide +kernel, rfl, rfl⟩
theorem d5_digestNode_19 : Dil m5_digestNode 19 3 20 := Or.inl ⟨3, by decide +kernel, rfl, rfl⟩
theorem d5_digestNode_20 : Dil m5_digestNode 20 6 22 := Or.inr ⟨by decide +kernel, rfl⟩
theorem d5_digestNode_22 : Div m5_digestNode 22 m5_node 2 25 := ⟨198, by decide +kernel, lk_X5_198, v_5_node, rfl⟩
theorem d5_digestNode_25 : Dc m5_digestNode 25 .i2l 1 26 := ⟨by decide +kernel, rfl⟩
theorem d5_digestNode_26 : Dc m5_digestNode 26 .ladd 1 27 := ⟨by decide +kernel, rfl⟩
theorem d5_digestNode_27 : Dls m5_digestNode 27 4 29 := Or.inr ⟨by decide +kernel, rfl⟩
theorem d5_digestNode_29 : Dc m5_digestNode 29 (.iinc 6 1) 3 32 := ⟨by decide +kernel, rfl⟩
theorem d5_digestNode_32 : Dgo m5_digestNode 32 6 := ⟨(-26), by decide +kernel, by decide⟩
theorem d5_digestNode_35 : Dc m5_digestNode 35 (.iconst 0) 1 36 := ⟨by decide +kernel, rfl⟩
theorem d5_digestNode_36 : Dis m5_digestNode 36 6 38 := Or.inr ⟨by decide +kernel, rfl⟩
theorem d5_digestNode_38 : Dil m5_digestNode 38 6 40 := Or.inr ⟨by decide +kernel, rfl⟩
theorem d5_digestNode_40 : Dal m5_digestNode 40 0 41 := Or.inl ⟨0, by decide +kernel, rfl, rfl⟩
theorem d5_digestNode_41 : Dgf m5_digestNode 41 5 1 44 := ⟨19, by decide +kernel, f_X5_19, rfl⟩
theorem d5_digestNode_44 : Dil m5_digestNode 44 3 45 := Or.inl ⟨3, by decide +kernel, rfl, rfl⟩
theorem d5_digestNode_45 : Div m5_digestNode 45 m3_optionsOf 1 48 := ⟨152, by decide +kernel, lk_X5_152, v_3_optionsOf, rfl⟩
theorem d5_digestNode_48 : Dic m5_digestNode 48 .ge 108 51 := ⟨(60), by decide +kernel, by decide, rfl⟩
theorem d5_digestNode_51 : Dc m5_digestNode 51 (.iconst 0) 1 52 := ⟨by decide +kernel, rfl⟩
theorem d5_digestNode_52 : Dis m5_digestNode 52 7 54 := Or.inr ⟨by decide +kernel, rfl⟩
theorem d5_digestNode_54 : Dil m5_digestNode 54 7 56 := Or.inr ⟨by decide +kernel, rfl⟩
theorem d5_digestNode_56 : Dc m5_digestNode 56 (.iconst 3) 1 57 := ⟨by decide +kernel, rfl⟩
theorem d5_digestNode_57 : Dic m5_digestNode 57 .ge 85 60 := ⟨(28), by decide +kernel, by decide, rfl⟩
theorem d5_digestNode_60 : Dl2 m5_digestNode 60 31 63 := ⟨176, by decide +kernel, tG_of (List.mem_of_getElem? (i := 696) (by decide +kernel)) (by decide +kernel), rfl⟩
theorem d5_digestNode_63 : Dll m5_digestNode 63 4 65 := Or.inr ⟨by decide +kernel, rfl⟩
theorem d5_digestNode_65 : Dc m5_digestNode 65 .lmul 1 66 := ⟨by decide +kernel, rfl⟩
theorem d5_digestNode_66 : Dal m5_digestNode 66 0 67 := Or.inl ⟨0, by decide +kernel, rfl, rfl⟩
theorem d5_digestNode_67 : Dil m5_digestNode 67 3 68 := Or.inl ⟨3, by decide +kernel, rfl, rfl⟩
theorem d5_digestNode_68 : Dil m5_digestNode 68 6 70 := Or.inr ⟨by decide +kernel, rfl⟩
theorem d5_digestNode_70 : Dil m5_digestNode 70 7 72 := Or.inr ⟨by decide +kernel, rfl⟩
theorem d5_digestNode_72 : Div m5_digestNode 72 m5_option 3 75 := ⟨200, by decide +kernel, lk_X5_200, v_5_option, rfl⟩
theorem d5_digestNode_75 : Dc m5_digestNode 75 .i2l 1 76 := ⟨by decide +kernel, rfl⟩
theorem d5_digestNode_76 : Dc m5_digestNode 76 .ladd 1 77 := ⟨by decide +kernel, rfl⟩
theorem d5_digestNode_77 : Dls m5_digestNode 77 4 79 := Or.inr ⟨by decide +kernel, rfl⟩
theorem d5_digestNode_79 : Dc m5_digestNode 79 (.iinc 7 1) 3 82 := ⟨by decide +kernel, rfl⟩
theorem d5_digestNode_82 : Dgo m5_digestNode 82 54 := ⟨(-28), by decide +kernel, by decide⟩
theorem d5_digestNode_85 : Dl2 m5_digestNode 85 31 88 := ⟨176, by decide +kernel, tG_of (List.mem_of_getElem? (i := 696) (by decide +kernel)) (by decide +kernel), rfl⟩
theorem d5_digestNode_88 : Dll m5_digestNode 88 4 90 := Or.inr ⟨by decide +kernel, rfl⟩
theorem d5_digestNode_90 : Dc m5_digestNode 90 .lmul 1 91 := ⟨by decide +kernel, rfl⟩
theorem d5_digestNode_91 : Dal m5_digestNode 91 0 92 := Or.inl ⟨0, by decide +kernel, rfl, rfl⟩
theorem d5_digestNode_92 : Dil m5_digestNode 92 3 93 := Or.inl ⟨3, by decide +kernel, rfl, rfl⟩
theorem d5_digestNode_93 : Dil m5_digestNode 93 6 95 := Or.inr ⟨by decide +kernel, rfl⟩
theorem d5_digestNode_95 : Div m5_digestNode 95 m5_usable 2 98 := ⟨203, by decide +kernel, lk_X5_203, v_5_usable, rfl⟩
theorem d5_digestNode_98 : Dc m5_digestNode 98 .i2l 1 99 := ⟨by decide +kernel, rfl⟩
theorem d5_digestNode_99 : Dc m5_digestNode 99 .ladd 1 100 := ⟨by decide +kernel, rfl⟩
theorem d5_digestNode_100 : Dls m5_digestNode 100 4 102 := Or.inr ⟨by decide +kernel, rfl⟩
theorem d5_digestNode_102 : Dc m5_digestNode 102 (.iinc 6 1) 3 105 := ⟨by decide +kernel, rfl⟩
theorem d5_digestNode_105 : Dgo m5_digestNode 105 38 := ⟨(-67), by decide +kernel, by decide⟩
theorem d5_digestNode_108 : Dll m5_digestNode 108 4 110 := Or.inr ⟨by decide +kernel, rfl⟩
theorem d5_digestNode_110 : mR m5_digestNode = some .long ∧ decode (mB m5_digestNode) 110 = .ok (.lreturn, 1) := ⟨rfl, by decide +kernel⟩
theorem d5_isLineShown_0 : Dal m5_isLineShown 0 0 1 := Or.inl ⟨0, by decide +kernel, rfl, rfl⟩
theorem d5_isLineShown_1 : Dgf m5_isLineShown 1 5 1 4 := ⟨19, by decide +kernel, f_X5_19, rfl⟩
theorem d5_isLineShown_4 : Dal m5_isLineShown 4 0 5 := Or.inl ⟨0, by decide +kernel, rfl, rfl⟩
theorem d5_isLineShown_5 : Dgf m5_isLineShown 5 5 2 8 := ⟨26, by decide +kernel, f_X5_26, rfl⟩
theorem d5_isLineShown_8 : Div m5_isLineShown 8 m2_now 0 11 := ⟨65, by decide +kernel, lk_X5_65, v_2_now, rfl⟩
theorem d5_isLineShown_11 : Dgf m5_isLineShown 11 1 0 14 := ⟨69, by decide +kernel, f_X5_69, rfl⟩
theorem d5_isLineShown_14 : Div m5_isLineShown 14 m3_shownKind 1 17 := ⟨110, by decide +kernel, lk_X5_110, v_3_shownKind, rfl⟩
theorem d5_isLineShown_17 : Dif m5_isLineShown 17 .ne 24 20 := ⟨(7), by decide +kernel, by decide, rfl⟩
theorem d5_isLineShown_20 : Dc m5_isLineShown 20 (.iconst 1) 1 21 := ⟨by decide +kernel, rfl⟩
theorem d5_isLineShown_21 : Dgo m5_isLineShown 21 25 := ⟨4, by decide +kernel, by decide⟩
theorem d5_isLineShown_24 : Dc m5_isLineShown 24 (.iconst 0) 1 25 := ⟨by decide +kernel, rfl⟩
theorem d5_isLineShown_25 : mR m5_isLineShown = some .boolean ∧ decode (mB m5_isLineShown) 25 = .ok (.ireturn, 1) := ⟨rfl, by decide +kernel⟩
theorem d5_goOnFromLine_0 : Dal m5_goOnFromLine 0 0 1 := Or.inl ⟨0, by decide +kernel, rfl, rfl⟩
theorem d5_goOnFromLine_1 : Dgf m5_goOnFromLine 1 5 2 4 := ⟨26, by decide +kernel, f_X5_26, rfl⟩
theorem d5_goOnFromLine_4 : Dal m5_goOnFromLine 4 0 5 := Or.inl ⟨0, by decide +kernel, rfl, rfl⟩
theorem d5_goOnFromLine_5 : Dgf m5_goOnFromLine 5 5 1 8 := ⟨19, by decide +kernel, f_X5_19, rfl⟩
theorem d5_goOnFromLine_8 : Dal m5_goOnFromLine 8 0 9 := Or.inl ⟨0, by decide +kernel, rfl, rfl⟩
theorem d5_goOnFromLine_9 : Dgf m5_goOnFromLine 9 5 2 12 := ⟨26, by decide +kernel, f_X5_26, rfl⟩
theorem d5_goOnFromLine_12 : Div m5_goOnFromLine 12 m2_now 0 15 := ⟨65, by decide +kernel, lk_X5_65, v_2_now, rfl⟩
theorem d5_goOnFromLine_15 : Dgf m5_goOnFromLine 15 1 0 18 := ⟨69, by decide +kernel, f_X5_69, rfl⟩
theorem d5_goOnFromLine_18 : Dc m5_goOnFromLine 18 (.iconst 1) 1 19 := ⟨by decide +kernel, rfl⟩
theorem d5_goOnFromLine_19 : Dc m5_goOnFromLine 19 .iadd 1 20 := ⟨by decide +kernel, rfl⟩
theorem d5_goOnFromLine_20 : Div m5_goOnFromLine 20 m2_goOn 2 23 := ⟨92, by decide +kernel, lk_X5_92, v_2_goOn, rfl⟩
theorem d5_goOnFromLine_23 : mR m5_goOnFromLine = some .boolean ∧ decode (mB m5_goOnFromLine) 23 = .ok (.ireturn, 1) := ⟨rfl, by decide +kernel⟩
theorem d5_endIndex_0 : Dil m5_endIndex 0 0 1 := Or.inl ⟨0, by decide +kernel, rfl, rfl⟩
theorem d5_endIndex_1 : Dc m5_endIndex 1 (.bipush (-3)) 2 3 := ⟨by decide +kernel, rfl⟩
theorem d5_endIndex_3 : Dic m5_endIndex 3 .ne 8 6 := ⟨(5), by decide +kernel, by decide, rfl⟩
theorem d5_endIndex_6 : Dc m5_endIndex 6 (.iconst 0) 1 7 := ⟨by decide +kernel, rfl⟩
theorem d5_endIndex_7 : mR m5_endIndex = some .int ∧ decode (mB m5_endIndex) 7 = .ok (.ireturn, 1) := ⟨rfl, by decide +kernel⟩
theorem d5_endIndex_8 : Dil m5_endIndex 8 0 9 := Or.inl ⟨0, by decide +kernel, rfl, rfl⟩
theorem d5_endIndex_9 : Dc m5_endIndex 9 (.bipush (-2)) 2 11 := ⟨by decide +kernel, rfl⟩
theorem d5_endIndex_11 : Dic m5_endIndex 11 .ne 16 14 := ⟨(5), by decide +kernel, by decide, rfl⟩
theorem d5_endIndex_14 : Dc m5_endIndex 14 (.iconst 1) 1 15 := ⟨by decide +kernel, rfl⟩
theorem d5_endIndex_15 : mR m5_endIndex = some .int ∧ decode (mB m5_endIndex) 15 = .ok (.ireturn, 1) := ⟨rfl, by decide +kernel⟩
theorem d5_endIndex_16 : Dil m5_endIndex 16 0 17 := Or.inl ⟨0, by decide +kernel, rfl, rfl⟩
theorem d5_endIndex_17 : Dif m5_endIndex 17 .lt 32 20 := ⟨(15), by decide +kernel, by decide, rfl⟩
theorem d5_endIndex_20 : Dil m5_endIndex 20 0 21 := Or.inl ⟨0, by decide +kernel, rfl, rfl⟩
theorem d5_endIndex_21 : Dc m5_endIndex 21 (.bipush 9) 2 23 := ⟨by decide +kernel, rfl⟩
theorem d5_endIndex_23 : Dic m5_endIndex 23 .gt 32 26 := ⟨(9), by decide +kernel, by decide, rfl⟩
theorem d5_endIndex_26 : Dil m5_endIndex 26 0 27 := Or.inl ⟨0, by decide +kernel, rfl, rfl⟩
theorem d5_endIndex_27 : Dc m5_endIndex 27 (.iconst 2) 1 28 := ⟨by decide +kernel, rfl⟩
theorem d5_endIndex_28 : Dc m5_endIndex 28 .iadd 1 29 := ⟨by decide +kernel, rfl⟩
theorem d5_endIndex_29 : Dgo m5_endIndex 29 33 := ⟨4, by decide +kernel, by decide⟩
theorem d5_endIndex_32 : Dc m5_endIndex 32 (.iconst (-1)) 1 33 := ⟨by decide +kernel, rfl⟩
theorem d5_endIndex_33 : mR m5_endIndex = some .int ∧ decode (mB m5_endIndex) 33 = .ok (.ireturn, 1) := ⟨rfl, by decide +kernel⟩
