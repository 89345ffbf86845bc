/-! ===== decode rows of X4 ===== -/
theorem d4_skipBlanks_27 : Dpf m4_skipBlanks 27 4 3 .int false 30 := ⟨26, by decide +kernel, f_X4_26, p_X4_X4_3, rfl⟩
theorem d4_skipBlanks_30 : Dgo m4_skipBlanks 30 0 := ⟨(-30), by decide +kernel, by decide⟩
theorem d4_skipBlanks_33 : mR m4_skipBlanks = none ∧ decode (mB m4_skipBlanks) 33 = .ok (.return_, 1) := ⟨rfl, by decide +kernel⟩
theorem d4_isAtDigit_0 : Dal m4_isAtDigit 0 0 1 := Or.inl ⟨0, by decide +kernel, rfl, rfl⟩
theorem d4_isAtDigit_1 : Div m4_isAtDigit 1 m4_here 0 4 := ⟨48, by decide +kernel, lk_X4_48, v_4_here, rfl⟩
theorem d4_isAtDigit_4 : Dc m4_isAtDigit 4 (.bipush 48) 2 6 := ⟨by decide +kernel, rfl⟩
theorem d4_isAtDigit_6 : Dic m4_isAtDigit 6 .lt 22 9 := ⟨(16), by decide +kernel, by decide, rfl⟩
theorem d4_isAtDigit_9 : Dal m4_isAtDigit 9 0 10 := Or.inl ⟨0, by decide +kernel, rfl, rfl⟩
theorem d4_isAtDigit_10 : Div m4_isAtDigit 10 m4_here 0 13 := ⟨48, by decide +kernel, lk_X4_48, v_4_here, rfl⟩
theorem d4_isAtDigit_13 : Dc m4_isAtDigit 13 (.bipush 57) 2 15 := ⟨by decide +kernel, rfl⟩
theorem d4_isAtDigit_15 : Dic m4_isAtDigit 15 .gt 22 18 := ⟨(7), by decide +kernel, by decide, rfl⟩
theorem d4_isAtDigit_18 : Dc m4_isAtDigit 18 (.iconst 1) 1 19 := ⟨by decide +kernel, rfl⟩
theorem d4_isAtDigit_19 : Dgo m4_isAtDigit 19 23 := ⟨4, by decide +kernel, by decide⟩
theorem d4_isAtDigit_22 : Dc m4_isAtDigit 22 (.iconst 0) 1 23 := ⟨by decide +kernel, rfl⟩
theorem d4_isAtDigit_23 : mR m4_isAtDigit = some .boolean ∧ decode (mB m4_isAtDigit) 23 = .ok (.ireturn, 1) := ⟨rfl, by decide +kernel⟩
theorem d4_isAtEnd_0 : Dal m4_isAtEnd 0 0 1 := Or.inl ⟨0, by decide +kernel, rfl, rfl⟩
theorem d4_isAtEnd_1 : Dgf m4_isAtEnd 1 4 3 4 := ⟨26, by decide +kernel, f_X4_26, rfl⟩
theorem d4_isAtEnd_4 : Dal m4_isAtEnd 4 0 5 := Or.inl ⟨0, by decide +kernel, rfl, rfl⟩
theorem d4_isAtEnd_5 : Dgf m4_isAtEnd 5 4 0 8 := ⟨22, by decide +kernel, f_X4_22, rfl⟩
theorem d4_isAtEnd_8 : Dic m4_isAtEnd 8 .lt 15 11 := ⟨(7), by decide +kernel, by decide, rfl⟩
theorem d4_isAtEnd_11 : Dc m4_isAtEnd 11 (.iconst 1) 1 12 := ⟨by decide +kernel, rfl⟩
theorem d4_isAtEnd_12 : Dgo m4_isAtEnd 12 16 := ⟨4, by decide +kernel, by decide⟩
theorem d4_isAtEnd_15 : Dc m4_isAtEnd 15 (.iconst 0) 1 16 := ⟨by decide +kernel, rfl⟩
theorem d4_isAtEnd_16 : mR m4_isAtEnd = some .boolean ∧ decode (mB m4_isAtEnd) 16 = .ok (.ireturn, 1) := ⟨rfl, by decide +kernel⟩
theorem d4_here_0 : Dal m4_here 0 0 1 := Or.inl ⟨0, by decide +kernel, rfl, rfl⟩
theorem d4_here_1 : Dgf m4_here 1 4 3 4 := ⟨26, by decide +kernel, f_X4_26, rfl⟩
theorem d4_here_4 : Dif m4_here 4 .lt 39 7 := ⟨(35), by decide +kernel, by decide, rfl⟩
theorem d4_here_7 : Dal m4_here 7 0 8 := Or.inl ⟨0, by decide +kernel, rfl, rfl⟩
theorem d4_here_8 : Dgf m4_here 8 4 3 11 := ⟨26, by decide +kernel, f_X4_26, rfl⟩
theorem d4_here_11 : Dal m4_here 11 0 12 := Or.inl ⟨0, by decide +kernel, rfl, rfl⟩
theorem d4_here_12 : Dgf m4_here 12 4 0 15 := ⟨22, by decide +kernel, f_X4_22, rfl⟩
theorem d4_here_15 : Dic m4_here 15 .ge 39 18 := ⟨(24), by decide +kernel, by decide, rfl⟩
theorem d4_here_18 : Dal m4_here 18 0 19 := Or.inl ⟨0, by decide +kernel, rfl, rfl⟩
theorem d4_here_19 : Dgf m4_here 19 4 3 22 := ⟨26, by decide +kernel, f_X4_26, rfl⟩
theorem d4_here_22 : Dc m4_here 22 (.bipush 100) 2 24 := ⟨by decide +kernel, rfl⟩
theorem d4_here_24 : Dic m4_here 24 .ge 39 27 := ⟨(15), by decide +kernel, by decide, rfl⟩
theorem d4_here_27 : Dal m4_here 27 0 28 := Or.inl ⟨0, by decide +kernel, rfl, rfl⟩
theorem d4_here_28 : Dgf m4_here 28 4 1 31 := ⟨9, by decide +kernel, f_X4_9, rfl⟩
theorem d4_here_31 : Dal m4_here 31 0 32 := Or.inl ⟨0, by decide +kernel, rfl, rfl⟩
theorem d4_here_32 : Dgf m4_here 32 4 3 35 := ⟨26, by decide +kernel, f_X4_26, rfl⟩
theorem d4_here_35 : Dc m4_here 35 .baload 1 36 := ⟨by decide +kernel, rfl⟩
theorem d4_here_36 : Dgo m4_here 36 40 := ⟨4, by decide +kernel, by decide⟩
theorem d4_here_39 : Dc m4_here 39 (.iconst 0) 1 40 := ⟨by decide +kernel, rfl⟩
theorem d4_here_40 : mR m4_here = some .int ∧ decode (mB m4_here) 40 = .ok (.ireturn, 1) := ⟨rfl, by decide +kernel⟩
