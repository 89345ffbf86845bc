/-! ===== decode rows of J7 ===== -/
theorem dJ7_fill_0 : Dc mJ7_fill 0 (.iconst 0) 1 1 := ⟨by decide +kernel, rfl⟩
theorem dJ7_fill_1 : Dis mJ7_fill 1 2 2 := Or.inl ⟨2, by decide +kernel, rfl, rfl⟩
theorem dJ7_fill_2 : Dal mJ7_fill 2 0 3 := Or.inl ⟨0, by decide +kernel, rfl, rfl⟩
theorem dJ7_fill_3 : Dc mJ7_fill 3 .arraylength 1 4 := ⟨by decide +kernel, rfl⟩
theorem dJ7_fill_4 : Dis mJ7_fill 4 3 5 := Or.inl ⟨3, by decide +kernel, rfl, rfl⟩
theorem dJ7_fill_5 : Dil mJ7_fill 5 2 6 := Or.inl ⟨2, by decide +kernel, rfl, rfl⟩
theorem dJ7_fill_6 : Dil mJ7_fill 6 3 7 := Or.inl ⟨3, by decide +kernel, rfl, rfl⟩
theorem dJ7_fill_7 : Dic mJ7_fill 7 .ge 20 10 := ⟨(13), by decide +kernel, by decide, rfl⟩
theorem dJ7_fill_10 : Dal mJ7_fill 10 0 11 := Or.inl ⟨0, by decide +kernel, rfl, rfl⟩
theorem dJ7_fill_11 : Dil mJ7_fill 11 2 12 := Or.inl ⟨2, by decide +kernel, rfl, rfl⟩
theorem dJ7_fill_12 : Dil mJ7_fill 12 1 13 := Or.inl ⟨1, by decide +kernel, rfl, rfl⟩
theorem dJ7_fill_13 : Dc mJ7_fill 13 .iastore 1 14 := ⟨by decide +kernel, rfl⟩
theorem dJ7_fill_14 : Dc mJ7_fill 14 (.iinc 2 1) 3 17 := ⟨by decide +kernel, rfl⟩
theorem dJ7_fill_17 : Dgo mJ7_fill 17 5 := ⟨(-12), by decide +kernel, by decide⟩
theorem dJ7_fill_20 : mR mJ7_fill = none ∧ decode (mB mJ7_fill) 20 = .ok (.return_, 1) := ⟨rfl, by decide +kernel⟩
