/-! ===== links 4 ===== -/
theorem ok_L_typesNode : MOK mL_typesNode := ⟨by decide +kernel, tG_of (List.mem_of_getElem? (i := 430) (by eq_refl)) (by decide +kernel), tG_of (List.mem_of_getElem? (i := 24) (by decide +kernel)) (by decide +kernel), by decide +kernel, by decide +kernel⟩
theorem s_L_typesNode : Jvm.Cond.static (mY mL_typesNode) ∈ tG := tG_of (List.mem_of_getElem? (i := 429) (by decide +kernel)) (by decide +kernel)
theorem lk_L_49 : Lk RL 49 mL_typesNode 6 := ⟨ok_L_typesNode, tG_of (List.mem_of_getElem? (i := 428) (by decide +kernel)) (by decide +kernel), by decide +kernel, by decide⟩
theorem ok_5_read : MOK m5_read := ⟨by decide +kernel, tG_of (List.mem_of_getElem? (i := 612) (by decide +kernel)) (by decide +kernel), tG_of (List.mem_of_getElem? (i := 25) (by decide +kernel)) (by decide +kernel), by decide +kernel, by decide +kernel⟩
theorem v_5_read : Jvm.Cond.instanceMethod (mY m5_read) ∈ tG ∧ Jvm.Cond.selects (mY m5_read).cls (mY m5_read) (mY m5_read) ∈ tG := ⟨tG_of (List.mem_of_getElem? (i := 610) (by decide +kernel)) (by decide +kernel), tG_of (List.mem_of_getElem? (i := 611) (by decide +kernel)) (by decide +kernel)⟩
theorem lk_L_53 : Lk RL 53 m5_read 0 := ⟨ok_5_read, tG_of (List.mem_of_getElem? (i := 609) (by decide +kernel)) (by decide +kernel), by decide +kernel, by decide⟩
theorem ok_L_endOf : MOK mL_endOf := ⟨by decide +kernel, tG_of (List.mem_of_getElem? (i := 618) (by decide +kernel)) (by decide +kernel), tG_of (List.mem_of_getElem? (i := 24) (by decide +kernel)) (by decide +kernel), by decide +kernel, by decide +kernel⟩
theorem s_L_endOf : Jvm.Cond.static (mY mL_endOf) ∈ tG := tG_of (List.mem_of_getElem? (i := 617) (by decide +kernel)) (by decide +kernel)
theorem lk_L_56 : Lk RL 56 mL_endOf 2 := ⟨ok_L_endOf, tG_of (List.mem_of_getElem? (i := 616) (by decide +kernel)) (by decide +kernel), by decide +kernel, by decide⟩
theorem ok_5_shown : MOK m5_shown := ⟨by decide +kernel, tG_of (List.mem_of_getElem? (i := 386) (by decide +kernel)) (by decide +kernel), tG_of (List.mem_of_getElem? (i := 25) (by decide +kernel)) (by decide +kernel), by decide +kernel, by decide +kernel⟩
theorem v_5_shown : Jvm.Cond.instanceMethod (mY m5_shown) ∈ tG ∧ Jvm.Cond.selects (mY m5_shown).cls (mY m5_shown) (mY m5_shown) ∈ tG := ⟨tG_of (List.mem_of_getElem? (i := 384) (by decide +kernel)) (by decide +kernel), tG_of (List.mem_of_getElem? (i := 385) (by decide +kernel)) (by decide +kernel)⟩
theorem lk_L_59 : Lk RL 59 m5_shown 1 := ⟨ok_5_shown, tG_of (List.mem_of_getElem? (i := 383) (by decide +kernel)) (by decide +kernel), by decide +kernel, by decide⟩
theorem ok_L_openOnes : MOK mL_openOnes := ⟨by decide +kernel, tG_of (List.mem_of_getElem? (i := 621) (by decide +kernel)) (by decide +kernel), tG_of (List.mem_of_getElem? (i := 24) (by decide +kernel)) (by decide +kernel), by decide +kernel, by decide +kernel⟩
theorem s_L_openOnes : Jvm.Cond.static (mY mL_openOnes) ∈ tG := tG_of (List.mem_of_getElem? (i := 620) (by decide +kernel)) (by decide +kernel)
theorem lk_L_62 : Lk RL 62 mL_openOnes 3 := ⟨ok_L_openOnes, tG_of (List.mem_of_getElem? (i := 619) (by decide +kernel)) (by decide +kernel), by decide +kernel, by decide⟩
theorem ok_5_portrait : MOK m5_portrait := ⟨by decide +kernel, tG_of (List.mem_of_getElem? (i := 628) (by decide +kernel)) (by decide +kernel), tG_of (List.mem_of_getElem? (i := 25) (by decide +kernel)) (by decide +kernel), by decide +kernel, by decide +kernel⟩
theorem v_5_portrait : Jvm.Cond.instanceMethod (mY m5_portrait) ∈ tG ∧ Jvm.Cond.selects (mY m5_portrait).cls (mY m5_portrait) (mY m5_portrait) ∈ tG := ⟨tG_of (List.mem_of_getElem? (i := 626) (by decide +kernel)) (by decide +kernel), tG_of (List.mem_of_getElem? (i := 627) (by decide +kernel)) (by decide +kernel)⟩
theorem lk_L_66 : Lk RL 66 m5_portrait 2 := ⟨ok_5_portrait, tG_of (List.mem_of_getElem? (i := 625) (by decide +kernel)) (by decide +kernel), by decide +kernel, by decide⟩
theorem ok_L_carries : MOK mL_carries := ⟨by decide +kernel, tG_of (List.mem_of_getElem? (i := 643) (by decide +kernel)) (by decide +kernel), tG_of (List.mem_of_getElem? (i := 24) (by decide +kernel)) (by decide +kernel), by decide +kernel, by decide +kernel⟩
theorem s_L_carries : Jvm.Cond.static (mY mL_carries) ∈ tG := tG_of (List.mem_of_getElem? (i := 642) (by decide +kernel)) (by decide +kernel)
theorem lk_L_70 : Lk RL 70 mL_carries 3 := ⟨ok_L_carries, tG_of (List.mem_of_getElem? (i := 641) (by decide +kernel)) (by decide +kernel), by decide +kernel, by decide⟩
theorem ok_L_begins : MOK mL_begins := ⟨by decide +kernel, tG_of (List.mem_of_getElem? (i := 640) (by decide +kernel)) (by decide +kernel), tG_of (List.mem_of_getElem? (i := 24) (by decide +kernel)) (by decide +kernel), by decide +kernel, by decide +kernel⟩
theorem s_L_begins : Jvm.Cond.static (mY mL_begins) ∈ tG := tG_of (List.mem_of_getElem? (i := 639) (by decide +kernel)) (by decide +kernel)
theorem lk_L_74 : Lk RL 74 mL_begins 2 := ⟨ok_L_begins, tG_of (List.mem_of_getElem? (i := 638) (by decide +kernel)) (by decide +kernel), by decide +kernel, by decide⟩
theorem ok_L_puts : MOK mL_puts := ⟨by decide +kernel, tG_of (List.mem_of_getElem? (i := 634) (by decide +kernel)) (by decide +kernel), tG_of (List.mem_of_getElem? (i := 24) (by decide +kernel)) (by decide +kernel), by decide +kernel, by decide +kernel⟩
theorem s_L_puts : Jvm.Cond.static (mY mL_puts) ∈ tG := tG_of (List.mem_of_getElem? (i := 633) (by decide +kernel)) (by decide +kernel)
theorem lk_L_78 : Lk RL 78 mL_puts 2 := ⟨ok_L_puts, tG_of (List.mem_of_getElem? (i := 632) (by decide +kernel)) (by decide +kernel), by decide +kernel, by decide⟩
theorem ok_5_go : MOK m5_go := ⟨by decide +kernel, tG_of (List.mem_of_getElem? (i := 320) (by decide +kernel)) (by decide +kernel), tG_of (List.mem_of_getElem? (i := 25) (by decide +kernel)) (by decide +kernel), by decide +kernel, by decide +kernel⟩
theorem v_5_go : Jvm.Cond.instanceMethod (mY m5_go) ∈ tG ∧ Jvm.Cond.selects (mY m5_go).cls (mY m5_go) (mY m5_go) ∈ tG := ⟨tG_of (List.mem_of_getElem? (i := 318) (by decide +kernel)) (by decide +kernel), tG_of (List.mem_of_getElem? (i := 319) (by decide +kernel)) (by decide +kernel)⟩
theorem lk_L_81 : Lk RL 81 m5_go 0 := ⟨ok_5_go, tG_of (List.mem_of_getElem? (i := 317) (by decide +kernel)) (by decide +kernel), by decide +kernel, by decide⟩
theorem ok_5_skip : MOK m5_skip := ⟨by decide +kernel, tG_of (List.mem_of_getElem? (i := 653) (by decide +kernel)) (by decide +kernel), tG_of (List.mem_of_getElem? (i := 25) (by decide +kernel)) (by decide +kernel), by decide +kernel, by decide +kernel⟩
theorem v_5_skip : Jvm.Cond.instanceMethod (mY m5_skip) ∈ tG ∧ Jvm.Cond.selects (mY m5_skip).cls (mY m5_skip) (mY m5_skip) ∈ tG := ⟨tG_of (List.mem_of_getElem? (i := 651) (by decide +kernel)) (by decide +kernel), tG_of (List.mem_of_getElem? (i := 652) (by decide +kernel)) (by decide +kernel)⟩
theorem lk_L_84 : Lk RL 84 m5_skip 0 := ⟨ok_5_skip, tG_of (List.mem_of_getElem? (i := 650) (by decide +kernel)) (by decide +kernel), by decide +kernel, by decide⟩
theorem ok_5_choose : MOK m5_choose := ⟨by decide +kernel, tG_of (List.mem_of_getElem? (i := 348) (by decide +kernel)) (by decide +kernel), tG_of (List.mem_of_getElem? (i := 25) (by decide +kernel)) (by decide +kernel), by decide +kernel, by decide +kernel⟩
theorem v_5_choose : Jvm.Cond.instanceMethod (mY m5_choose) ∈ tG ∧ Jvm.Cond.selects (mY m5_choose).cls (mY m5_choose) (mY m5_choose) ∈ tG := ⟨tG_of (List.mem_of_getElem? (i := 346) (by decide +kernel)) (by decide +kernel), tG_of (List.mem_of_getElem? (i := 347) (by decide +kernel)) (by decide +kernel)⟩
theorem lk_L_87 : Lk RL 87 m5_choose 1 := ⟨ok_5_choose, tG_of (List.mem_of_getElem? (i := 345) (by decide +kernel)) (by decide +kernel), by decide +kernel, by decide⟩
theorem ok_L_low5 : MOK mL_low5 := ⟨by decide +kernel, tG_of (List.mem_of_getElem? (i := 662) (by decide +kernel)) (by decide +kernel), tG_of (List.mem_of_getElem? (i := 24) (by decide +kernel)) (by decide +kernel), by decide +kernel, by decide +kernel⟩
theorem s_L_low5 : Jvm.Cond.static (mY mL_low5) ∈ tG := tG_of (List.mem_of_getElem? (i := 661) (by decide +kernel)) (by decide +kernel)
theorem lk_L_90 : Lk RL 90 mL_low5 2 := ⟨ok_L_low5, tG_of (List.mem_of_getElem? (i := 660) (by decide +kernel)) (by decide +kernel), by decide +kernel, by decide⟩
theorem ok_5_back : MOK m5_back := ⟨by decide +kernel, tG_of (List.mem_of_getElem? (i := 354) (by decide +kernel)) (by decide +kernel), tG_of (List.mem_of_getElem? (i := 25) (by decide +kernel)) (by decide +kernel), by decide +kernel, by decide +kernel⟩
theorem v_5_back : Jvm.Cond.instanceMethod (mY m5_back) ∈ tG ∧ Jvm.Cond.selects (mY m5_back).cls (mY m5_back) (mY m5_back) ∈ tG := ⟨tG_of (List.mem_of_getElem? (i := 352) (by decide +kernel)) (by decide +kernel), tG_of (List.mem_of_getElem? (i := 353) (by decide +kernel)) (by decide +kernel)⟩
theorem lk_L_93 : Lk RL 93 m5_back 1 := ⟨ok_5_back, tG_of (List.mem_of_getElem? (i := 351) (by decide +kernel)) (by decide +kernel), by decide +kernel, by decide⟩
theorem ok_L_takes : MOK mL_takes := ⟨by decide +kernel, tG_of (List.mem_of_getElem? (i := 631) (by decide +kernel)) (by decide +kernel), tG_of (List.mem_of_getElem? (i := 24) (by decide +kernel)) (by decide +kernel), by decide +kernel, by decide +kernel⟩
theorem s_L_takes : Jvm.Cond.static (mY mL_takes) ∈ tG := tG_of (List.mem_of_getElem? (i := 630) (by decide +kernel)) (by decide +kernel)
theorem lk_L_96 : Lk RL 96 mL_takes 3 := ⟨ok_L_takes, tG_of (List.mem_of_getElem? (i := 629) (by decide +kernel)) (by decide +kernel), by decide +kernel, by decide⟩
theorem ok_5_again : MOK m5_again := ⟨by decide +kernel, tG_of (List.mem_of_getElem? (i := 362) (by decide +kernel)) (by decide +kernel), tG_of (List.mem_of_getElem? (i := 25) (by decide +kernel)) (by decide +kernel), by decide +kernel, by decide +kernel⟩
theorem v_5_again : Jvm.Cond.instanceMethod (mY m5_again) ∈ tG ∧ Jvm.Cond.selects (mY m5_again).cls (mY m5_again) (mY m5_again) ∈ tG := ⟨tG_of (List.mem_of_getElem? (i := 360) (by decide +kernel)) (by decide +kernel), tG_of (List.mem_of_getElem? (i := 361) (by decide +kernel)) (by decide +kernel)⟩
theorem lk_L_99 : Lk RL 99 m5_again 0 := ⟨ok_5_again, tG_of (List.mem_of_getElem? (i := 359) (by decide +kernel)) (by decide +kernel), by decide +kernel, by decide⟩
theorem nw_X5 : (∀ j, j < 4 → ([vN, vN, vN, vN] : List AV)[j]? = some (dfv (tyX5 j)) ∧ ∀ G : GD, cv G (dfv (tyX5 j)) = defaultValue (tyX5 j)) ∧ (∀ v ∈ ([vN, vN, vN, vN] : List AV), vok v) := by
  refine ⟨fun j hj => ?_, fun v hv => ?_⟩
  · rcases (by omega : j = 0 ∨ j = 1 ∨ j = 2 ∨ j = 3) with rfl | rfl | rfl | rfl <;> exact ⟨rfl, fun G => rfl⟩
  · simp only [List.mem_cons, List.not_mem_nil, or_false] at hv
    rcases hv with rfl | rfl | rfl | rfl <;> first | trivial | (exact ⟨by decide, by decide⟩)
theorem ok_5_init : MOK m5_init := ⟨by decide +kernel, tG_of (List.mem_of_getElem? (i := 43) (by decide +kernel)) (by decide +kernel), tG_of (List.mem_of_getElem? (i := 25) (by decide +kernel)) (by decide +kernel), by decide +kernel, by decide +kernel⟩
theorem i_5_init : Jvm.Cond.instanceMethod (mY m5_init) ∈ tG := tG_of (List.mem_of_getElem? (i := 42) (by decide +kernel)) (by decide +kernel)
theorem l_L_102 : Jvm.Cond.methodLink RL 102 (mY m5_init) ∈ tG := tG_of (List.mem_of_getElem? (i := 41) (by decide +kernel)) (by decide +kernel)
theorem ok_L_starts : MOK mL_starts := ⟨by decide +kernel, tG_of (List.mem_of_getElem? (i := 637) (by decide +kernel)) (by decide +kernel), tG_of (List.mem_of_getElem? (i := 24) (by decide +kernel)) (by decide +kernel), by decide +kernel, by decide +kernel⟩
theorem s_L_starts : Jvm.Cond.static (mY mL_starts) ∈ tG := tG_of (List.mem_of_getElem? (i := 636) (by decide +kernel)) (by decide +kernel)
theorem lk_L_103 : Lk RL 103 mL_starts 3 := ⟨ok_L_starts, tG_of (List.mem_of_getElem? (i := 635) (by decide +kernel)) (by decide +kernel), by decide +kernel, by decide⟩
theorem ok_L_isShown : MOK mL_isShown := ⟨by decide +kernel, tG_of (List.mem_of_getElem? (i := 615) (by decide +kernel)) (by decide +kernel), tG_of (List.mem_of_getElem? (i := 24) (by decide +kernel)) (by decide +kernel), by decide +kernel, by decide +kernel⟩
theorem s_L_isShown : Jvm.Cond.static (mY mL_isShown) ∈ tG := tG_of (List.mem_of_getElem? (i := 614) (by decide +kernel)) (by decide +kernel)
theorem lk_L_107 : Lk RL 107 mL_isShown 3 := ⟨ok_L_isShown, tG_of (List.mem_of_getElem? (i := 613) (by decide +kernel)) (by decide +kernel), by decide +kernel, by decide⟩
theorem ok_5_restore : MOK m5_restore := ⟨by decide +kernel, tG_of (List.mem_of_getElem? (i := 378) (by decide +kernel)) (by decide +kernel), tG_of (List.mem_of_getElem? (i := 25) (by decide +kernel)) (by decide +kernel), by decide +kernel, by decide +kernel⟩
theorem v_5_restore : Jvm.Cond.instanceMethod (mY m5_restore) ∈ tG ∧ Jvm.Cond.selects (mY m5_restore).cls (mY m5_restore) (mY m5_restore) ∈ tG := ⟨tG_of (List.mem_of_getElem? (i := 376) (by decide +kernel)) (by decide +kernel), tG_of (List.mem_of_getElem? (i := 377) (by decide +kernel)) (by decide +kernel)⟩
theorem lk_L_111 : Lk RL 111 m5_restore 1 := ⟨ok_5_restore, tG_of (List.mem_of_getElem? (i := 375) (by decide +kernel)) (by decide +kernel), by decide +kernel, by decide⟩
theorem ok_5_save : MOK m5_save := ⟨by decide +kernel, tG_of (List.mem_of_getElem? (i := 370) (by decide +kernel)) (by decide +kernel), tG_of (List.mem_of_getElem? (i := 25) (by decide +kernel)) (by decide +kernel), by decide +kernel, by decide +kernel⟩
theorem v_5_save : Jvm.Cond.instanceMethod (mY m5_save) ∈ tG ∧ Jvm.Cond.selects (mY m5_save).cls (mY m5_save) (mY m5_save) ∈ tG := ⟨tG_of (List.mem_of_getElem? (i := 368) (by decide +kernel)) (by decide +kernel), tG_of (List.mem_of_getElem? (i := 369) (by decide +kernel)) (by decide +kernel)⟩
theorem lk_L_114 : Lk RL 114 m5_save 1 := ⟨ok_5_save, tG_of (List.mem_of_getElem? (i := 367) (by decide +kernel)) (by decide +kernel), by decide +kernel, by decide⟩
theorem ok_L_reads : MOK mL_reads := ⟨by decide +kernel, tG_of (List.mem_of_getElem? (i := 423) (by decide +kernel)) (by decide +kernel), tG_of (List.mem_of_getElem? (i := 24) (by decide +kernel)) (by decide +kernel), by decide +kernel, by decide +kernel⟩
theorem s_L_reads : Jvm.Cond.static (mY mL_reads) ∈ tG := tG_of (List.mem_of_getElem? (i := 422) (by decide +kernel)) (by decide +kernel)
theorem lk_L_117 : Lk RL 117 mL_reads 5 := ⟨ok_L_reads, tG_of (List.mem_of_getElem? (i := 421) (by decide +kernel)) (by decide +kernel), by decide +kernel, by decide⟩
theorem ok_L_turns : MOK mL_turns := ⟨by decide +kernel, tG_of (List.mem_of_getElem? (i := 665) (by decide +kernel)) (by decide +kernel), tG_of (List.mem_of_getElem? (i := 24) (by decide +kernel)) (by decide +kernel), by decide +kernel, by decide +kernel⟩
theorem s_L_turns : Jvm.Cond.static (mY mL_turns) ∈ tG := tG_of (List.mem_of_getElem? (i := 664) (by decide +kernel)) (by decide +kernel)
theorem lk_L_121 : Lk RL 121 mL_turns 4 := ⟨ok_L_turns, tG_of (List.mem_of_getElem? (i := 663) (by decide +kernel)) (by decide +kernel), by decide +kernel, by decide⟩
theorem ok_L_again : MOK mL_again := ⟨by decide +kernel, tG_of (List.mem_of_getElem? (i := 668) (by decide +kernel)) (by decide +kernel), tG_of (List.mem_of_getElem? (i := 24) (by decide +kernel)) (by decide +kernel), by decide +kernel, by decide +kernel⟩
theorem s_L_again : Jvm.Cond.static (mY mL_again) ∈ tG := tG_of (List.mem_of_getElem? (i := 667) (by decide +kernel)) (by decide +kernel)
theorem lk_L_125 : Lk RL 125 mL_again 3 := ⟨ok_L_again, tG_of (List.mem_of_getElem? (i := 666) (by decide +kernel)) (by decide +kernel), by decide +kernel, by decide⟩
theorem ok_L_skips : MOK mL_skips := ⟨by decide +kernel, tG_of (List.mem_of_getElem? (i := 656) (by decide +kernel)) (by decide +kernel), tG_of (List.mem_of_getElem? (i := 24) (by decide +kernel)) (by decide +kernel), by decide +kernel, by decide +kernel⟩
theorem s_L_skips : Jvm.Cond.static (mY mL_skips) ∈ tG := tG_of (List.mem_of_getElem? (i := 655) (by decide +kernel)) (by decide +kernel)
theorem lk_L_127 : Lk RL 127 mL_skips 4 := ⟨ok_L_skips, tG_of (List.mem_of_getElem? (i := 654) (by decide +kernel)) (by decide +kernel), by decide +kernel, by decide⟩
theorem ok_5_begin : MOK m5_begin := ⟨by decide +kernel, tG_of (List.mem_of_getElem? (i := 314) (by decide +kernel)) (by decide +kernel), tG_of (List.mem_of_getElem? (i := 25) (by decide +kernel)) (by decide +kernel), by decide +kernel, by decide +kernel⟩
theorem v_5_begin : Jvm.Cond.instanceMethod (mY m5_begin) ∈ tG ∧ Jvm.Cond.selects (mY m5_begin).cls (mY m5_begin) (mY m5_begin) ∈ tG := ⟨tG_of (List.mem_of_getElem? (i := 312) (by decide +kernel)) (by decide +kernel), tG_of (List.mem_of_getElem? (i := 313) (by decide +kernel)) (by decide +kernel)⟩
theorem lk_L_131 : Lk RL 131 m5_begin 0 := ⟨ok_5_begin, tG_of (List.mem_of_getElem? (i := 311) (by decide +kernel)) (by decide +kernel), by decide +kernel, by decide⟩
theorem ok_L_goes : MOK mL_goes := ⟨by decide +kernel, tG_of (List.mem_of_getElem? (i := 649) (by decide +kernel)) (by decide +kernel), tG_of (List.mem_of_getElem? (i := 24) (by decide +kernel)) (by decide +kernel), by decide +kernel, by decide +kernel⟩
theorem s_L_goes : Jvm.Cond.static (mY mL_goes) ∈ tG := tG_of (List.mem_of_getElem? (i := 648) (by decide +kernel)) (by decide +kernel)
theorem lk_L_134 : Lk RL 134 mL_goes 4 := ⟨ok_L_goes, tG_of (List.mem_of_getElem? (i := 647) (by decide +kernel)) (by decide +kernel), by decide +kernel, by decide⟩
theorem ok_L_chooses : MOK mL_chooses := ⟨by decide +kernel, tG_of (List.mem_of_getElem? (i := 659) (by decide +kernel)) (by decide +kernel), tG_of (List.mem_of_getElem? (i := 24) (by decide +kernel)) (by decide +kernel), by decide +kernel, by decide +kernel⟩
theorem s_L_chooses : Jvm.Cond.static (mY mL_chooses) ∈ tG := tG_of (List.mem_of_getElem? (i := 658) (by decide +kernel)) (by decide +kernel)
theorem lk_L_137 : Lk RL 137 mL_chooses 5 := ⟨ok_L_chooses, tG_of (List.mem_of_getElem? (i := 657) (by decide +kernel)) (by decide +kernel), by decide +kernel, by decide⟩
theorem ok_L_seen : MOK mL_seen := ⟨by decide +kernel, tG_of (List.mem_of_getElem? (i := 671) (by decide +kernel)) (by decide +kernel), tG_of (List.mem_of_getElem? (i := 24) (by decide +kernel)) (by decide +kernel), by decide +kernel, by decide +kernel⟩
theorem s_L_seen : Jvm.Cond.static (mY mL_seen) ∈ tG := tG_of (List.mem_of_getElem? (i := 670) (by decide +kernel)) (by decide +kernel)
theorem lk_L_141 : Lk RL 141 mL_seen 1 := ⟨ok_L_seen, tG_of (List.mem_of_getElem? (i := 669) (by decide +kernel)) (by decide +kernel), by decide +kernel, by decide⟩
