/-! ===== Script: reads ===== -/
set_option maxRecDepth 100000 in
set_option maxHeartbeats 4000000 in
theorem s3_has {d : Nat} {h : AH} {R : RP} {v : Int} {a : Nat} {S : SC} (hS : scAt h a S) (k : R (some (vI (bi (cHas S v)))) h) : AM m3_has (d) h [vR a, vI v] R := by
  refine AM.of (L := [some (vR a), some (vI v)]) ok_3_has (by decide) (fun G => Nat.le_of_ble_eq_true rfl) rfl ?_
  refine A.il2_1 d3_has_0 ?_
  refine A.if_lt d3_has_1 (fun c1 => ?_) (fun c1 => ?_)
  · refine A.iconst d3_has_22 ?_
    refine A.zret d3_has_23 ?_
    first | exact rT k (by unfold cHas; omega) | exact rF k (by unfold cHas; omega)
  · refine A.il2_1 d3_has_4 ?_
    refine A.al2_0 d3_has_5 ?_
    refine A.getf d3_has_6 ?_ (hc := hS.1)
    refine A.ic_ge d3_has_9 (fun c9 => ?_) (fun c9 => ?_)
    · refine A.iconst d3_has_22 ?_
      refine A.zret d3_has_23 ?_
      first | exact rT k (by unfold cHas; omega) | exact rF k (by unfold cHas; omega)
    · refine A.il2_1 d3_has_12 ?_
      refine A.bipush d3_has_13 ?_
      refine A.ic_ge d3_has_15 (fun c15 => ?_) (fun c15 => ?_)
      · refine A.iconst d3_has_22 ?_
        refine A.zret d3_has_23 ?_
        first | exact rT k (by unfold cHas; omega) | exact rF k (by unfold cHas; omega)
      · refine A.iconst d3_has_18 ?_
        refine A.goto d3_has_19 ?_
        refine A.zret d3_has_23 ?_
        first | exact rT k (by unfold cHas; omega) | exact rF k (by unfold cHas; omega)
set_option maxRecDepth 100000 in
set_option maxHeartbeats 4000000 in
theorem s3_kindOf {d : Nat} {h : AH} {R : RP} {v : Int} {a : Nat} {S : SC} (hS : scAt h a S) (k : R (some (vI (cKind S v))) h) : AM m3_kindOf (d + 1) h [vR a, vI v] R := by
  refine AM.of (L := [some (vR a), some (vI v)]) ok_3_kindOf (by decide) (fun G => Nat.le_of_ble_eq_true rfl) rfl ?_
  refine A.al2_0 d3_kindOf_0 ?_
  refine A.il2_1 d3_kindOf_1 ?_
  refine A.v1 d3_kindOf_2 (s3_has hS (kS ?_)) (hc := hS.1)
  refine A.bz_eq d3_kindOf_5 (fun c5 => ?_) (fun c5 => ?_)
  · refine A.iconst d3_kindOf_17 ?_
    refine A.iret d3_kindOf_18 ?_
    exact rI k (by unfold cKind; (try unfold cHas at *); (repeat' split) <;> first | rfl | omega)
  · unfold cHas at c5
    refine A.al2_0 d3_kindOf_8 ?_
    refine A.getf d3_kindOf_9 ?_ (hc := hS.1)
    refine A.il2_1 d3_kindOf_12 ?_
    refine A.iald d3_kindOf_13 ?_ (hc := hS.2.1)
    refine A.goto d3_kindOf_14 ?_
    refine A.iret d3_kindOf_18 ?_
    exact rI k (by unfold cKind; (try unfold cHas at *); (repeat' split) <;> first | rfl | omega)
set_option maxRecDepth 100000 in
set_option maxHeartbeats 4000000 in
theorem s3_optionsOf {d : Nat} {h : AH} {R : RP} {v : Int} {a : Nat} {S : SC} (hS : scAt h a S) (k : R (some (vI (cOpts S v))) h) : AM m3_optionsOf (d + 1) h [vR a, vI v] R := by
  refine AM.of (L := [some (vR a), some (vI v)]) ok_3_optionsOf (by decide) (fun G => Nat.le_of_ble_eq_true rfl) rfl ?_
  refine A.al2_0 d3_optionsOf_0 ?_
  refine A.il2_1 d3_optionsOf_1 ?_
  refine A.v1 d3_optionsOf_2 (s3_has hS (kS ?_)) (hc := hS.1)
  refine A.bz_eq d3_optionsOf_5 (fun c5 => ?_) (fun c5 => ?_)
  · refine A.iconst d3_optionsOf_17 ?_
    refine A.iret d3_optionsOf_18 ?_
    exact rI k (by unfold cOpts; (try unfold cHas at *); (repeat' split) <;> first | rfl | omega)
  · unfold cHas at c5
    refine A.al2_0 d3_optionsOf_8 ?_
    refine A.getf d3_optionsOf_9 ?_ (hc := hS.1)
    refine A.il2_1 d3_optionsOf_12 ?_
    refine A.iald d3_optionsOf_13 ?_ (hc := hS.2.2.2.2.1)
    refine A.goto d3_optionsOf_14 ?_
    refine A.iret d3_optionsOf_18 ?_
    exact rI k (by unfold cOpts; (try unfold cHas at *); (repeat' split) <;> first | rfl | omega)
set_option maxRecDepth 100000 in
set_option maxHeartbeats 4000000 in
theorem s3_numberOf {d : Nat} {h : AH} {R : RP} {v i : Int} {a : Nat} {S : SC} (hS : scAt h a S) (k : R (some (vI (cNum S v i))) h) : AM m3_numberOf (d + 1) h [vR a, vI v, vI i] R := by
  refine AM.of (L := [some (vR a), some (vI v), some (vI i)]) ok_3_numberOf (by decide) (fun G => Nat.le_of_ble_eq_true rfl) rfl ?_
  refine A.al3_0 d3_numberOf_0 ?_
  refine A.il3_1 d3_numberOf_1 ?_
  refine A.v1 d3_numberOf_2 (s3_has hS (kS ?_)) (hc := hS.1)
  refine A.bz_eq d3_numberOf_5 (fun c5 => ?_) (fun c5 => ?_)
  · refine A.bipush d3_numberOf_17 ?_
    refine A.iret d3_numberOf_19 ?_
    exact rI k (by unfold cNum; (try unfold cHas at *); (repeat' split) <;> first | rfl | omega)
  · unfold cHas at c5
    refine A.il3_2 d3_numberOf_8 ?_
    refine A.if_lt d3_numberOf_9 (fun c9 => ?_) (fun c9 => ?_)
    · refine A.bipush d3_numberOf_17 ?_
      refine A.iret d3_numberOf_19 ?_
      exact rI k (by unfold cNum; (try unfold cHas at *); (repeat' split) <;> first | rfl | omega)
    · refine A.il3_2 d3_numberOf_12 ?_
      refine A.iconst d3_numberOf_13 ?_
      refine A.ic_lt d3_numberOf_14 (fun c14 => ?_) (fun c14 => ?_)
      · refine A.al3_0 d3_numberOf_20 ?_
        refine A.getf d3_numberOf_21 ?_ (hc := hS.1)
        refine A.il3_1 d3_numberOf_24 ?_
        refine A.iald d3_numberOf_25 ?_ (hc := hS.2.1)
        refine A.bipush d3_numberOf_26 ?_
        refine A.ic_ne d3_numberOf_28 (fun c28 => ?_) (fun c28 => ?_)
        · refine A.il3_2 d3_numberOf_47 ?_
          refine A.al3_0 d3_numberOf_48 ?_
          refine A.getf d3_numberOf_49 ?_ (hc := hS.1)
          refine A.il3_1 d3_numberOf_52 ?_
          refine A.iald d3_numberOf_53 ?_ (hc := hS.2.2.1)
          refine A.ic_ge d3_numberOf_54 (fun c54 => ?_) (fun c54 => ?_)
          · refine A.bipush d3_numberOf_70 ?_
            refine A.iret d3_numberOf_72 ?_
            exact rI k (by unfold cNum; (try unfold cHas at *); (repeat' split) <;> first | rfl | omega)
          · refine A.al3_0 d3_numberOf_57 ?_
            refine A.getf d3_numberOf_58 ?_ (hc := hS.1)
            refine A.il3_1 d3_numberOf_61 ?_
            refine A.iconst d3_numberOf_62 ?_
            refine A.imul d3_numberOf_63 ?_
            refine A.il3_2 d3_numberOf_64 ?_
            refine A.iadd d3_numberOf_65 ?_
            refine A.iald d3_numberOf_66 ?_ (hc := hS.2.2.2.1)
            refine A.goto d3_numberOf_67 ?_
            refine A.iret d3_numberOf_72 ?_
            exact rI k (by unfold cNum; (try unfold cHas at *); (repeat' split) <;> first | rfl | omega)
        · refine A.il3_2 d3_numberOf_31 ?_
          refine A.if_ne d3_numberOf_32 (fun c32 => ?_) (fun c32 => ?_)
          · refine A.bipush d3_numberOf_44 ?_
            refine A.iret d3_numberOf_46 ?_
            exact rI k (by unfold cNum; (try unfold cHas at *); (repeat' split) <;> first | rfl | omega)
          · refine A.al3_0 d3_numberOf_35 ?_
            refine A.getf d3_numberOf_36 ?_ (hc := hS.1)
            refine A.il3_1 d3_numberOf_39 ?_
            refine A.iald d3_numberOf_40 ?_ (hc := hS.2.2.2.2.1)
            refine A.goto d3_numberOf_41 ?_
            refine A.iret d3_numberOf_46 ?_
            exact rI k (by unfold cNum; (try unfold cHas at *); (repeat' split) <;> first | rfl | omega)
      · refine A.bipush d3_numberOf_17 ?_
        refine A.iret d3_numberOf_19 ?_
        exact rI k (by unfold cNum; (try unfold cHas at *); (repeat' split) <;> first | rfl | omega)
set_option maxRecDepth 100000 in
set_option maxHeartbeats 4000000 in
theorem s3_optionPart {d : Nat} {h : AH} {R : RP} {v o w : Int} {a : Nat} {S : SC} (hS : scAt h a S) (k : R (some (vI (cPart S v o w))) h) : AM m3_optionPart (d + 1) h [vR a, vI v, vI o, vI w] R := by
  refine AM.of (L := [some (vR a), some (vI v), some (vI o), some (vI w)]) ok_3_optionPart (by decide) (fun G => Nat.le_of_ble_eq_true rfl) rfl ?_
  refine A.al4_0 d3_optionPart_0 ?_
  refine A.il4_1 d3_optionPart_1 ?_
  refine A.v1 d3_optionPart_2 (s3_has hS (kS ?_)) (hc := hS.1)
  refine A.bz_eq d3_optionPart_5 (fun c5 => ?_) (fun c5 => ?_)
  · refine A.bipush d3_optionPart_27 ?_
    refine A.iret d3_optionPart_29 ?_
    exact rI k (by unfold cPart; (try unfold cHas at *); (repeat' split) <;> first | rfl | omega)
  · unfold cHas at c5
    refine A.il4_2 d3_optionPart_8 ?_
    refine A.if_lt d3_optionPart_9 (fun c9 => ?_) (fun c9 => ?_)
    · refine A.bipush d3_optionPart_27 ?_
      refine A.iret d3_optionPart_29 ?_
      exact rI k (by unfold cPart; (try unfold cHas at *); (repeat' split) <;> first | rfl | omega)
    · refine A.il4_2 d3_optionPart_12 ?_
      refine A.al4_0 d3_optionPart_13 ?_
      refine A.getf d3_optionPart_14 ?_ (hc := hS.1)
      refine A.il4_1 d3_optionPart_17 ?_
      refine A.iald d3_optionPart_18 ?_ (hc := hS.2.2.2.2.1)
      refine A.ic_ge d3_optionPart_19 (fun c19 => ?_) (fun c19 => ?_)
      · refine A.bipush d3_optionPart_27 ?_
        refine A.iret d3_optionPart_29 ?_
        exact rI k (by unfold cPart; (try unfold cHas at *); (repeat' split) <;> first | rfl | omega)
      · refine A.il4_2 d3_optionPart_22 ?_
        refine A.iconst d3_optionPart_23 ?_
        refine A.ic_lt d3_optionPart_24 (fun c24 => ?_) (fun c24 => ?_)
        · refine A.il4_3 d3_optionPart_30 ?_
          refine A.if_lt d3_optionPart_31 (fun c31 => ?_) (fun c31 => ?_)
          · refine A.bipush d3_optionPart_39 ?_
            refine A.iret d3_optionPart_41 ?_
            exact rI k (by unfold cPart; (try unfold cHas at *); (repeat' split) <;> first | rfl | omega)
          · refine A.il4_3 d3_optionPart_34 ?_
            refine A.iconst d3_optionPart_35 ?_
            refine A.ic_lt d3_optionPart_36 (fun c36 => ?_) (fun c36 => ?_)
            · refine A.al4_0 d3_optionPart_42 ?_
              refine A.getf d3_optionPart_43 ?_ (hc := hS.1)
              refine A.il4_1 d3_optionPart_46 ?_
              refine A.iconst d3_optionPart_47 ?_
              refine A.imul d3_optionPart_48 ?_
              refine A.il4_2 d3_optionPart_49 ?_
              refine A.iadd d3_optionPart_50 ?_
              refine A.iconst d3_optionPart_51 ?_
              refine A.imul d3_optionPart_52 ?_
              refine A.il4_3 d3_optionPart_53 ?_
              refine A.iadd d3_optionPart_54 ?_
              refine A.iald d3_optionPart_55 ?_ (hc := hS.2.2.2.2.2)
              refine A.iret d3_optionPart_56 ?_
              exact rI k (by unfold cPart; (try unfold cHas at *); (repeat' split) <;> first | rfl | omega)
            · refine A.bipush d3_optionPart_39 ?_
              refine A.iret d3_optionPart_41 ?_
              exact rI k (by unfold cPart; (try unfold cHas at *); (repeat' split) <;> first | rfl | omega)
        · refine A.bipush d3_optionPart_27 ?_
          refine A.iret d3_optionPart_29 ?_
          exact rI k (by unfold cPart; (try unfold cHas at *); (repeat' split) <;> first | rfl | omega)
set_option maxRecDepth 100000 in
set_option maxHeartbeats 4000000 in
theorem s3_shownKind {d : Nat} {h : AH} {R : RP} {v : Int} {a : Nat} {S : SC} (hS : scAt h a S) (k : R (some (vI (cSK S v))) h) : AM m3_shownKind (d + 2) h [vR a, vI v] R := by
  refine AM.of (L := [some (vR a), some (vI v), none]) ok_3_shownKind (by decide) (fun G => Nat.le_of_ble_eq_true rfl) rfl ?_
  refine A.al3_0 d3_shownKind_0 ?_
  refine A.il3_1 d3_shownKind_1 ?_
  refine A.v1 d3_shownKind_2 (s3_kindOf hS (kS ?_)) (hc := hS.1)
  refine A.is3_2 d3_shownKind_5 ?_
  refine A.il3_2 d3_shownKind_6 ?_
  refine A.if_ne d3_shownKind_7 (fun c7 => ?_) (fun c7 => ?_)
  · refine A.il3_2 d3_shownKind_12 ?_
    refine A.bipush d3_shownKind_13 ?_
    refine A.ic_ne d3_shownKind_15 (fun c15 => ?_) (fun c15 => ?_)
    · refine A.iconst d3_shownKind_22 ?_
      refine A.iret d3_shownKind_23 ?_
      exact rI k (by unfold cSK; (try unfold cHas at *); (repeat' split) <;> first | rfl | omega)
    · refine A.iconst d3_shownKind_18 ?_
      refine A.goto d3_shownKind_19 ?_
      refine A.iret d3_shownKind_23 ?_
      exact rI k (by unfold cSK; (try unfold cHas at *); (repeat' split) <;> first | rfl | omega)
  · refine A.iconst d3_shownKind_10 ?_
    refine A.iret d3_shownKind_11 ?_
    exact rI k (by unfold cSK; (try unfold cHas at *); (repeat' split) <;> first | rfl | omega)
set_option maxRecDepth 100000 in
set_option maxHeartbeats 4000000 in
theorem s3_isShown {d : Nat} {h : AH} {R : RP} {v : Int} {a : Nat} {S : SC} (hS : scAt h a S) (k : R (some (vI (bi (cShown S v)))) h) : AM m3_isShown (d + 2) h [vR a, vI v] R := by
  refine AM.of (L := [some (vR a), some (vI v), none]) ok_3_isShown (by decide) (fun G => Nat.le_of_ble_eq_true rfl) rfl ?_
  refine A.al3_0 d3_isShown_0 ?_
  refine A.il3_1 d3_isShown_1 ?_
  refine A.v1 d3_isShown_2 (s3_kindOf hS (kS ?_)) (hc := hS.1)
  refine A.is3_2 d3_isShown_5 ?_
  refine A.il3_2 d3_isShown_6 ?_
  refine A.iconst d3_isShown_7 ?_
  refine A.ic_eq d3_isShown_8 (fun c8 => ?_) (fun c8 => ?_)
  · refine A.iconst d3_isShown_27 ?_
    refine A.goto d3_isShown_28 ?_
    refine A.zret d3_isShown_32 ?_
    first | exact rT k (by unfold cShown; omega) | exact rF k (by unfold cShown; omega)
  · refine A.il3_2 d3_isShown_11 ?_
    refine A.if_eq d3_isShown_12 (fun c12 => ?_) (fun c12 => ?_)
    · refine A.iconst d3_isShown_27 ?_
      refine A.goto d3_isShown_28 ?_
      refine A.zret d3_isShown_32 ?_
      first | exact rT k (by unfold cShown; omega) | exact rF k (by unfold cShown; omega)
    · refine A.il3_2 d3_isShown_15 ?_
      refine A.bipush d3_isShown_16 ?_
      refine A.ic_eq d3_isShown_18 (fun c18 => ?_) (fun c18 => ?_)
      · refine A.iconst d3_isShown_27 ?_
        refine A.goto d3_isShown_28 ?_
        refine A.zret d3_isShown_32 ?_
        first | exact rT k (by unfold cShown; omega) | exact rF k (by unfold cShown; omega)
      · refine A.il3_2 d3_isShown_21 ?_
        refine A.bipush d3_isShown_22 ?_
        refine A.ic_ne d3_isShown_24 (fun c24 => ?_) (fun c24 => ?_)
        · refine A.iconst d3_isShown_31 ?_
          refine A.zret d3_isShown_32 ?_
          first | exact rT k (by unfold cShown; omega) | exact rF k (by unfold cShown; omega)
        · refine A.iconst d3_isShown_27 ?_
          refine A.goto d3_isShown_28 ?_
          refine A.zret d3_isShown_32 ?_
          first | exact rT k (by unfold cShown; omega) | exact rF k (by unfold cShown; omega)
set_option maxRecDepth 100000 in
set_option maxHeartbeats 4000000 in
theorem s3_shownNumber {d : Nat} {h : AH} {R : RP} {v : Int} {a : Nat} {S : SC} (hS : scAt h a S) (k : R (some (vI (cSN S v))) h) : AM m3_shownNumber (d + 2) h [vR a, vI v] R := by
  refine AM.of (L := [some (vR a), some (vI v)]) ok_3_shownNumber (by decide) (fun G => Nat.le_of_ble_eq_true rfl) rfl ?_
  refine A.il2_1 d3_shownNumber_0 ?_
  refine A.bipush d3_shownNumber_1 ?_
  refine A.ic_ne d3_shownNumber_3 (fun c3 => ?_) (fun c3 => ?_)
  · refine A.al2_0 d3_shownNumber_9 ?_
    refine A.il2_1 d3_shownNumber_10 ?_
    refine A.v1 d3_shownNumber_11 (s3_has hS (kS ?_)) (hc := hS.1)
    refine A.bz_ne d3_shownNumber_14 (fun c14 => ?_) (fun c14 => ?_)
    · refine A.al2_0 d3_shownNumber_20 ?_
      refine A.il2_1 d3_shownNumber_21 ?_
      refine A.al2_0 d3_shownNumber_22 ?_
      refine A.il2_1 d3_shownNumber_23 ?_
      refine A.v1 d3_shownNumber_24 (s3_kindOf hS (kS ?_)) (hc := hS.1)
      refine A.if_ne d3_shownNumber_27 (fun c27 => ?_) (fun c27 => ?_)
      · refine A.iconst d3_shownNumber_34 ?_
        refine A.v2 d3_shownNumber_35 (s3_numberOf hS (kS ?_)) (hc := hS.1)
        refine A.iret d3_shownNumber_38 ?_
        exact rI k (by unfold cSN; (try unfold cHas at *); (repeat' split) <;> first | rfl | omega)
      · refine A.iconst d3_shownNumber_30 ?_
        refine A.goto d3_shownNumber_31 ?_
        refine A.v2 d3_shownNumber_35 (s3_numberOf hS (kS ?_)) (hc := hS.1)
        refine A.iret d3_shownNumber_38 ?_
        exact rI k (by unfold cSN; (try unfold cHas at *); (repeat' split) <;> first | rfl | omega)
    · refine A.bipush d3_shownNumber_17 ?_
      refine A.iret d3_shownNumber_19 ?_
      exact rI k (by unfold cSN; (try unfold cHas at *); (repeat' split) <;> first | rfl | omega)
  · refine A.bipush d3_shownNumber_6 ?_
    refine A.iret d3_shownNumber_8 ?_
    exact rI k (by unfold cSN; (try unfold cHas at *); (repeat' split) <;> first | rfl | omega)
set_option maxRecDepth 100000 in
set_option maxHeartbeats 4000000 in
theorem s3_isOpen {d : Nat} {h : AH} {R : RP} {v o fl : Int} {a : Nat} {S : SC} (hS : scAt h a S) (k : R (some (vI (bi (cOpen S v o fl)))) h) : AM m3_isOpen (d + 2) h [vR a, vI v, vI o, vI fl] R := by
  refine AM.of (L := [some (vR a), some (vI v), some (vI o), some (vI fl), none, none]) ok_3_isOpen (by decide) (fun G => Nat.le_of_ble_eq_true rfl) rfl ?_
  refine A.il6_2 d3_isOpen_0 ?_
  refine A.if_lt d3_isOpen_1 (fun c1 => ?_) (fun c1 => ?_)
  · refine A.iconst d3_isOpen_13 ?_
    refine A.zret d3_isOpen_14 ?_
    first | exact rT k (by unfold cOpen fon; omega) | exact rF k (by unfold cOpen fon; omega)
  · refine A.il6_2 d3_isOpen_4 ?_
    refine A.al6_0 d3_isOpen_5 ?_
    refine A.il6_1 d3_isOpen_6 ?_
    refine A.v1 d3_isOpen_7 (s3_optionsOf hS (kS ?_)) (hc := hS.1)
    refine A.ic_lt d3_isOpen_10 (fun c10 => ?_) (fun c10 => ?_)
    · refine A.al6_0 d3_isOpen_15 ?_
      refine A.il6_1 d3_isOpen_16 ?_
      refine A.il6_2 d3_isOpen_17 ?_
      refine A.iconst d3_isOpen_18 ?_
      refine A.v3 d3_isOpen_19 (s3_optionPart hS (kS ?_)) (hc := hS.1)
      refine A.is6_4 d3_isOpen_22 ?_
      refine A.il6_4 d3_isOpen_24 ?_
      refine A.if_ne d3_isOpen_26 (fun c26 => ?_) (fun c26 => ?_)
      · refine A.il6_3 d3_isOpen_31 ?_
        refine A.al6_0 d3_isOpen_32 ?_
        refine A.il6_1 d3_isOpen_33 ?_
        refine A.il6_2 d3_isOpen_34 ?_
        refine A.iconst d3_isOpen_35 ?_
        refine A.v3 d3_isOpen_36 (s3_optionPart hS (kS ?_)) (hc := hS.1)
        refine A.ishr d3_isOpen_39 ?_
        refine A.iconst d3_isOpen_40 ?_
        refine A.iand d3_isOpen_41 ?_
        refine A.iconst d3_isOpen_42 ?_
        refine A.ic_ne d3_isOpen_43 (fun c43 => ?_) (fun c43 => ?_)
        · refine A.iconst d3_isOpen_50 ?_
          refine A.is6_5 d3_isOpen_51 ?_
          refine A.il6_5 d3_isOpen_53 ?_
          refine A.il6_4 d3_isOpen_55 ?_
          refine A.iconst d3_isOpen_57 ?_
          refine A.ic_ne d3_isOpen_58 (fun c58 => ?_) (fun c58 => ?_)
          · refine A.iconst d3_isOpen_65 ?_
            refine A.ic_ne d3_isOpen_66 (fun c66 => ?_) (fun c66 => ?_)
            · refine A.iconst d3_isOpen_73 ?_
              refine A.zret d3_isOpen_74 ?_
              first | exact rT k (by unfold cOpen fon; omega) | exact rF k (by unfold cOpen fon; omega)
            · refine A.iconst d3_isOpen_69 ?_
              refine A.goto d3_isOpen_70 ?_
              refine A.zret d3_isOpen_74 ?_
              first | exact rT k (by unfold cOpen fon; omega) | exact rF k (by unfold cOpen fon; omega)
          · refine A.iconst d3_isOpen_61 ?_
            refine A.goto d3_isOpen_62 ?_
            refine A.ic_ne d3_isOpen_66 (fun c66 => ?_) (fun c66 => ?_)
            · refine A.iconst d3_isOpen_73 ?_
              refine A.zret d3_isOpen_74 ?_
              first | exact rT k (by unfold cOpen fon; omega) | exact rF k (by unfold cOpen fon; omega)
            · refine A.iconst d3_isOpen_69 ?_
              refine A.goto d3_isOpen_70 ?_
              refine A.zret d3_isOpen_74 ?_
              first | exact rT k (by unfold cOpen fon; omega) | exact rF k (by unfold cOpen fon; omega)
        · refine A.iconst d3_isOpen_46 ?_
          refine A.goto d3_isOpen_47 ?_
          refine A.is6_5 d3_isOpen_51 ?_
          refine A.il6_5 d3_isOpen_53 ?_
          refine A.il6_4 d3_isOpen_55 ?_
          refine A.iconst d3_isOpen_57 ?_
          refine A.ic_ne d3_isOpen_58 (fun c58 => ?_) (fun c58 => ?_)
          · refine A.iconst d3_isOpen_65 ?_
            refine A.ic_ne d3_isOpen_66 (fun c66 => ?_) (fun c66 => ?_)
            · refine A.iconst d3_isOpen_73 ?_
              refine A.zret d3_isOpen_74 ?_
              first | exact rT k (by unfold cOpen fon; omega) | exact rF k (by unfold cOpen fon; omega)
            · refine A.iconst d3_isOpen_69 ?_
              refine A.goto d3_isOpen_70 ?_
              refine A.zret d3_isOpen_74 ?_
              first | exact rT k (by unfold cOpen fon; omega) | exact rF k (by unfold cOpen fon; omega)
          · refine A.iconst d3_isOpen_61 ?_
            refine A.goto d3_isOpen_62 ?_
            refine A.ic_ne d3_isOpen_66 (fun c66 => ?_) (fun c66 => ?_)
            · refine A.iconst d3_isOpen_73 ?_
              refine A.zret d3_isOpen_74 ?_
              first | exact rT k (by unfold cOpen fon; omega) | exact rF k (by unfold cOpen fon; omega)
            · refine A.iconst d3_isOpen_69 ?_
              refine A.goto d3_isOpen_70 ?_
              refine A.zret d3_isOpen_74 ?_
              first | exact rT k (by unfold cOpen fon; omega) | exact rF k (by unfold cOpen fon; omega)
      · refine A.iconst d3_isOpen_29 ?_
        refine A.zret d3_isOpen_30 ?_
        first | exact rT k (by unfold cOpen fon; omega) | exact rF k (by unfold cOpen fon; omega)
    · refine A.iconst d3_isOpen_13 ?_
      refine A.zret d3_isOpen_14 ?_
      first | exact rT k (by unfold cOpen fon; omega) | exact rF k (by unfold cOpen fon; omega)
