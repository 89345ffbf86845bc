/-! ===== Script: writes ===== -/
def cAddNode (S : SC) (kd : Int) : SC := if S.1 < 29 then (S.1 + 1, fset S.2.1 S.1 kd, fset S.2.2.1 S.1 0, S.2.2.2.1, fset S.2.2.2.2.1 S.1 0, S.2.2.2.2.2) else S
def cAddNum (S : SC) (v : Int) : SC := if (0 ≤ S.1 - 1 ∧ S.1 - 1 < S.1 ∧ S.1 - 1 < 29) ∧ S.2.2.1 (S.1 - 1) < 3 then (S.1, S.2.1, fset S.2.2.1 (S.1 - 1) (S.2.2.1 (S.1 - 1) + 1), fset S.2.2.2.1 ((S.1 - 1) * 3 + S.2.2.1 (S.1 - 1)) v, S.2.2.2.2.1, S.2.2.2.2.2) else S
def cAddOpt (S : SC) (t l f : Int) : SC := if (0 ≤ S.1 - 1 ∧ S.1 - 1 < S.1 ∧ S.1 - 1 < 29) ∧ S.2.2.2.2.1 (S.1 - 1) < 4 then (S.1, S.2.1, S.2.2.1, S.2.2.2.1, fset S.2.2.2.2.1 (S.1 - 1) (S.2.2.2.2.1 (S.1 - 1) + 1),
  fset (fset (fset S.2.2.2.2.2 (((S.1 - 1) * 4 + S.2.2.2.2.1 (S.1 - 1)) * 3 + 0) t) (((S.1 - 1) * 4 + S.2.2.2.2.1 (S.1 - 1)) * 3 + 1) l) (((S.1 - 1) * 4 + S.2.2.2.2.1 (S.1 - 1)) * 3 + 2) f) else S
set_option maxRecDepth 100000 in
set_option maxHeartbeats 4000000 in
theorem s3_clear {d : Nat} {h : AH} {R : RP} {a : Nat} {S : SC} (hS : scAt h a S) (hI : scI S) (k : ∀ h', scAt h' a (0, S.2) → Fr h h' a 6 → R none h') : AM m3_clear (d) h [vR a] R := by
  refine AM.of (L := [some (vR a)]) ok_3_clear (by decide) (fun G => Nat.le_of_ble_eq_true rfl) rfl ?_
  obtain ⟨s0, s1, s2, s3, s4, s5⟩ := hS
  refine A.al1_0 d3_clear_0 ?_
  refine A.iconst d3_clear_1 ?_
  refine A.putf d3_clear_2 (fun h2 e2 f2 => ?_) (hc := s0) (hk := blt_ok rfl)
  first | (have s0 := (f2.2 _ (by omega)).trans s0) | (have s0 := e2)
  first | (have s1 := (f2.2 _ (by omega)).trans s1) | (have s1 := e2)
  first | (have s2 := (f2.2 _ (by omega)).trans s2) | (have s2 := e2)
  first | (have s3 := (f2.2 _ (by omega)).trans s3) | (have s3 := e2)
  first | (have s4 := (f2.2 _ (by omega)).trans s4) | (have s4 := e2)
  first | (have s5 := (f2.2 _ (by omega)).trans s5) | (have s5 := e2)
  have F2 := f2.wide (a := a) (n := 6) (by omega) (by omega)
  refine A.vret d3_clear_5 ?_
  exact k _ ⟨s0, s1, s2, s3, s4, s5⟩ F2
set_option maxRecDepth 100000 in
set_option maxHeartbeats 4000000 in
theorem s3_addNode {d : Nat} {h : AH} {R : RP} {kd : Int} {a : Nat} {S : SC} (hS : scAt h a S) (hI : scI S) (k : ∀ h', scAt h' a (cAddNode S kd) → Fr h h' a 6 → R none h') : AM m3_addNode (d) h [vR a, vI kd] R := by
  refine AM.of (L := [some (vR a), some (vI kd)]) ok_3_addNode (by decide) (fun G => Nat.le_of_ble_eq_true rfl) rfl ?_
  obtain ⟨s0, s1, s2, s3, s4, s5⟩ := hS
  have hI1 := hI.1
  have hI2 := hI.2.1
  refine A.al2_0 d3_addNode_0 ?_
  refine A.getf d3_addNode_1 ?_ (hc := s0)
  refine A.if_lt d3_addNode_4 (fun c4 => ?_) (fun c4 => ?_)
  · refine A.vret d3_addNode_56 ?_
    first | exact k _ (by unfold cAddNode; rw [if_pos (by omega)]; exact ⟨s0, s1, s2, s3, s4, s5⟩) None | exact k _ (by unfold cAddNode; rw [if_neg (by omega)]; exact ⟨s0, s1, s2, s3, s4, s5⟩) Fr.rfl
  · refine A.al2_0 d3_addNode_7 ?_
    refine A.getf d3_addNode_8 ?_ (hc := s0)
    refine A.bipush d3_addNode_11 ?_
    refine A.ic_ge d3_addNode_13 (fun c13 => ?_) (fun c13 => ?_)
    · refine A.vret d3_addNode_56 ?_
      first | exact k _ (by unfold cAddNode; rw [if_pos (by omega)]; exact ⟨s0, s1, s2, s3, s4, s5⟩) None | exact k _ (by unfold cAddNode; rw [if_neg (by omega)]; exact ⟨s0, s1, s2, s3, s4, s5⟩) Fr.rfl
    · refine A.al2_0 d3_addNode_16 ?_
      refine A.getf d3_addNode_17 ?_ (hc := s0)
      refine A.al2_0 d3_addNode_20 ?_
      refine A.getf d3_addNode_21 ?_ (hc := s0)
      refine A.il2_1 d3_addNode_24 ?_
      refine A.iast d3_addNode_25 (fun h25 e25 f25 => ?_) (hc := s1)
      first | (have s0 := (f25.2 _ (by omega)).trans s0) | (have s0 := e25)
      first | (have s1 := (f25.2 _ (by omega)).trans s1) | (have s1 := e25)
      first | (have s2 := (f25.2 _ (by omega)).trans s2) | (have s2 := e25)
      first | (have s3 := (f25.2 _ (by omega)).trans s3) | (have s3 := e25)
      first | (have s4 := (f25.2 _ (by omega)).trans s4) | (have s4 := e25)
      first | (have s5 := (f25.2 _ (by omega)).trans s5) | (have s5 := e25)
      have F25 := f25.wide (a := a) (n := 6) (by omega) (by omega)
      refine A.al2_0 d3_addNode_26 ?_
      refine A.getf d3_addNode_27 ?_ (hc := s0)
      refine A.al2_0 d3_addNode_30 ?_
      refine A.getf d3_addNode_31 ?_ (hc := s0)
      refine A.iconst d3_addNode_34 ?_
      refine A.iast d3_addNode_35 (fun h35 e35 f35 => ?_) (hc := s2)
      first | (have s0 := (f35.2 _ (by omega)).trans s0) | (have s0 := e35)
      first | (have s1 := (f35.2 _ (by omega)).trans s1) | (have s1 := e35)
      first | (have s2 := (f35.2 _ (by omega)).trans s2) | (have s2 := e35)
      first | (have s3 := (f35.2 _ (by omega)).trans s3) | (have s3 := e35)
      first | (have s4 := (f35.2 _ (by omega)).trans s4) | (have s4 := e35)
      first | (have s5 := (f35.2 _ (by omega)).trans s5) | (have s5 := e35)
      have F35 := F25.then f35 (by omega) (by omega)
      refine A.al2_0 d3_addNode_36 ?_
      refine A.getf d3_addNode_37 ?_ (hc := s0)
      refine A.al2_0 d3_addNode_40 ?_
      refine A.getf d3_addNode_41 ?_ (hc := s0)
      refine A.iconst d3_addNode_44 ?_
      refine A.iast d3_addNode_45 (fun h45 e45 f45 => ?_) (hc := s4)
      first | (have s0 := (f45.2 _ (by omega)).trans s0) | (have s0 := e45)
      first | (have s1 := (f45.2 _ (by omega)).trans s1) | (have s1 := e45)
      first | (have s2 := (f45.2 _ (by omega)).trans s2) | (have s2 := e45)
      first | (have s3 := (f45.2 _ (by omega)).trans s3) | (have s3 := e45)
      first | (have s4 := (f45.2 _ (by omega)).trans s4) | (have s4 := e45)
      first | (have s5 := (f45.2 _ (by omega)).trans s5) | (have s5 := e45)
      have F45 := F35.then f45 (by omega) (by omega)
      refine A.al2_0 d3_addNode_46 ?_
      refine A.dup d3_addNode_47 ?_
      refine A.getf d3_addNode_48 ?_ (hc := s0)
      refine A.iconst d3_addNode_51 ?_
      refine A.iadd d3_addNode_52 ?_
      refine A.putf d3_addNode_53 (fun h53 e53 f53 => ?_) (hc := s0) (hk := blt_ok rfl)
      first | (have s0 := (f53.2 _ (by omega)).trans s0) | (have s0 := e53)
      first | (have s1 := (f53.2 _ (by omega)).trans s1) | (have s1 := e53)
      first | (have s2 := (f53.2 _ (by omega)).trans s2) | (have s2 := e53)
      first | (have s3 := (f53.2 _ (by omega)).trans s3) | (have s3 := e53)
      first | (have s4 := (f53.2 _ (by omega)).trans s4) | (have s4 := e53)
      first | (have s5 := (f53.2 _ (by omega)).trans s5) | (have s5 := e53)
      have F53 := F45.then f53 (by omega) (by omega)
      refine A.vret d3_addNode_56 ?_
      first | exact k _ (by unfold cAddNode; rw [if_pos (by omega)]; exact ⟨s0, s1, s2, s3, s4, s5⟩) F53 | exact k _ (by unfold cAddNode; rw [if_neg (by omega)]; exact ⟨s0, s1, s2, s3, s4, s5⟩) Fr.rfl
set_option maxRecDepth 100000 in
set_option maxHeartbeats 4000000 in
theorem s3_addNumber {d : Nat} {h : AH} {R : RP} {v : Int} {a : Nat} {S : SC} (hS : scAt h a S) (hI : scI S) (k : ∀ h', scAt h' a (cAddNum S v) → Fr h h' a 6 → R none h') : AM m3_addNumber (d + 1) h [vR a, vI v] R := by
  refine AM.of (L := [some (vR a), some (vI v), none, none]) ok_3_addNumber (by decide) (fun G => Nat.le_of_ble_eq_true rfl) rfl ?_
  obtain ⟨s0, s1, s2, s3, s4, s5⟩ := hS
  have hI1 := hI.1
  have hI2 := hI.2.1
  have hI3 := hI.2.2 (S.1 - 1)
  refine A.al4_0 d3_addNumber_0 ?_
  refine A.getf d3_addNumber_1 ?_ (hc := s0)
  refine A.iconst d3_addNumber_4 ?_
  refine A.isub d3_addNumber_5 ?_
  refine A.is4_2 d3_addNumber_6 ?_
  refine A.al4_0 d3_addNumber_7 ?_
  refine A.il4_2 d3_addNumber_8 ?_
  refine A.v1 d3_addNumber_9 (s3_has ⟨s0, s1, s2, s3, s4, s5⟩ (kS ?_)) (hc := s0)
  refine A.bz_ne d3_addNumber_12 (fun c12 => ?_) (fun c12 => ?_)
  · unfold cHas at c12
    refine A.al4_0 d3_addNumber_16 ?_
    refine A.getf d3_addNumber_17 ?_ (hc := s0)
    refine A.il4_2 d3_addNumber_20 ?_
    refine A.iald d3_addNumber_21 ?_ (hc := s2)
    refine A.is4_3 d3_addNumber_22 ?_
    refine A.il4_3 d3_addNumber_23 ?_
    refine A.if_lt d3_addNumber_24 (fun c24 => ?_) (fun c24 => ?_)
    · refine A.vret d3_addNumber_52 ?_
      first | exact k _ (by unfold cAddNum; rw [if_pos (by omega)]; exact ⟨s0, s1, s2, s3, s4, s5⟩) None | exact k _ (by unfold cAddNum; rw [if_neg (by omega)]; exact ⟨s0, s1, s2, s3, s4, s5⟩) Fr.rfl
    · refine A.il4_3 d3_addNumber_27 ?_
      refine A.iconst d3_addNumber_28 ?_
      refine A.ic_ge d3_addNumber_29 (fun c29 => ?_) (fun c29 => ?_)
      · refine A.vret d3_addNumber_52 ?_
        first | exact k _ (by unfold cAddNum; rw [if_pos (by omega)]; exact ⟨s0, s1, s2, s3, s4, s5⟩) None | exact k _ (by unfold cAddNum; rw [if_neg (by omega)]; exact ⟨s0, s1, s2, s3, s4, s5⟩) Fr.rfl
      · refine A.al4_0 d3_addNumber_32 ?_
        refine A.getf d3_addNumber_33 ?_ (hc := s0)
        refine A.il4_2 d3_addNumber_36 ?_
        refine A.iconst d3_addNumber_37 ?_
        refine A.imul d3_addNumber_38 ?_
        refine A.il4_3 d3_addNumber_39 ?_
        refine A.iadd d3_addNumber_40 ?_
        refine A.il4_1 d3_addNumber_41 ?_
        refine A.iast d3_addNumber_42 (fun h42 e42 f42 => ?_) (hc := s3)
        first | (have s0 := (f42.2 _ (by omega)).trans s0) | (have s0 := e42)
        first | (have s1 := (f42.2 _ (by omega)).trans s1) | (have s1 := e42)
        first | (have s2 := (f42.2 _ (by omega)).trans s2) | (have s2 := e42)
        first | (have s3 := (f42.2 _ (by omega)).trans s3) | (have s3 := e42)
        first | (have s4 := (f42.2 _ (by omega)).trans s4) | (have s4 := e42)
        first | (have s5 := (f42.2 _ (by omega)).trans s5) | (have s5 := e42)
        have F42 := f42.wide (a := a) (n := 6) (by omega) (by omega)
        refine A.al4_0 d3_addNumber_43 ?_
        refine A.getf d3_addNumber_44 ?_ (hc := s0)
        refine A.il4_2 d3_addNumber_47 ?_
        refine A.il4_3 d3_addNumber_48 ?_
        refine A.iconst d3_addNumber_49 ?_
        refine A.iadd d3_addNumber_50 ?_
        refine A.iast d3_addNumber_51 (fun h51 e51 f51 => ?_) (hc := s2)
        first | (have s0 := (f51.2 _ (by omega)).trans s0) | (have s0 := e51)
        first | (have s1 := (f51.2 _ (by omega)).trans s1) | (have s1 := e51)
        first | (have s2 := (f51.2 _ (by omega)).trans s2) | (have s2 := e51)
        first | (have s3 := (f51.2 _ (by omega)).trans s3) | (have s3 := e51)
        first | (have s4 := (f51.2 _ (by omega)).trans s4) | (have s4 := e51)
        first | (have s5 := (f51.2 _ (by omega)).trans s5) | (have s5 := e51)
        have F51 := F42.then f51 (by omega) (by omega)
        refine A.vret d3_addNumber_52 ?_
        first | exact k _ (by unfold cAddNum; rw [if_pos (by omega)]; exact ⟨s0, s1, s2, s3, s4, s5⟩) F51 | exact k _ (by unfold cAddNum; rw [if_neg (by omega)]; exact ⟨s0, s1, s2, s3, s4, s5⟩) Fr.rfl
  · unfold cHas at c12
    refine A.vret d3_addNumber_15 ?_
    first | exact k _ (by unfold cAddNum; rw [if_pos (by omega)]; exact ⟨s0, s1, s2, s3, s4, s5⟩) None | exact k _ (by unfold cAddNum; rw [if_neg (by omega)]; exact ⟨s0, s1, s2, s3, s4, s5⟩) Fr.rfl
set_option maxRecDepth 100000 in
set_option maxHeartbeats 4000000 in
theorem s3_addOption {d : Nat} {h : AH} {R : RP} {t l f : Int} {a : Nat} {S : SC} (hS : scAt h a S) (hI : scI S) (k : ∀ h', scAt h' a (cAddOpt S t l f) → Fr h h' a 6 → R none h') : AM m3_addOption (d + 1) h [vR a, vI t, vI l, vI f] R := by
  refine AM.of (L := [some (vR a), some (vI t), some (vI l), some (vI f), none, none, none]) ok_3_addOption (by decide) (fun G => Nat.le_of_ble_eq_true rfl) rfl ?_
  obtain ⟨s0, s1, s2, s3, s4, s5⟩ := hS
  have hI1 := hI.1
  have hI2 := hI.2.1
  have hI3 := hI.2.2 (S.1 - 1)
  refine A.al7_0 d3_addOption_0 ?_
  refine A.getf d3_addOption_1 ?_ (hc := s0)
  refine A.iconst d3_addOption_4 ?_
  refine A.isub d3_addOption_5 ?_
  refine A.is7_4 d3_addOption_6 ?_
  refine A.al7_0 d3_addOption_8 ?_
  refine A.il7_4 d3_addOption_9 ?_
  refine A.v1 d3_addOption_11 (s3_has ⟨s0, s1, s2, s3, s4, s5⟩ (kS ?_)) (hc := s0)
  refine A.bz_ne d3_addOption_14 (fun c14 => ?_) (fun c14 => ?_)
  · unfold cHas at c14
    refine A.al7_0 d3_addOption_18 ?_
    refine A.getf d3_addOption_19 ?_ (hc := s0)
    refine A.il7_4 d3_addOption_22 ?_
    refine A.iald d3_addOption_24 ?_ (hc := s4)
    refine A.is7_5 d3_addOption_25 ?_
    refine A.il7_5 d3_addOption_27 ?_
    refine A.if_lt d3_addOption_29 (fun c29 => ?_) (fun c29 => ?_)
    · refine A.vret d3_addOption_90 ?_
      first | exact k _ (by unfold cAddOpt; rw [if_pos (by omega)]; exact ⟨s0, s1, s2, s3, s4, s5⟩) None | exact k _ (by unfold cAddOpt; rw [if_neg (by omega)]; exact ⟨s0, s1, s2, s3, s4, s5⟩) Fr.rfl
    · refine A.il7_5 d3_addOption_32 ?_
      refine A.iconst d3_addOption_34 ?_
      refine A.ic_ge d3_addOption_35 (fun c35 => ?_) (fun c35 => ?_)
      · refine A.vret d3_addOption_90 ?_
        first | exact k _ (by unfold cAddOpt; rw [if_pos (by omega)]; exact ⟨s0, s1, s2, s3, s4, s5⟩) None | exact k _ (by unfold cAddOpt; rw [if_neg (by omega)]; exact ⟨s0, s1, s2, s3, s4, s5⟩) Fr.rfl
      · refine A.il7_4 d3_addOption_38 ?_
        refine A.iconst d3_addOption_40 ?_
        refine A.imul d3_addOption_41 ?_
        refine A.il7_5 d3_addOption_42 ?_
        refine A.iadd d3_addOption_44 ?_
        refine A.iconst d3_addOption_45 ?_
        refine A.imul d3_addOption_46 ?_
        refine A.is7_6 d3_addOption_47 ?_
        refine A.al7_0 d3_addOption_49 ?_
        refine A.getf d3_addOption_50 ?_ (hc := s0)
        refine A.il7_6 d3_addOption_53 ?_
        refine A.iconst d3_addOption_55 ?_
        refine A.iadd d3_addOption_56 ?_
        refine A.il7_1 d3_addOption_57 ?_
        refine A.iast d3_addOption_58 (fun h58 e58 f58 => ?_) (hc := s5)
        first | (have s0 := (f58.2 _ (by omega)).trans s0) | (have s0 := e58)
        first | (have s1 := (f58.2 _ (by omega)).trans s1) | (have s1 := e58)
        first | (have s2 := (f58.2 _ (by omega)).trans s2) | (have s2 := e58)
        first | (have s3 := (f58.2 _ (by omega)).trans s3) | (have s3 := e58)
        first | (have s4 := (f58.2 _ (by omega)).trans s4) | (have s4 := e58)
        first | (have s5 := (f58.2 _ (by omega)).trans s5) | (have s5 := e58)
        have F58 := f58.wide (a := a) (n := 6) (by omega) (by omega)
        refine A.al7_0 d3_addOption_59 ?_
        refine A.getf d3_addOption_60 ?_ (hc := s0)
        refine A.il7_6 d3_addOption_63 ?_
        refine A.iconst d3_addOption_65 ?_
        refine A.iadd d3_addOption_66 ?_
        refine A.il7_2 d3_addOption_67 ?_
        refine A.iast d3_addOption_68 (fun h68 e68 f68 => ?_) (hc := s5)
        first | (have s0 := (f68.2 _ (by omega)).trans s0) | (have s0 := e68)
        first | (have s1 := (f68.2 _ (by omega)).trans s1) | (have s1 := e68)
        first | (have s2 := (f68.2 _ (by omega)).trans s2) | (have s2 := e68)
        first | (have s3 := (f68.2 _ (by omega)).trans s3) | (have s3 := e68)
        first | (have s4 := (f68.2 _ (by omega)).trans s4) | (have s4 := e68)
        first | (have s5 := (f68.2 _ (by omega)).trans s5) | (have s5 := e68)
        have F68 := F58.then f68 (by omega) (by omega)
        refine A.al7_0 d3_addOption_69 ?_
        refine A.getf d3_addOption_70 ?_ (hc := s0)
        refine A.il7_6 d3_addOption_73 ?_
        refine A.iconst d3_addOption_75 ?_
        refine A.iadd d3_addOption_76 ?_
        refine A.il7_3 d3_addOption_77 ?_
        refine A.iast d3_addOption_78 (fun h78 e78 f78 => ?_) (hc := s5)
        first | (have s0 := (f78.2 _ (by omega)).trans s0) | (have s0 := e78)
        first | (have s1 := (f78.2 _ (by omega)).trans s1) | (have s1 := e78)
        first | (have s2 := (f78.2 _ (by omega)).trans s2) | (have s2 := e78)
        first | (have s3 := (f78.2 _ (by omega)).trans s3) | (have s3 := e78)
        first | (have s4 := (f78.2 _ (by omega)).trans s4) | (have s4 := e78)
        first | (have s5 := (f78.2 _ (by omega)).trans s5) | (have s5 := e78)
        have F78 := F68.then f78 (by omega) (by omega)
        refine A.al7_0 d3_addOption_79 ?_
        refine A.getf d3_addOption_80 ?_ (hc := s0)
        refine A.il7_4 d3_addOption_83 ?_
        refine A.il7_5 d3_addOption_85 ?_
        refine A.iconst d3_addOption_87 ?_
        refine A.iadd d3_addOption_88 ?_
        refine A.iast d3_addOption_89 (fun h89 e89 f89 => ?_) (hc := s4)
        first | (have s0 := (f89.2 _ (by omega)).trans s0) | (have s0 := e89)
        first | (have s1 := (f89.2 _ (by omega)).trans s1) | (have s1 := e89)
        first | (have s2 := (f89.2 _ (by omega)).trans s2) | (have s2 := e89)
        first | (have s3 := (f89.2 _ (by omega)).trans s3) | (have s3 := e89)
        first | (have s4 := (f89.2 _ (by omega)).trans s4) | (have s4 := e89)
        first | (have s5 := (f89.2 _ (by omega)).trans s5) | (have s5 := e89)
        have F89 := F78.then f89 (by omega) (by omega)
        refine A.vret d3_addOption_90 ?_
        first | exact k _ (by unfold cAddOpt; rw [if_pos (by omega)]; exact ⟨s0, s1, s2, s3, s4, s5⟩) F89 | exact k _ (by unfold cAddOpt; rw [if_neg (by omega)]; exact ⟨s0, s1, s2, s3, s4, s5⟩) Fr.rfl
  · unfold cHas at c14
    refine A.vret d3_addOption_17 ?_
    first | exact k _ (by unfold cAddOpt; rw [if_pos (by omega)]; exact ⟨s0, s1, s2, s3, s4, s5⟩) None | exact k _ (by unfold cAddOpt; rw [if_neg (by omega)]; exact ⟨s0, s1, s2, s3, s4, s5⟩) Fr.rfl
