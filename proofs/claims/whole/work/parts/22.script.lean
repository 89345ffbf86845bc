/-! ===== Script: writes ===== -/
def cAddNode (S : SC) (kd : Int) : SC := if S.1 < 29 then (S.1 + 1, fset S.2.1 S.1 kd, fset S.2.2.1 S.1 0, S.2.2.2.1, fset S.2.2.2.2.1 S.1 0, S.2.2.2.2.2) else S
def cAddNum (S : SC) (v : Int) : SC := if (0 ≤ S.1 - 1 ∧ S.1 - 1 < S.1 ∧ S.1 - 1 < 29) ∧ S.2.2.1 (S.1 - 1) < 3 then (S.1, S.2.1, fset S.2.2.1 (S.1 - 1) (S.2.2.1 (S.1 - 1) + 1), fset S.2.2.2.1 ((S.1 - 1) * 3 + S.2.2.1 (S.1 - 1)) v, S.2.2.2.2.1, S.2.2.2.2.2) else S
def cAddOpt (S : SC) (t l f : Int) : SC := if (0 ≤ S.1 - 1 ∧ S.1 - 1 < S.1 ∧ S.1 - 1 < 29) ∧ S.2.2.2.2.1 (S.1 - 1) < 4 then (S.1, S.2.1, S.2.2.1, S.2.2.2.1, fset S.2.2.2.2.1 (S.1 - 1) (S.2.2.2.2.1 (S.1 - 1) + 1),
  fset (fset (fset S.2.2.2.2.2 (((S.1 - 1) * 4 + S.2.2.2.2.1 (S.1 - 1)) * 3 + 0) t) (((S.1 - 1) * 4 + S.2.2.2.2.1 (S.1 - 1)) * 3 + 1) l) (((S.1 - 1) * 4 + S.2.2.2.2.1 (S.1 - 1)) * 3 + 2) f) else S
set_option maxRecDepth 100000 in
set_option maxHeartbeats 4000000 in
theorem s3_clear {d : Nat} {h : AH} {R : RP} {a : Nat} {S : SC} (hS : scAt h a S) (hI : scI S) (k : ∀ h', scAt h' a (0, S.2) → Fr h h' a 6 → R none h') : AM m3_clear (d) h [vR a] R := by
  refine AM.of (L := [some (vR a)]) ok_3_clear (by decide) (fun G => Nat.le_of_ble_eq_true rfl) rfl ?_
  obtain ⟨s0, s1, s2, s3, s4, s5⟩ := hS
  refine A.al1_0 d3_clear_0 ?_
  refine A.iconst d3_clear_1 ?_
  refine A.putf d3_clear_2 (fun h2 e2 f2 => ?_) (hc := s0) (hk := blt_ok rfl)
  first | (have s0 := (f2.2 _ (by omega)).trans s0) | (have s0 := e2)
  first | (have s1 := (f2.2 _ (by omega)).trans s1) | (have s1 := e2)
  first | (have s2 := (f2.2 _ (by omega)).trans s2) | (have s2 := e2)
  first | (have s3 := (f2.2 _ (by omega)).trans s3) | (have s3 := e2)
  first | (have s4 := (f2.2 _ (by omega)).trans s4) | (have s4 := e2)
  first | (have s5 := (f2.2 _ (by omega)).trans s5) | (have s5 := e2)
  have F2 := f2.wide (a := a) (n := 6) (by omega) (by omega)
  refine A.vret d3_clear_5 ?_
  exact k _ ⟨s0, s1, s2, s3, s4, s5⟩ F2
set_option maxRecDepth 100000 in
set_option maxHeartbeats 4000000 in
theorem s3_addNode {d : Nat} {h : AH} {R : RP} {kd : Int} {a : Nat} {S : SC} (hS : scAt h a S) (hI : scI S) (k : ∀ h', scAt h' a (cAddNode S kd) → Fr h h' a 6 → R none h') : AM m3_addNode (d) h [vR a, vI kd] R := by
  refine AM.of (L := [some (vR a), some (vI kd)]) ok_3_addNode (by decide) (fun G => Nat.le_of_ble_eq_true rfl) rfl ?_
  obtain ⟨s0, s1, s2, s3, s4, s5⟩ := hS
  have hI1 := hI.1
  have hI2 := hI.2.1
  refine A.al2_0 d3_addNode_0 ?_
  refine A.getf d3_addNode_1 ?_ (hc := s0)
  refine A.bipush d3_addNode_4 ?_
  refine A.ic_ge d3_addNode_6 (fun c6 => ?_) (fun c6 => ?_)
  · refine A.vret d3_addNode_49 ?_
    first | exact k _ (by unfold cAddNode; rw [if_pos (by omega)]; exact ⟨s0, s1, s2, s3, s4, s5⟩) None | exact k _ (by unfold cAddNode; rw [if_neg (by omega)]; exact ⟨s0, s1, s2, s3, s4, s5⟩) Fr.rfl
  · refine A.al2_0 d3_addNode_9 ?_
    refine A.getf d3_addNode_10 ?_ (hc := s0)
    refine A.al2_0 d3_addNode_13 ?_
    refine A.getf d3_addNode_14 ?_ (hc := s0)
    refine A.il2_1 d3_addNode_17 ?_
    refine A.iast d3_addNode_18 (fun h18 e18 f18 => ?_) (hc := s1)
    first | (have s0 := (f18.2 _ (by omega)).trans s0) | (have s0 := e18)
    first | (have s1 := (f18.2 _ (by omega)).trans s1) | (have s1 := e18)
    first | (have s2 := (f18.2 _ (by omega)).trans s2) | (have s2 := e18)
    first | (have s3 := (f18.2 _ (by omega)).trans s3) | (have s3 := e18)
    first | (have s4 := (f18.2 _ (by omega)).trans s4) | (have s4 := e18)
    first | (have s5 := (f18.2 _ (by omega)).trans s5) | (have s5 := e18)
    have F18 := f18.wide (a := a) (n := 6) (by omega) (by omega)
    refine A.al2_0 d3_addNode_19 ?_
    refine A.getf d3_addNode_20 ?_ (hc := s0)
    refine A.al2_0 d3_addNode_23 ?_
    refine A.getf d3_addNode_24 ?_ (hc := s0)
    refine A.iconst d3_addNode_27 ?_
    refine A.iast d3_addNode_28 (fun h28 e28 f28 => ?_) (hc := s2)
    first | (have s0 := (f28.2 _ (by omega)).trans s0) | (have s0 := e28)
    first | (have s1 := (f28.2 _ (by omega)).trans s1) | (have s1 := e28)
    first | (have s2 := (f28.2 _ (by omega)).trans s2) | (have s2 := e28)
    first | (have s3 := (f28.2 _ (by omega)).trans s3) | (have s3 := e28)
    first | (have s4 := (f28.2 _ (by omega)).trans s4) | (have s4 := e28)
    first | (have s5 := (f28.2 _ (by omega)).trans s5) | (have s5 := e28)
    have F28 := F18.then f28 (by omega) (by omega)
    refine A.al2_0 d3_addNode_29 ?_
    refine A.getf d3_addNode_30 ?_ (hc := s0)
    refine A.al2_0 d3_addNode_33 ?_
    refine A.getf d3_addNode_34 ?_ (hc := s0)
    refine A.iconst d3_addNode_37 ?_
    refine A.iast d3_addNode_38 (fun h38 e38 f38 => ?_) (hc := s4)
    first | (have s0 := (f38.2 _ (by omega)).trans s0) | (have s0 := e38)
    first | (have s1 := (f38.2 _ (by omega)).trans s1) | (have s1 := e38)
    first | (have s2 := (f38.2 _ (by omega)).trans s2) | (have s2 := e38)
    first | (have s3 := (f38.2 _ (by omega)).trans s3) | (have s3 := e38)
    first | (have s4 := (f38.2 _ (by omega)).trans s4) | (have s4 := e38)
    first | (have s5 := (f38.2 _ (by omega)).trans s5) | (have s5 := e38)
    have F38 := F28.then f38 (by omega) (by omega)
    refine A.al2_0 d3_addNode_39 ?_
    refine A.dup d3_addNode_40 ?_
    refine A.getf d3_addNode_41 ?_ (hc := s0)
    refine A.iconst d3_addNode_44 ?_
    refine A.iadd d3_addNode_45 ?_
    refine A.putf d3_addNode_46 (fun h46 e46 f46 => ?_) (hc := s0) (hk := blt_ok rfl)
    first | (have s0 := (f46.2 _ (by omega)).trans s0) | (have s0 := e46)
    first | (have s1 := (f46.2 _ (by omega)).trans s1) | (have s1 := e46)
    first | (have s2 := (f46.2 _ (by omega)).trans s2) | (have s2 := e46)
    first | (have s3 := (f46.2 _ (by omega)).trans s3) | (have s3 := e46)
    first | (have s4 := (f46.2 _ (by omega)).trans s4) | (have s4 := e46)
    first | (have s5 := (f46.2 _ (by omega)).trans s5) | (have s5 := e46)
    have F46 := F38.then f46 (by omega) (by omega)
    refine A.vret d3_addNode_49 ?_
    first | exact k _ (by unfold cAddNode; rw [if_pos (by omega)]; exact ⟨s0, s1, s2, s3, s4, s5⟩) F46 | exact k _ (by unfold cAddNode; rw [if_neg (by omega)]; exact ⟨s0, s1, s2, s3, s4, s5⟩) Fr.rfl
set_option maxRecDepth 100000 in
set_option maxHeartbeats 4000000 in
theorem s3_addNumber {d : Nat} {h : AH} {R : RP} {v : Int} {a : Nat} {S : SC} (hS : scAt h a S) (hI : scI S) (k : ∀ h', scAt h' a (cAddNum S v) → Fr h h' a 6 → R none h') : AM m3_addNumber (d + 1) h [vR a, vI v] R := by
  refine AM.of (L := [some (vR a), some (vI v), none]) ok_3_addNumber (by decide) (fun G => Nat.le_of_ble_eq_true rfl) rfl ?_
  obtain ⟨s0, s1, s2, s3, s4, s5⟩ := hS
  have hI1 := hI.1
  have hI2 := hI.2.1
  have hI3 := hI.2.2 (S.1 - 1)
  refine A.al3_0 d3_addNumber_0 ?_
  refine A.getf d3_addNumber_1 ?_ (hc := s0)
  refine A.iconst d3_addNumber_4 ?_
  refine A.isub d3_addNumber_5 ?_
  refine A.is3_2 d3_addNumber_6 ?_
  refine A.al3_0 d3_addNumber_7 ?_
  refine A.il3_2 d3_addNumber_8 ?_
  refine A.v1 d3_addNumber_9 (s3_has ⟨s0, s1, s2, s3, s4, s5⟩ (kS ?_)) (hc := s0)
  try unfold cHas at *
  refine A.bz_eq d3_addNumber_12 (fun c12 => ?_) (fun c12 => ?_)
  · refine A.vret d3_addNumber_51 ?_
    first | exact k _ (by unfold cAddNum; rw [if_pos (by omega)]; exact ⟨s0, s1, s2, s3, s4, s5⟩) None | exact k _ (by unfold cAddNum; rw [if_neg (by omega)]; exact ⟨s0, s1, s2, s3, s4, s5⟩) Fr.rfl
  · refine A.al3_0 d3_addNumber_15 ?_
    refine A.getf d3_addNumber_16 ?_ (hc := s0)
    refine A.il3_2 d3_addNumber_19 ?_
    refine A.iald d3_addNumber_20 ?_ (hc := s2)
    refine A.iconst d3_addNumber_21 ?_
    refine A.ic_ge d3_addNumber_22 (fun c22 => ?_) (fun c22 => ?_)
    · refine A.vret d3_addNumber_51 ?_
      first | exact k _ (by unfold cAddNum; rw [if_pos (by omega)]; exact ⟨s0, s1, s2, s3, s4, s5⟩) None | exact k _ (by unfold cAddNum; rw [if_neg (by omega)]; exact ⟨s0, s1, s2, s3, s4, s5⟩) Fr.rfl
    · refine A.al3_0 d3_addNumber_25 ?_
      refine A.getf d3_addNumber_26 ?_ (hc := s0)
      refine A.il3_2 d3_addNumber_29 ?_
      refine A.iconst d3_addNumber_30 ?_
      refine A.imul d3_addNumber_31 ?_
      refine A.al3_0 d3_addNumber_32 ?_
      refine A.getf d3_addNumber_33 ?_ (hc := s0)
      refine A.il3_2 d3_addNumber_36 ?_
      refine A.iald d3_addNumber_37 ?_ (hc := s2)
      refine A.iadd d3_addNumber_38 ?_
      refine A.il3_1 d3_addNumber_39 ?_
      refine A.iast d3_addNumber_40 (fun h40 e40 f40 => ?_) (hc := s3)
      first | (have s0 := (f40.2 _ (by omega)).trans s0) | (have s0 := e40)
      first | (have s1 := (f40.2 _ (by omega)).trans s1) | (have s1 := e40)
      first | (have s2 := (f40.2 _ (by omega)).trans s2) | (have s2 := e40)
      first | (have s3 := (f40.2 _ (by omega)).trans s3) | (have s3 := e40)
      first | (have s4 := (f40.2 _ (by omega)).trans s4) | (have s4 := e40)
      first | (have s5 := (f40.2 _ (by omega)).trans s5) | (have s5 := e40)
      have F40 := f40.wide (a := a) (n := 6) (by omega) (by omega)
      refine A.al3_0 d3_addNumber_41 ?_
      refine A.getf d3_addNumber_42 ?_ (hc := s0)
      refine A.il3_2 d3_addNumber_45 ?_
      refine A.dup2 d3_addNumber_46 ?_
      refine A.iald d3_addNumber_47 ?_ (hc := s2)
      refine A.iconst d3_addNumber_48 ?_
      refine A.iadd d3_addNumber_49 ?_
      refine A.iast d3_addNumber_50 (fun h50 e50 f50 => ?_) (hc := s2)
      first | (have s0 := (f50.2 _ (by omega)).trans s0) | (have s0 := e50)
      first | (have s1 := (f50.2 _ (by omega)).trans s1) | (have s1 := e50)
      first | (have s2 := (f50.2 _ (by omega)).trans s2) | (have s2 := e50)
      first | (have s3 := (f50.2 _ (by omega)).trans s3) | (have s3 := e50)
      first | (have s4 := (f50.2 _ (by omega)).trans s4) | (have s4 := e50)
      first | (have s5 := (f50.2 _ (by omega)).trans s5) | (have s5 := e50)
      have F50 := F40.then f50 (by omega) (by omega)
      refine A.vret d3_addNumber_51 ?_
      first | exact k _ (by unfold cAddNum; rw [if_pos (by omega)]; exact ⟨s0, s1, s2, s3, s4, s5⟩) F50 | exact k _ (by unfold cAddNum; rw [if_neg (by omega)]; exact ⟨s0, s1, s2, s3, s4, s5⟩) Fr.rfl
set_option maxRecDepth 100000 in
set_option maxHeartbeats 4000000 in
theorem s3_addOption {d : Nat} {h : AH} {R : RP} {t l f : Int} {a : Nat} {S : SC} (hS : scAt h a S) (hI : scI S) (k : ∀ h', scAt h' a (cAddOpt S t l f) → Fr h h' a 6 → R none h') : AM m3_addOption (d + 1) h [vR a, vI t, vI l, vI f] R := by
  refine AM.of (L := [some (vR a), some (vI t), some (vI l), some (vI f), none, none]) ok_3_addOption (by decide) (fun G => Nat.le_of_ble_eq_true rfl) rfl ?_
  obtain ⟨s0, s1, s2, s3, s4, s5⟩ := hS
  have hI1 := hI.1
  have hI2 := hI.2.1
  have hI3 := hI.2.2 (S.1 - 1)
  refine A.al6_0 d3_addOption_0 ?_
  refine A.getf d3_addOption_1 ?_ (hc := s0)
  refine A.iconst d3_addOption_4 ?_
  refine A.isub d3_addOption_5 ?_
  refine A.is6_4 d3_addOption_6 ?_
  refine A.al6_0 d3_addOption_8 ?_
  refine A.il6_4 d3_addOption_9 ?_
  refine A.v1 d3_addOption_11 (s3_has ⟨s0, s1, s2, s3, s4, s5⟩ (kS ?_)) (hc := s0)
  unfold cHas at *
  refine A.bz_eq d3_addOption_14 (fun c14 => ?_) (fun c14 => ?_)
  · refine A.vret d3_addOption_85 ?_
    first | exact k _ (by unfold cAddOpt; rw [if_pos (by omega)]; exact ⟨s0, s1, s2, s3, s4, s5⟩) None | exact k _ (by unfold cAddOpt; rw [if_neg (by omega)]; exact ⟨s0, s1, s2, s3, s4, s5⟩) Fr.rfl
  · refine A.al6_0 d3_addOption_17 ?_
    refine A.getf d3_addOption_18 ?_ (hc := s0)
    refine A.il6_4 d3_addOption_21 ?_
    refine A.iald d3_addOption_23 ?_ (hc := s4)
    refine A.iconst d3_addOption_24 ?_
    refine A.ic_ge d3_addOption_25 (fun c25 => ?_) (fun c25 => ?_)
    · refine A.vret d3_addOption_85 ?_
      first | exact k _ (by unfold cAddOpt; rw [if_pos (by omega)]; exact ⟨s0, s1, s2, s3, s4, s5⟩) None | exact k _ (by unfold cAddOpt; rw [if_neg (by omega)]; exact ⟨s0, s1, s2, s3, s4, s5⟩) Fr.rfl
    · refine A.il6_4 d3_addOption_28 ?_
      refine A.iconst d3_addOption_30 ?_
      refine A.imul d3_addOption_31 ?_
      refine A.al6_0 d3_addOption_32 ?_
      refine A.getf d3_addOption_33 ?_ (hc := s0)
      refine A.il6_4 d3_addOption_36 ?_
      refine A.iald d3_addOption_38 ?_ (hc := s4)
      refine A.iadd d3_addOption_39 ?_
      refine A.iconst d3_addOption_40 ?_
      refine A.imul d3_addOption_41 ?_
      refine A.is6_5 d3_addOption_42 ?_
      refine A.al6_0 d3_addOption_44 ?_
      refine A.getf d3_addOption_45 ?_ (hc := s0)
      refine A.il6_5 d3_addOption_48 ?_
      refine A.iconst d3_addOption_50 ?_
      refine A.iadd d3_addOption_51 ?_
      refine A.il6_1 d3_addOption_52 ?_
      refine A.iast d3_addOption_53 (fun h53 e53 f53 => ?_) (hc := s5)
      first | (have s0 := (f53.2 _ (by omega)).trans s0) | (have s0 := e53)
      first | (have s1 := (f53.2 _ (by omega)).trans s1) | (have s1 := e53)
      first | (have s2 := (f53.2 _ (by omega)).trans s2) | (have s2 := e53)
      first | (have s3 := (f53.2 _ (by omega)).trans s3) | (have s3 := e53)
      first | (have s4 := (f53.2 _ (by omega)).trans s4) | (have s4 := e53)
      first | (have s5 := (f53.2 _ (by omega)).trans s5) | (have s5 := e53)
      have F53 := f53.wide (a := a) (n := 6) (by omega) (by omega)
      refine A.al6_0 d3_addOption_54 ?_
      refine A.getf d3_addOption_55 ?_ (hc := s0)
      refine A.il6_5 d3_addOption_58 ?_
      refine A.iconst d3_addOption_60 ?_
      refine A.iadd d3_addOption_61 ?_
      refine A.il6_2 d3_addOption_62 ?_
      refine A.iast d3_addOption_63 (fun h63 e63 f63 => ?_) (hc := s5)
      first | (have s0 := (f63.2 _ (by omega)).trans s0) | (have s0 := e63)
      first | (have s1 := (f63.2 _ (by omega)).trans s1) | (have s1 := e63)
      first | (have s2 := (f63.2 _ (by omega)).trans s2) | (have s2 := e63)
      first | (have s3 := (f63.2 _ (by omega)).trans s3) | (have s3 := e63)
      first | (have s4 := (f63.2 _ (by omega)).trans s4) | (have s4 := e63)
      first | (have s5 := (f63.2 _ (by omega)).trans s5) | (have s5 := e63)
      have F63 := F53.then f63 (by omega) (by omega)
      refine A.al6_0 d3_addOption_64 ?_
      refine A.getf d3_addOption_65 ?_ (hc := s0)
      refine A.il6_5 d3_addOption_68 ?_
      refine A.iconst d3_addOption_70 ?_
      refine A.iadd d3_addOption_71 ?_
      refine A.il6_3 d3_addOption_72 ?_
      refine A.iast d3_addOption_73 (fun h73 e73 f73 => ?_) (hc := s5)
      first | (have s0 := (f73.2 _ (by omega)).trans s0) | (have s0 := e73)
      first | (have s1 := (f73.2 _ (by omega)).trans s1) | (have s1 := e73)
      first | (have s2 := (f73.2 _ (by omega)).trans s2) | (have s2 := e73)
      first | (have s3 := (f73.2 _ (by omega)).trans s3) | (have s3 := e73)
      first | (have s4 := (f73.2 _ (by omega)).trans s4) | (have s4 := e73)
      first | (have s5 := (f73.2 _ (by omega)).trans s5) | (have s5 := e73)
      have F73 := F63.then f73 (by omega) (by omega)
      refine A.al6_0 d3_addOption_74 ?_
      refine A.getf d3_addOption_75 ?_ (hc := s0)
      refine A.il6_4 d3_addOption_78 ?_
      refine A.dup2 d3_addOption_80 ?_
      refine A.iald d3_addOption_81 ?_ (hc := s4)
      refine A.iconst d3_addOption_82 ?_
      refine A.iadd d3_addOption_83 ?_
      refine A.iast d3_addOption_84 (fun h84 e84 f84 => ?_) (hc := s4)
      first | (have s0 := (f84.2 _ (by omega)).trans s0) | (have s0 := e84)
      first | (have s1 := (f84.2 _ (by omega)).trans s1) | (have s1 := e84)
      first | (have s2 := (f84.2 _ (by omega)).trans s2) | (have s2 := e84)
      first | (have s3 := (f84.2 _ (by omega)).trans s3) | (have s3 := e84)
      first | (have s4 := (f84.2 _ (by omega)).trans s4) | (have s4 := e84)
      first | (have s5 := (f84.2 _ (by omega)).trans s5) | (have s5 := e84)
      have F84 := F73.then f84 (by omega) (by omega)
      refine A.vret d3_addOption_85 ?_
      first | exact k _ (by unfold cAddOpt; rw [if_pos (by omega)]; exact ⟨s0, s1, s2, s3, s4, s5⟩) F84 | exact k _ (by unfold cAddOpt; rw [if_neg (by omega)]; exact ⟨s0, s1, s2, s3, s4, s5⟩) Fr.rfl
