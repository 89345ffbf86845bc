/-! ===== the class's chart: its methods ===== -/
/-- the Chart's object: reached, waitingCount -/
abbrev cob (c : Nat) (re wc : Int) : AC := kO 0 [vI re, vR (c + 1), vR (c + 2), vR (c + 3), vR (c + 4), vI wc, vR (c + 5), vR (c + 6)]
set_option maxRecDepth 100000 in
set_option maxHeartbeats 4000000 in
theorem s0_isSituation {d : Nat} {h : AH} {R : RP} {v : Int} (k : R (some (vI (bi (0 ≤ v ∧ v < 1984)))) h) : AM m0_isSituation (d) h [vI v] R := by
  refine AM.of (L := [some (vI v)]) ok_0_isSituation (by decide) (fun G => Nat.le_of_ble_eq_true rfl) rfl ?_
  refine A.il1_0 d0_isSituation_0 ?_
  refine A.if_lt d0_isSituation_1 (fun c1 => ?_) (fun c1 => ?_)
  · refine A.iconst d0_isSituation_15 ?_
    refine A.zret d0_isSituation_16 ?_
    first | exact rT k (by omega) | exact rF k (by omega)
  · refine A.il1_0 d0_isSituation_4 ?_
    refine A.sipush d0_isSituation_5 ?_
    refine A.ic_ge d0_isSituation_8 (fun c8 => ?_) (fun c8 => ?_)
    · refine A.iconst d0_isSituation_15 ?_
      refine A.zret d0_isSituation_16 ?_
      first | exact rT k (by omega) | exact rF k (by omega)
    · refine A.iconst d0_isSituation_11 ?_
      refine A.goto d0_isSituation_12 ?_
      refine A.zret d0_isSituation_16 ?_
      first | exact rT k (by omega) | exact rF k (by omega)
set_option maxRecDepth 100000 in
set_option maxHeartbeats 4000000 in
theorem s0_nodeOf {d : Nat} {h : AH} {R : RP} {v : Int} (h0 : 0 ≤ v) (k : R (some (vI (v / 64))) h) : AM m0_nodeOf (d) h [vI v] R := by
  refine AM.of (L := [some (vI v)]) ok_0_nodeOf (by decide) (fun G => Nat.le_of_ble_eq_true rfl) rfl ?_
  refine A.il1_0 d0_nodeOf_0 ?_
  refine A.bipush d0_nodeOf_1 ?_
  refine A.idiv d0_nodeOf_3 ?_
  refine A.iret d0_nodeOf_4 ?_
  exact k
set_option maxRecDepth 100000 in
set_option maxHeartbeats 4000000 in
theorem s0_flagsOf {d : Nat} {h : AH} {R : RP} {v : Int} (h0 : 0 ≤ v) (k : R (some (vI (v % 64))) h) : AM m0_flagsOf (d) h [vI v] R := by
  refine AM.of (L := [some (vI v)]) ok_0_flagsOf (by decide) (fun G => Nat.le_of_ble_eq_true rfl) rfl ?_
  refine A.il1_0 d0_flagsOf_0 ?_
  refine A.bipush d0_flagsOf_1 ?_
  refine A.irem d0_flagsOf_3 ?_
  refine A.iret d0_flagsOf_4 ?_
  exact k
set_option maxRecDepth 100000 in
set_option maxHeartbeats 4000000 in
theorem s5_endIndex {d : Nat} {h : AH} {R : RP} {v : Int} (k : R (some (vI (eIx v))) h) : AM m5_endIndex (d) h [vI v] R := by
  refine AM.of (L := [some (vI v)]) ok_5_endIndex (by decide) (fun G => Nat.le_of_ble_eq_true rfl) rfl ?_
  refine A.il1_0 d5_endIndex_0 ?_
  refine A.bipush d5_endIndex_1 ?_
  refine A.ic_ne d5_endIndex_3 (fun c3 => ?_) (fun c3 => ?_)
  · refine A.il1_0 d5_endIndex_8 ?_
    refine A.bipush d5_endIndex_9 ?_
    refine A.ic_ne d5_endIndex_11 (fun c11 => ?_) (fun c11 => ?_)
    · refine A.il1_0 d5_endIndex_16 ?_
      refine A.if_lt d5_endIndex_17 (fun c17 => ?_) (fun c17 => ?_)
      · refine A.iconst d5_endIndex_32 ?_
        refine A.iret d5_endIndex_33 ?_
        exact rI k (by unfold eIx; (repeat' split) <;> omega)
      · refine A.il1_0 d5_endIndex_20 ?_
        refine A.bipush d5_endIndex_21 ?_
        refine A.ic_gt d5_endIndex_23 (fun c23 => ?_) (fun c23 => ?_)
        · refine A.iconst d5_endIndex_32 ?_
          refine A.iret d5_endIndex_33 ?_
          exact rI k (by unfold eIx; (repeat' split) <;> omega)
        · refine A.il1_0 d5_endIndex_26 ?_
          refine A.iconst d5_endIndex_27 ?_
          refine A.iadd d5_endIndex_28 ?_
          refine A.goto d5_endIndex_29 ?_
          refine A.iret d5_endIndex_33 ?_
          exact rI k (by unfold eIx; (repeat' split) <;> omega)
    · refine A.iconst d5_endIndex_14 ?_
      refine A.iret d5_endIndex_15 ?_
      exact rI k (by unfold eIx; (repeat' split) <;> omega)
  · refine A.iconst d5_endIndex_6 ?_
    refine A.iret d5_endIndex_7 ?_
    exact rI k (by unfold eIx; (repeat' split) <;> omega)
set_option maxRecDepth 100000 in
set_option maxHeartbeats 4000000 in
theorem s0_arrive {d : Nat} {h : AH} {R : RP} {nd fl pa op : Int} {X : CH} {c : Nat} {re wc : Int} {Cc Lc Lo Wa Es : FN} (k0 : h.2 c = some (cob c re wc)) (k1 : h.2 (c + 1) = some (kA 0 1984 Cc)) (k2 : h.2 (c + 2) = some (kA 0 1984 Lc)) (k3 : h.2 (c + 3) = some (kA 0 1984 Lo)) (k4 : h.2 (c + 4) = some (kA 0 1984 Wa)) (k5 : h.2 (c + 5) = some (kA 0 12 Es)) {b : Nat} {S : SC} {B : FN} (hS : scAt h b S) (hd : c + 9 ≤ b ∨ b + 6 ≤ c) (hB : rScr B S) (hX : chI S X) (hC : cC (fset X.1 (sit nd fl) 1, X.2) re wc Cc Lc Lo Wa Es) (hz : X.1 (sit nd fl) = 0) (hst : 0 ≤ sit nd fl ∧ sit nd fl < 1984) (f0 : 0 ≤ fl) (f1 : fl ≤ 63) (hsh : cShown S nd) (hk : cSK S nd ≠ 0) (hp : pa = -11 ∨ (0 ≤ pa ∧ pa < X.2.1)) (ha : atS X Cc Lc Lo (sit nd fl) pa op) (k : ∀ h' wc' Wa' Es', h'.2 c = some (cob c re wc') → h'.2 (c + 4) = some (kA 0 1984 Wa') → h'.2 (c + 5) = some (kA 0 12 Es') → cC (mk S X nd fl pa op) re wc' Cc Lc Lo Wa' Es' → Fr2 h h' c 1 (c + 4) 2 → R none h') : AM m0_arrive (d + 3) h [vR c, vR b, vI (sit nd fl)] R := by
  refine AM.of (L := [some (vR c), some (vR b), some (vI (sit nd fl)), none, none]) ok_0_arrive (by decide) (fun G => Nat.le_of_ble_eq_true rfl) rfl ?_
  have hn : sit nd fl / 64 = nd := by unfold sit; omega
  have skr : cSK S nd = 0 ∨ cSK S nd = 1 ∨ cSK S nd = 2 := by unfold cSK; (repeat' split) <;> omega
  have hwc : wc = X.2.1 := hC.1
  have hxn := hX.1
  have hcs := cntN_set hst.1 hz 1984 hst.2
  have hcs2 := (cntN_le (fset X.1 (sit nd fl) 1) 1984).2
  refine A.il5_2 d0_arrive_0 ?_
  refine A.s1 d0_arrive_1 (s0_nodeOf hst.1 (kS ?_))
  rw [hn]
  refine A.is5_3 d0_arrive_4 ?_
  refine A.al5_1 d0_arrive_5 ?_
  refine A.il5_3 d0_arrive_6 ?_
  refine A.v1 d0_arrive_7 (s3_shownKind hS (kS ?_)) (hc := hS.1)
  refine A.iconst d0_arrive_10 ?_
  refine A.ic_ne d0_arrive_11 (fun c11 => ?_) (fun c11 => ?_)
  · refine A.al5_1 d0_arrive_52 ?_
    refine A.il5_3 d0_arrive_53 ?_
    refine A.v1 d0_arrive_54 (s3_shownNumber hS (kS ?_)) (hc := hS.1)
    refine A.n1 d0_arrive_57 (s5_endIndex (kS ?_))
    refine A.is5_4 d0_arrive_60 ?_
    refine A.il5_4 d0_arrive_62 ?_
    refine A.if_lt d0_arrive_64 (fun c64 => ?_) (fun c64 => ?_)
    · refine A.vret d0_arrive_93 ?_
      have hk2 : cSK S nd = 2 := by omega
      obtain ⟨x1, x2, x3⟩ := ed_eIx (v := cSN S nd) (by have := cSN_rng hB hk2 hsh; unfold isE; omega)
      have h5 := hC.2.2.2.2 (eIx (cSN S nd)) x2 x3
      rw [x1] at h5
      have h5 : (X.2.2.2.2.2.2.1 (3 + cSN S nd) = 0 ∧ Es (eIx (cSN S nd)) = -1) ∨ (X.2.2.2.2.2.2.1 (3 + cSN S nd) = 1 ∧ (0 ≤ Es (eIx (cSN S nd)) ∧ _) ∧ _) := h5
      first
        | (exfalso; omega)
        | exact k _ _ _ _ k0 k4 k5 (cC_end hC hk2 (by omega) x1 hst x2 x3 ha) (Fr2.rfl.trans (f92.two2 (by omega) (by omega)))
        | exact k _ _ _ _ k0 k4 k5 (by rw [mk2n hk2 (by omega)]; exact hC) Fr2.rfl
    · refine A.il5_4 d0_arrive_67 ?_
      refine A.bipush d0_arrive_69 ?_
      refine A.ic_ge d0_arrive_71 (fun c71 => ?_) (fun c71 => ?_)
      · refine A.vret d0_arrive_93 ?_
        have hk2 : cSK S nd = 2 := by omega
        obtain ⟨x1, x2, x3⟩ := ed_eIx (v := cSN S nd) (by have := cSN_rng hB hk2 hsh; unfold isE; omega)
        have h5 := hC.2.2.2.2 (eIx (cSN S nd)) x2 x3
        rw [x1] at h5
        have h5 : (X.2.2.2.2.2.2.1 (3 + cSN S nd) = 0 ∧ Es (eIx (cSN S nd)) = -1) ∨ (X.2.2.2.2.2.2.1 (3 + cSN S nd) = 1 ∧ (0 ≤ Es (eIx (cSN S nd)) ∧ _) ∧ _) := h5
        first
          | (exfalso; omega)
          | exact k _ _ _ _ k0 k4 k5 (cC_end hC hk2 (by omega) x1 hst x2 x3 ha) (Fr2.rfl.trans (f92.two2 (by omega) (by omega)))
          | exact k _ _ _ _ k0 k4 k5 (by rw [mk2n hk2 (by omega)]; exact hC) Fr2.rfl
      · refine A.al5_0 d0_arrive_74 ?_
        refine A.getf d0_arrive_75 ?_ (hc := k0)
        refine A.il5_4 d0_arrive_78 ?_
        refine A.iald d0_arrive_80 ?_ (hc := k5)
        refine A.iconst d0_arrive_81 ?_
        refine A.ic_ne d0_arrive_82 (fun c82 => ?_) (fun c82 => ?_)
        · refine A.vret d0_arrive_93 ?_
          have hk2 : cSK S nd = 2 := by omega
          obtain ⟨x1, x2, x3⟩ := ed_eIx (v := cSN S nd) (by have := cSN_rng hB hk2 hsh; unfold isE; omega)
          have h5 := hC.2.2.2.2 (eIx (cSN S nd)) x2 x3
          rw [x1] at h5
          have h5 : (X.2.2.2.2.2.2.1 (3 + cSN S nd) = 0 ∧ Es (eIx (cSN S nd)) = -1) ∨ (X.2.2.2.2.2.2.1 (3 + cSN S nd) = 1 ∧ (0 ≤ Es (eIx (cSN S nd)) ∧ _) ∧ _) := h5
          first
            | (exfalso; omega)
            | exact k _ _ _ _ k0 k4 k5 (cC_end hC hk2 (by omega) x1 hst x2 x3 ha) (Fr2.rfl.trans (f92.two2 (by omega) (by omega)))
            | exact k _ _ _ _ k0 k4 k5 (by rw [mk2n hk2 (by omega)]; exact hC) Fr2.rfl
        · refine A.al5_0 d0_arrive_85 ?_
          refine A.getf d0_arrive_86 ?_ (hc := k0)
          refine A.il5_4 d0_arrive_89 ?_
          refine A.il5_2 d0_arrive_91 ?_
          refine A.iast d0_arrive_92 (fun h92 e92 f92 => ?_) (hc := k5)
          first | (have k0 := (f92.2 _ (by omega)).trans k0) | (have k0 := e92)
          first | (have k4 := (f92.2 _ (by omega)).trans k4) | (have k4 := e92)
          first | (have k5 := (f92.2 _ (by omega)).trans k5) | (have k5 := e92)
          refine A.vret d0_arrive_93 ?_
          have hk2 : cSK S nd = 2 := by omega
          obtain ⟨x1, x2, x3⟩ := ed_eIx (v := cSN S nd) (by have := cSN_rng hB hk2 hsh; unfold isE; omega)
          have h5 := hC.2.2.2.2 (eIx (cSN S nd)) x2 x3
          rw [x1] at h5
          have h5 : (X.2.2.2.2.2.2.1 (3 + cSN S nd) = 0 ∧ Es (eIx (cSN S nd)) = -1) ∨ (X.2.2.2.2.2.2.1 (3 + cSN S nd) = 1 ∧ (0 ≤ Es (eIx (cSN S nd)) ∧ _) ∧ _) := h5
          first
            | (exfalso; omega)
            | exact k _ _ _ _ k0 k4 k5 (cC_end hC hk2 (by omega) x1 hst x2 x3 ha) (Fr2.rfl.trans (f92.two2 (by omega) (by omega)))
            | exact k _ _ _ _ k0 k4 k5 (by rw [mk2n hk2 (by omega)]; exact hC) Fr2.rfl
  · refine A.al5_0 d0_arrive_14 ?_
    refine A.getf d0_arrive_15 ?_ (hc := k0)
    refine A.if_lt d0_arrive_18 (fun c18 => ?_) (fun c18 => ?_)
    · refine A.vret d0_arrive_51 ?_
      first
        | exact k _ _ _ _ k0 k4 k5 (cC_push hX hC c11 ha hp) ((Fr2.rfl.trans (f40.two2 (by omega) (by omega))).trans (f48.two1 (by omega) (by omega)))
        | (exfalso; omega)
    · refine A.al5_0 d0_arrive_21 ?_
      refine A.getf d0_arrive_22 ?_ (hc := k0)
      refine A.sipush d0_arrive_25 ?_
      refine A.ic_ge d0_arrive_28 (fun c28 => ?_) (fun c28 => ?_)
      · refine A.vret d0_arrive_51 ?_
        first
          | exact k _ _ _ _ k0 k4 k5 (cC_push hX hC c11 ha hp) ((Fr2.rfl.trans (f40.two2 (by omega) (by omega))).trans (f48.two1 (by omega) (by omega)))
          | (exfalso; omega)
      · refine A.al5_0 d0_arrive_31 ?_
        refine A.getf d0_arrive_32 ?_ (hc := k0)
        refine A.al5_0 d0_arrive_35 ?_
        refine A.getf d0_arrive_36 ?_ (hc := k0)
        refine A.il5_2 d0_arrive_39 ?_
        refine A.iast d0_arrive_40 (fun h40 e40 f40 => ?_) (hc := k4)
        first | (have k0 := (f40.2 _ (by omega)).trans k0) | (have k0 := e40)
        first | (have k4 := (f40.2 _ (by omega)).trans k4) | (have k4 := e40)
        first | (have k5 := (f40.2 _ (by omega)).trans k5) | (have k5 := e40)
        refine A.al5_0 d0_arrive_41 ?_
        refine A.dup d0_arrive_42 ?_
        refine A.getf d0_arrive_43 ?_ (hc := k0)
        refine A.iconst d0_arrive_46 ?_
        refine A.iadd d0_arrive_47 ?_
        refine A.putf d0_arrive_48 (fun h48 e48 f48 => ?_) (hc := k0) (hk := blt_ok rfl)
        first | (have k0 := (f48.2 _ (by omega)).trans k0) | (have k0 := e48)
        first | (have k4 := (f48.2 _ (by omega)).trans k4) | (have k4 := e48)
        first | (have k5 := (f48.2 _ (by omega)).trans k5) | (have k5 := e48)
        refine A.vret d0_arrive_51 ?_
        first
          | exact k _ _ _ _ k0 k4 k5 (cC_push hX hC c11 ha hp) ((Fr2.rfl.trans (f40.two2 (by omega) (by omega))).trans (f48.two1 (by omega) (by omega)))
          | (exfalso; omega)
