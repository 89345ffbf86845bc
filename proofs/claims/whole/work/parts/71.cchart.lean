/-! ===== the class's chart: what it tells ===== -/
noncomputable def wtC (S : SC) (i j : Int) : Int := if stR (drawn S) (edI i) = -11 ∨ stR (drawn S) (edI i) ≤ j then -11 else stepW (drawn S) (stR (drawn S) (edI i) - 1 - j).toNat ((drawn S).2.2.2.2.2.2.2.2 (3 + edI i)) ((drawn S).2.2.2.2.2.2.2.1 (3 + edI i))
theorem cC_es {S : SC} {re wc i : Int} {Cc Lc Lo Wa Es : FN} (hC : cC (drawn S) re wc Cc Lc Lo Wa Es) (i0 : 0 ≤ i) (i1 : i < 12) : (((drawn S).2.2.2.2.2.2.1 (3 + edI i) = 0 ∧ stR (drawn S) (edI i) = -11) ∧ Es i = -1) ∨ (((drawn S).2.2.2.2.2.2.1 (3 + edI i) = 1 ∧ stR (drawn S) (edI i) = cl (drawn S) ((drawn S).2.2.2.2.2.2.2.1 (3 + edI i))) ∧ (0 ≤ Es i ∧ Es i < 1984) ∧ Cc (Es i) = stR (drawn S) (edI i) ∧ atS (drawn S) Cc Lc Lo (Es i) ((drawn S).2.2.2.2.2.2.2.1 (3 + edI i)) ((drawn S).2.2.2.2.2.2.2.2 (3 + edI i))) := by
  rcases hC.2.2.2.2 i i0 i1 with ⟨a, b⟩ | ⟨a, b, c, e⟩
  · exact Or.inl ⟨⟨a, if_pos a⟩, b⟩
  · have s : stR (drawn S) (edI i) = cl (drawn S) ((drawn S).2.2.2.2.2.2.2.1 (3 + edI i)) := if_neg (by omega)
    exact Or.inr ⟨⟨a, s⟩, b, e.1.trans s.symm, e⟩
set_option maxRecDepth 100000 in
set_option maxHeartbeats 4000000 in
theorem s0_wayLength {d : Nat} {h : AH} {R : RP} {i : Int} {S : SC} {c : Nat} {re wc : Int} {Cc Lc Lo Wa Es : FN} (k0 : h.2 c = some (cob c re wc)) (k1 : h.2 (c + 1) = some (kA 0 1984 Cc)) (k2 : h.2 (c + 2) = some (kA 0 1984 Lc)) (k3 : h.2 (c + 3) = some (kA 0 1984 Lo)) (k4 : h.2 (c + 4) = some (kA 0 1984 Wa)) (k5 : h.2 (c + 5) = some (kA 0 12 Es)) (hC : cC (drawn S) re wc Cc Lc Lo Wa Es) (i0 : 0 ≤ i) (i1 : i < 12) (k : R (some (vI (stR (drawn S) (edI i)))) h) : AM m0_wayLength (d + 1) h [vR c, vI i] R := by
  refine AM.of (L := [some (vR c), some (vI i)]) ok_0_wayLength (by decide) (fun G => Nat.le_of_ble_eq_true rfl) rfl ?_
  have h5 := cC_es hC i0 i1
  have h5a : (stR (drawn S) (edI i) = -11 ∧ Es i = -1) ∨ ((0 ≤ Es i ∧ Es i < 1984) ∧ Cc (Es i) = stR (drawn S) (edI i)) := h5.elim (fun z => Or.inl ⟨z.1.2, z.2⟩) (fun z => Or.inr ⟨z.2.1, z.2.2.1⟩)
  refine A.il2_1 d0_wayLength_0 ?_
  refine A.if_lt d0_wayLength_1 (fun c1 => ?_) (fun c1 => ?_)
  · refine A.bipush d0_wayLength_22 ?_
    refine A.iret d0_wayLength_24 ?_
    first | (exfalso; omega) | exact rI k (by omega)
  · refine A.il2_1 d0_wayLength_4 ?_
    refine A.bipush d0_wayLength_5 ?_
    refine A.ic_ge d0_wayLength_7 (fun c7 => ?_) (fun c7 => ?_)
    · refine A.bipush d0_wayLength_22 ?_
      refine A.iret d0_wayLength_24 ?_
      first | (exfalso; omega) | exact rI k (by omega)
    · refine A.al2_0 d0_wayLength_10 ?_
      refine A.getf d0_wayLength_11 ?_ (hc := k0)
      refine A.il2_1 d0_wayLength_14 ?_
      refine A.iald d0_wayLength_15 ?_ (hc := k5)
      refine A.s1 d0_wayLength_16 (s0_isSituation (kS ?_))
      refine A.bz_ne d0_wayLength_19 (fun c19 => ?_) (fun c19 => ?_)
      · refine A.al2_0 d0_wayLength_25 ?_
        refine A.getf d0_wayLength_26 ?_ (hc := k0)
        refine A.al2_0 d0_wayLength_29 ?_
        refine A.getf d0_wayLength_30 ?_ (hc := k0)
        refine A.il2_1 d0_wayLength_33 ?_
        refine A.iald d0_wayLength_34 ?_ (hc := k5)
        refine A.iald d0_wayLength_35 ?_ (hc := k1)
        refine A.iret d0_wayLength_36 ?_
        first | (exfalso; omega) | exact rI k (by omega)
      · refine A.bipush d0_wayLength_22 ?_
        refine A.iret d0_wayLength_24 ?_
        first | (exfalso; omega) | exact rI k (by omega)
set_option maxRecDepth 100000 in
set_option maxHeartbeats 4000000 in
theorem s0_wayChoice {d : Nat} {h : AH} {R : RP} {i j : Int} {B : FN} {S : SC} {c : Nat} {re wc : Int} {Cc Lc Lo Wa Es : FN} (k0 : h.2 c = some (cob c re wc)) (k1 : h.2 (c + 1) = some (kA 0 1984 Cc)) (k2 : h.2 (c + 2) = some (kA 0 1984 Lc)) (k3 : h.2 (c + 3) = some (kA 0 1984 Lo)) (k4 : h.2 (c + 4) = some (kA 0 1984 Wa)) (k5 : h.2 (c + 5) = some (kA 0 12 Es)) (hC : cC (drawn S) re wc Cc Lc Lo Wa Es) (hB : rScr B S) (i0 : 0 ≤ i) (i1 : i < 12) (j0 : 0 ≤ j) (k : R (some (vI (wtC S i j))) h) : AM m0_wayChoice (d + 2) h [vR c, vI i, vI j] R := by
  refine AM.of (L := [some (vR c), some (vI i), some (vI j), none, none, none]) ok_0_wayChoice (by decide) (fun G => Nat.le_of_ble_eq_true rfl) rfl ?_
  have h5 := cC_es hC i0 i1
  have h5a : (stR (drawn S) (edI i) = -11 ∧ Es i = -1) ∨ ((0 ≤ Es i ∧ Es i < 1984) ∧ Cc (Es i) = stR (drawn S) (edI i)) := h5.elim (fun z => Or.inl ⟨z.1.2, z.2⟩) (fun z => Or.inr ⟨z.2.1, z.2.2.1⟩)
  have hX : chI S (drawn S) := chI_out hB 1984
  have hlc := (cntN_le (drawn S).1 1984).2
  have hXn := hX.1
  have loop : ∀ (nf : Nat) (t : Nat) (s pa its : Int) (hj : stR (drawn S) (edI i) ≠ -11 ∧ j < stR (drawn S) (edI i)) (hs : 0 ≤ s ∧ s < 1984) (ha : atS (drawn S) Cc Lc Lo s pa its) (hpa : 0 ≤ pa ∧ pa < (drawn S).2.1) (hcl : cl (drawn S) pa = j + t + 1) (hw : stepW (drawn S) (stR (drawn S) (edI i) - 1 - j).toNat ((drawn S).2.2.2.2.2.2.2.2 (3 + edI i)) ((drawn S).2.2.2.2.2.2.2.1 (3 + edI i)) = stepW (drawn S) t its pa) (hn : t < nf), AW m0_wayChoice (d + 2) (mC m0_wayChoice, mS m0_wayChoice) 31 [some (vR c), some (vI i), some (vI j), some (vI (stR (drawn S) (edI i))), some (vI s), some (vI (j + t))] [] h R := by
    intro nf
    induction nf with
    | zero => intro t  s pa its  hj hs ha hpa hcl hw hn; omega
    | succ nf ih =>
      intro t  s pa its  hj hs ha hpa hcl hw hn
      have hX : chI S (drawn S) := chI_out hB 1984
      have hXn := hX.1
      have hls : Lc s = (drawn S).2.2.1 pa := ha.2.1.trans (if_neg (by omega))
      have hlo : Lo s = its := ha.2.2 (by omega)
      have hlc := (cntN_le (drawn S).1 1984).2
      have hclr := cl_rng hX (Or.inr hpa)
      refine A.il6_5 d0_wayChoice_31 ?_
      refine A.il6_2 d0_wayChoice_33 ?_
      refine A.ic_le d0_wayChoice_34 (fun c34 => ?_) (fun c34 => ?_)
      · refine A.il6_4 d0_wayChoice_60 ?_
        refine A.s1 d0_wayChoice_62 (s0_isSituation (kS ?_))
        refine A.bz_eq d0_wayChoice_65 (fun c65 => absurd hs c65) (fun c65 => ?_)
        refine A.al6_0 d0_wayChoice_68 ?_
        refine A.getf d0_wayChoice_69 ?_ (hc := k0)
        refine A.il6_4 d0_wayChoice_72 ?_
        refine A.iald d0_wayChoice_74 ?_ (hc := k3)
        rw [hlo]
        refine A.goto d0_wayChoice_75 ?_
        refine A.iret d0_wayChoice_80 ?_
        have et : t = 0 := by omega
        subst et
        exact rI k ((if_neg (by omega) : wtC S i j = _).trans hw).symm
      · refine A.il6_4 d0_wayChoice_37 ?_
        refine A.s1 d0_wayChoice_39 (s0_isSituation (kS ?_))
        refine A.bz_eq d0_wayChoice_42 (fun c42 => absurd hs c42) (fun c42 => ?_)
        obtain ⟨t2, rfl⟩ : ∃ t2, t = t2 + 1 := ⟨t - 1, by omega⟩
        obtain ⟨hst, hsr⟩ := cl_step hX hpa.1 hpa.2
        obtain ⟨hq1, -⟩ := hX.2.2.1 pa hpa.1 hpa.2
        have hpf : 0 ≤ (drawn S).2.2.2.1 pa ∧ (drawn S).2.2.2.1 pa < (drawn S).2.1 := by
          rcases hsr with z | z
          · exfalso; have : cl (drawn S) ((drawn S).2.2.2.1 pa) = 0 := if_pos z; omega
          · exact z
        refine A.al6_0 d0_wayChoice_45 ?_
        refine A.getf d0_wayChoice_46 ?_ (hc := k0)
        refine A.il6_4 d0_wayChoice_49 ?_
        refine A.iald d0_wayChoice_51 ?_ (hc := k2)
        rw [hls]
        refine A.is6_4 d0_wayChoice_52 ?_
        refine A.ii6_5 d0_wayChoice_54 ?_
        refine A.goto d0_wayChoice_57 ?_
        have g := ih t2 _ _ _ hj hq1 (hC.2.2.2.1 pa hpa.1 hpa.2).2 hpf (by omega) hw (by omega)
        rw [show j + ((t2 + 1 : Nat) : Int) + -1 = j + t2 by omega]
        exact g
  refine A.al6_0 d0_wayChoice_0 ?_
  refine A.il6_1 d0_wayChoice_1 ?_
  refine A.v1 d0_wayChoice_2 (s0_wayLength k0 k1 k2 k3 k4 k5 hC i0 i1 (kS ?_)) (hc := k0)
  refine A.is6_3 d0_wayChoice_5 ?_
  refine A.il6_2 d0_wayChoice_6 ?_
  refine A.if_lt d0_wayChoice_7 (fun c7 => ?_) (fun c7 => ?_)
  · refine A.bipush d0_wayChoice_15 ?_
    refine A.iret d0_wayChoice_17 ?_
    first | (exfalso; omega) | exact rI k (if_pos (by omega) : wtC S i j = _).symm
  · refine A.il6_2 d0_wayChoice_10 ?_
    refine A.il6_3 d0_wayChoice_11 ?_
    refine A.ic_lt d0_wayChoice_12 (fun c12 => ?_) (fun c12 => ?_)
    · obtain ⟨⟨q1, q2⟩, q3, q4, q5⟩ : (((drawn S).2.2.2.2.2.2.1 (3 + edI i) = 1 ∧ stR (drawn S) (edI i) = cl (drawn S) ((drawn S).2.2.2.2.2.2.2.1 (3 + edI i))) ∧ (0 ≤ Es i ∧ Es i < 1984) ∧ Cc (Es i) = stR (drawn S) (edI i) ∧ atS (drawn S) Cc Lc Lo (Es i) ((drawn S).2.2.2.2.2.2.2.1 (3 + edI i)) ((drawn S).2.2.2.2.2.2.2.2 (3 + edI i))) := by
        rcases h5 with z | z
        · have := z.1.2; omega
        · exact z
      have hpr : 0 ≤ (drawn S).2.2.2.2.2.2.2.1 (3 + edI i) ∧ (drawn S).2.2.2.2.2.2.2.1 (3 + edI i) < (drawn S).2.1 := by
        obtain ⟨r1, -, -⟩ := edI_rng i0 i1
        rcases (hX.2.2.2 (3 + edI i) r1.1 r1.2).2 q1 with z | z
        · exfalso; have : cl (drawn S) ((drawn S).2.2.2.2.2.2.2.1 (3 + edI i)) = 0 := if_pos z; omega
        · exact z
      have hb1 := cl_rng hX (Or.inr hpr)
      refine A.al6_0 d0_wayChoice_18 ?_
      refine A.getf d0_wayChoice_19 ?_ (hc := k0)
      refine A.il6_1 d0_wayChoice_22 ?_
      refine A.iald d0_wayChoice_23 ?_ (hc := k5)
      refine A.is6_4 d0_wayChoice_24 ?_
      refine A.il6_3 d0_wayChoice_26 ?_
      refine A.iconst d0_wayChoice_27 ?_
      refine A.isub d0_wayChoice_28 ?_
      refine A.is6_5 d0_wayChoice_29 ?_
      have g := loop ((stR (drawn S) (edI i) - 1 - j).toNat + 1) _ (Es i) _ _ ⟨by omega, by omega⟩ q3 q5 hpr (by omega) rfl (by omega)
      rw [show j + (((stR (drawn S) (edI i) - 1 - j).toNat : Nat) : Int) = stR (drawn S) (edI i) - 1 by omega] at g
      exact g
    · refine A.bipush d0_wayChoice_15 ?_
      refine A.iret d0_wayChoice_17 ?_
      first | (exfalso; omega) | exact rI k (if_pos (by omega) : wtC S i j = _).symm
set_option maxRecDepth 100000 in
set_option maxHeartbeats 4000000 in
theorem s0_reachedWith {d : Nat} {h : AH} {R : RP} {v : Int} {S : SC} {c : Nat} {re wc : Int} {Cc Lc Lo Wa Es : FN} (k0 : h.2 c = some (cob c re wc)) (k1 : h.2 (c + 1) = some (kA 0 1984 Cc)) (k2 : h.2 (c + 2) = some (kA 0 1984 Lc)) (k3 : h.2 (c + 3) = some (kA 0 1984 Lo)) (k4 : h.2 (c + 4) = some (kA 0 1984 Wa)) (k5 : h.2 (c + 5) = some (kA 0 12 Es)) (hC : cC (drawn S) re wc Cc Lc Lo Wa Es) (v0 : 0 ≤ v) (v1 : v ≤ 30) (k : R (some (vI (cntW (drawn S).1 v 1984))) h) : AM m0_reachedWith (d + 2) h [vR c, vI v] R := by
  refine AM.of (L := [some (vR c), some (vI v), none, none]) ok_0_reachedWith (by decide) (fun G => Nat.le_of_ble_eq_true rfl) rfl ?_
  have loop : ∀ (nf : Nat) (n : Nat) (hi : n ≤ 64) (hn : 64 - n < nf), AW m0_reachedWith (d + 2) (mC m0_reachedWith, mS m0_reachedWith) 4 [some (vR c), some (vI v), some (vI (cntN (fun f => (drawn S).1 (64 * v + f)) n)), some (vI n)] [] h R := by
    intro nf
    induction nf with
    | zero => intro n  hi hn; omega
    | succ nf ih =>
      intro n  hi hn
      have hcn := cntN_le (fun f => (drawn S).1 (64 * v + f)) n
      refine A.il4_3 d0_reachedWith_4 ?_
      refine A.bipush d0_reachedWith_5 ?_
      refine A.ic_ge d0_reachedWith_7 (fun c7 => ?_) (fun c7 => ?_)
      · refine A.il4_2 d0_reachedWith_33 ?_
        refine A.iret d0_reachedWith_34 ?_
        have e : n = 64 := by omega
        subst e
        exact rI k ((cntW_one v0 1984).trans (by congr 1; (repeat' split) <;> omega)).symm
      · have hr := hC.2.2.1 (64 * v + n) (by omega) (by omega)
        refine A.il4_2 d0_reachedWith_10 ?_
        refine A.al4_0 d0_reachedWith_11 ?_
        refine A.il4_1 d0_reachedWith_12 ?_
        refine A.il4_3 d0_reachedWith_13 ?_
        refine A.v2 d0_reachedWith_14 (s0_isReached k0 k1 k2 k3 k4 k5 hC v0 v1 (by omega) (by omega) (kS ?_)) (hc := k0)
        refine A.bz_eq d0_reachedWith_17 (fun c17 => ?_) (fun c17 => ?_)
        · refine A.iconst d0_reachedWith_24 ?_
          refine A.iadd d0_reachedWith_25 ?_
          refine A.is4_2 d0_reachedWith_26 ?_
          refine A.ii4_3 d0_reachedWith_27 ?_
          refine A.goto d0_reachedWith_30 ?_
          have e1 := ih (n + 1) (by omega) (by omega)
          first
            | (rw [show cntN (fun f => (drawn S).1 (64 * v + f)) (n + 1) = cntN (fun f => (drawn S).1 (64 * v + f)) n + 1 from if_neg (by show ¬ (drawn S).1 (64 * v + n) = 0; have c17 : (drawn S).1 (64 * v + n) = 1 := c17; omega)] at e1; exact e1)
            | (rw [show cntN (fun f => (drawn S).1 (64 * v + f)) (n + 1) = cntN (fun f => (drawn S).1 (64 * v + f)) n from if_pos (by show (drawn S).1 (64 * v + n) = 0; have c17 : ¬ (drawn S).1 (64 * v + n) = 1 := c17; omega)] at e1; rw [Int.add_zero]; exact e1)
        · refine A.iconst d0_reachedWith_20 ?_
          refine A.goto d0_reachedWith_21 ?_
          refine A.iadd d0_reachedWith_25 ?_
          refine A.is4_2 d0_reachedWith_26 ?_
          refine A.ii4_3 d0_reachedWith_27 ?_
          refine A.goto d0_reachedWith_30 ?_
          have e1 := ih (n + 1) (by omega) (by omega)
          first
            | (rw [show cntN (fun f => (drawn S).1 (64 * v + f)) (n + 1) = cntN (fun f => (drawn S).1 (64 * v + f)) n + 1 from if_neg (by show ¬ (drawn S).1 (64 * v + n) = 0; have c17 : (drawn S).1 (64 * v + n) = 1 := c17; omega)] at e1; exact e1)
            | (rw [show cntN (fun f => (drawn S).1 (64 * v + f)) (n + 1) = cntN (fun f => (drawn S).1 (64 * v + f)) n from if_pos (by show (drawn S).1 (64 * v + n) = 0; have c17 : ¬ (drawn S).1 (64 * v + n) = 1 := c17; omega)] at e1; rw [Int.add_zero]; exact e1)
  refine A.iconst d0_reachedWith_0 ?_
  refine A.is4_2 d0_reachedWith_1 ?_
  refine A.iconst d0_reachedWith_2 ?_
  refine A.is4_3 d0_reachedWith_3 ?_
  exact loop 65 0 (by omega) (by omega)
set_option maxRecDepth 100000 in
set_option maxHeartbeats 4000000 in
theorem s0_reachedEnds {d : Nat} {h : AH} {R : RP} {B : FN} {S : SC} {c : Nat} {re wc : Int} {Cc Lc Lo Wa Es : FN} (k0 : h.2 c = some (cob c re wc)) (k1 : h.2 (c + 1) = some (kA 0 1984 Cc)) (k2 : h.2 (c + 2) = some (kA 0 1984 Lc)) (k3 : h.2 (c + 3) = some (kA 0 1984 Lo)) (k4 : h.2 (c + 4) = some (kA 0 1984 Wa)) (k5 : h.2 (c + 5) = some (kA 0 12 Es)) (hC : cC (drawn S) re wc Cc Lc Lo Wa Es) (hB : rScr B S) (k : R (some (vI (enRR S))) h) : AM m0_reachedEnds (d) h [vR c] R := by
  refine AM.of (L := [some (vR c), none, none]) ok_0_reachedEnds (by decide) (fun G => Nat.le_of_ble_eq_true rfl) rfl ?_
  have loop : ∀ (nf : Nat) (n : Nat) (hi : n ≤ 12) (hn : 12 - n < nf), AW m0_reachedEnds (d) (mC m0_reachedEnds, mS m0_reachedEnds) 4 [some (vR c), some (vI (cntN (fun i => (drawn S).2.2.2.2.2.2.1 (3 + edI i)) n)), some (vI n)] [] h R := by
    intro nf
    induction nf with
    | zero => intro n  hi hn; omega
    | succ nf ih =>
      intro n  hi hn
      have hcn := cntN_le (fun i => (drawn S).2.2.2.2.2.2.1 (3 + edI i)) n
      refine A.il3_2 d0_reachedEnds_4 ?_
      refine A.bipush d0_reachedEnds_5 ?_
      refine A.ic_ge d0_reachedEnds_7 (fun c7 => ?_) (fun c7 => ?_)
      · refine A.il3_1 d0_reachedEnds_34 ?_
        refine A.iret d0_reachedEnds_35 ?_
        have e : n = 12 := by omega
        subst e
        exact rI k (cntN_ed (chJ_out hB 1984).2 10 : enRR S = _).symm
      · have h5 := cC_es hC (i := (n : Int)) (by omega) (by omega)
        have h5a : ((drawn S).2.2.2.2.2.2.1 (3 + edI n) = 0 ∧ Es n = -1) ∨ ((drawn S).2.2.2.2.2.2.1 (3 + edI n) = 1 ∧ 0 ≤ Es n) := h5.elim (fun z => Or.inl ⟨z.1.1, z.2⟩) (fun z => Or.inr ⟨z.1.1, z.2.1.1⟩)
        refine A.il3_1 d0_reachedEnds_10 ?_
        refine A.al3_0 d0_reachedEnds_11 ?_
        refine A.getf d0_reachedEnds_12 ?_ (hc := k0)
        refine A.il3_2 d0_reachedEnds_15 ?_
        refine A.iald d0_reachedEnds_16 ?_ (hc := k5)
        refine A.iconst d0_reachedEnds_17 ?_
        refine A.ic_eq d0_reachedEnds_18 (fun c18 => ?_) (fun c18 => ?_)
        · refine A.iconst d0_reachedEnds_25 ?_
          refine A.iadd d0_reachedEnds_26 ?_
          refine A.is3_1 d0_reachedEnds_27 ?_
          refine A.ii3_2 d0_reachedEnds_28 ?_
          refine A.goto d0_reachedEnds_31 ?_
          have e1 := ih (n + 1) (by omega) (by omega)
          first
            | (rw [show cntN (fun i => (drawn S).2.2.2.2.2.2.1 (3 + edI i)) (n + 1) = cntN (fun i => (drawn S).2.2.2.2.2.2.1 (3 + edI i)) n + 1 from if_neg (by show ¬ (drawn S).2.2.2.2.2.2.1 (3 + edI n) = 0; omega)] at e1; exact e1)
            | (rw [show cntN (fun i => (drawn S).2.2.2.2.2.2.1 (3 + edI i)) (n + 1) = cntN (fun i => (drawn S).2.2.2.2.2.2.1 (3 + edI i)) n from if_pos (by show (drawn S).2.2.2.2.2.2.1 (3 + edI n) = 0; omega)] at e1; rw [Int.add_zero]; exact e1)
        · refine A.iconst d0_reachedEnds_21 ?_
          refine A.goto d0_reachedEnds_22 ?_
          refine A.iadd d0_reachedEnds_26 ?_
          refine A.is3_1 d0_reachedEnds_27 ?_
          refine A.ii3_2 d0_reachedEnds_28 ?_
          refine A.goto d0_reachedEnds_31 ?_
          have e1 := ih (n + 1) (by omega) (by omega)
          first
            | (rw [show cntN (fun i => (drawn S).2.2.2.2.2.2.1 (3 + edI i)) (n + 1) = cntN (fun i => (drawn S).2.2.2.2.2.2.1 (3 + edI i)) n + 1 from if_neg (by show ¬ (drawn S).2.2.2.2.2.2.1 (3 + edI n) = 0; omega)] at e1; exact e1)
            | (rw [show cntN (fun i => (drawn S).2.2.2.2.2.2.1 (3 + edI i)) (n + 1) = cntN (fun i => (drawn S).2.2.2.2.2.2.1 (3 + edI i)) n from if_pos (by show (drawn S).2.2.2.2.2.2.1 (3 + edI n) = 0; omega)] at e1; rw [Int.add_zero]; exact e1)
  refine A.iconst d0_reachedEnds_0 ?_
  refine A.is3_1 d0_reachedEnds_1 ?_
  refine A.iconst d0_reachedEnds_2 ?_
  refine A.is3_2 d0_reachedEnds_3 ?_
  exact loop 13 0 (by omega) (by omega)
set_option maxRecDepth 100000 in
set_option maxHeartbeats 4000000 in
theorem s0_canUse {d : Nat} {h : AH} {R : RP} {v o : Int} {b : Nat} {B : FN} {S : SC} {c : Nat} {re wc : Int} {Cc Lc Lo Wa Es : FN} (k0 : h.2 c = some (cob c re wc)) (k1 : h.2 (c + 1) = some (kA 0 1984 Cc)) (k2 : h.2 (c + 2) = some (kA 0 1984 Lc)) (k3 : h.2 (c + 3) = some (kA 0 1984 Lo)) (k4 : h.2 (c + 4) = some (kA 0 1984 Wa)) (k5 : h.2 (c + 5) = some (kA 0 12 Es)) (hC : cC (drawn S) re wc Cc Lc Lo Wa Es) (hS : scAt h b S) (hB : rScr B S) (hk6 : cKind S v = 6) (o0 : 0 ≤ o) (o1 : o < cOpts S v) (k : R (some (vI (bi (usR S (drawn S) v o)))) h) : AM m0_canUse (d + 3) h [vR c, vR b, vI v, vI o] R := by
  refine AM.of (L := [some (vR c), some (vR b), some (vI v), some (vI o), none]) ok_0_canUse (by decide) (fun G => Nat.le_of_ble_eq_true rfl) rfl ?_
  have hkl := kd_lt (S := S) (v := v) (by omega)
  have hB1 := hB.1
  have hX : chI S (drawn S) := chI_out hB 1984
  have hJ : chJ S (drawn S) := chJ_out hB 1984
  have hsk : cSK S v = 1 := by unfold cSK; rw [if_neg (by omega), if_pos hk6]
  have loop : ∀ (nf : Nat) (n : Nat) (hi : n ≤ 64) (hno : ∀ f : Int, 0 ≤ f → f < n → ¬ ((drawn S).1 (sit v f) = 1 ∧ cOpen S v o f)) (hn : 64 - n < nf), AW m0_canUse (d + 3) (mC m0_canUse, mS m0_canUse) 3 [some (vR c), some (vR b), some (vI v), some (vI o), some (vI n)] [] h R := by
    intro nf
    induction nf with
    | zero => intro n  hi hno hn; omega
    | succ nf ih =>
      intro n  hi hno hn
      refine A.il5_4 d0_canUse_3 ?_
      refine A.bipush d0_canUse_5 ?_
      refine A.ic_ge d0_canUse_7 (fun c7 => ?_) (fun c7 => ?_)
      · refine A.iconst d0_canUse_39 ?_
        refine A.zret d0_canUse_40 ?_
        refine rF k ?_
        rintro ⟨kk, k1, k2, k3⟩
        obtain ⟨q1, q2, -⟩ := hX.2.2.1 kk k1.1 k1.2
        refine hno ((drawn S).2.2.1 kk % 64) (by omega) (by omega) ⟨?_, k3⟩
        rw [show sit v ((drawn S).2.2.1 kk % 64) = (drawn S).2.2.1 kk by unfold sit; omega]
        exact q2
      · refine A.al5_0 d0_canUse_10 ?_
        refine A.il5_2 d0_canUse_11 ?_
        refine A.il5_4 d0_canUse_12 ?_
        refine A.v2 d0_canUse_14 (s0_isReached k0 k1 k2 k3 k4 k5 hC (by omega) (by omega) (by omega) (by omega) (kS ?_)) (hc := k0)
        refine A.bz_eq d0_canUse_17 (fun c17 => ?_) (fun c17 => ?_)
        · refine A.ii5_4 d0_canUse_33 ?_
          refine A.goto d0_canUse_36 ?_
          refine ih (n + 1) (by omega) (fun f f0 f1 => ?_) (by omega)
          by_cases e : f = n
          · subst e
            first
              | exact fun z => c17 z.1
              | exact fun z => c28 z.2
          · exact hno f f0 (by omega)
        · refine A.al5_1 d0_canUse_20 ?_
          refine A.il5_2 d0_canUse_21 ?_
          refine A.il5_3 d0_canUse_22 ?_
          refine A.il5_4 d0_canUse_23 ?_
          refine A.v3 d0_canUse_25 (s3_isOpen hS (kS ?_)) (hc := hS.1)
          refine A.bz_eq d0_canUse_28 (fun c28 => ?_) (fun c28 => ?_)
          · refine A.ii5_4 d0_canUse_33 ?_
            refine A.goto d0_canUse_36 ?_
            refine ih (n + 1) (by omega) (fun f f0 f1 => ?_) (by omega)
            by_cases e : f = n
            · subst e
              first
                | exact fun z => c17 z.1
                | exact fun z => c28 z.2
            · exact hno f f0 (by omega)
          · refine A.iconst d0_canUse_31 ?_
            refine A.zret d0_canUse_32 ?_
            obtain ⟨kk, k1, k2⟩ := hJ.1 (sit v n) (by unfold sit; omega) (by unfold sit; omega) c17 (by unfold sit; rw [show (64 * v + (n : Int)) / 64 = v by omega]; exact hsk)
            have kd : (drawn S).2.2.1 kk / 64 = v := by rw [k2]; unfold sit; omega
            have km : (drawn S).2.2.1 kk % 64 = n := by rw [k2]; unfold sit; omega
            exact rT k ⟨kk, k1, kd, by rw [km]; exact c28⟩
  refine A.iconst d0_canUse_0 ?_
  refine A.is5_4 d0_canUse_1 ?_
  exact loop 65 0 (by omega) (fun f f0 f1 => by omega) (by omega)
