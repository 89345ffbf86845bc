/-! ===== the class's chart: what it tells ===== -/
noncomputable def wtC (S : SC) (i j : Int) : Int := if stR (drawn S) (edI i) = -11 ∨ stR (drawn S) (edI i) ≤ j then -11 else stepW (drawn S) (stR (drawn S) (edI i) - 1 - j).toNat ((drawn S).2.2.2.2.2.2.2.2 (3 + edI i)) ((drawn S).2.2.2.2.2.2.2.1 (3 + edI i))
theorem cC_es {S : SC} {re wc i : Int} {Cc Lc Lo Wa Es : FN} (hC : cC (drawn S) re wc Cc Lc Lo Wa Es) (i0 : 0 ≤ i) (i1 : i < 12) : (((drawn S).2.2.2.2.2.2.1 (3 + edI i) = 0 ∧ stR (drawn S) (edI i) = -11) ∧ Es i = -1) ∨ (((drawn S).2.2.2.2.2.2.1 (3 + edI i) = 1 ∧ stR (drawn S) (edI i) = cl (drawn S) ((drawn S).2.2.2.2.2.2.2.1 (3 + edI i))) ∧ (0 ≤ Es i ∧ Es i < 1984) ∧ Cc (Es i) = stR (drawn S) (edI i) ∧ atS (drawn S) Cc Lc Lo (Es i) ((drawn S).2.2.2.2.2.2.2.1 (3 + edI i)) ((drawn S).2.2.2.2.2.2.2.2 (3 + edI i))) := by
  rcases hC.2.2.2.2 i i0 i1 with ⟨a, b⟩ | ⟨a, b, c, e⟩
  · exact Or.inl ⟨⟨a, if_pos a⟩, b⟩
  · have s : stR (drawn S) (edI i) = cl (drawn S) ((drawn S).2.2.2.2.2.2.2.1 (3 + edI i)) := if_neg (by omega)
    exact Or.inr ⟨⟨a, s⟩, b, e.1.trans s.symm, e⟩
set_option maxRecDepth 100000 in
set_option maxHeartbeats 4000000 in
theorem s0_reachedEnds {d : Nat} {h : AH} {R : RP} {B : FN} {S : SC} {c : Nat} {re wc : Int} {Cc Lc Lo Wa Es : FN} (k0 : h.2 c = some (cob c re wc)) (k1 : h.2 (c + 1) = some (kA 0 1984 Cc)) (k2 : h.2 (c + 2) = some (kA 0 1984 Lc)) (k3 : h.2 (c + 3) = some (kA 0 1984 Lo)) (k4 : h.2 (c + 4) = some (kA 0 1984 Wa)) (k5 : h.2 (c + 5) = some (kA 0 12 Es)) (hC : cC (drawn S) re wc Cc Lc Lo Wa Es) (hB : rScr B S) (k : R (some (vI (enRR S))) h) : AM m0_reachedEnds (d) h [vR c] R := by
  refine AM.of (L := [some (vR c), none, none]) ok_0_reachedEnds (by decide) (fun G => Nat.le_of_ble_eq_true rfl) rfl ?_
  have loop : ∀ (nf : Nat) (n : Nat) (hi : n ≤ 12) (hn : 12 - n < nf), AW m0_reachedEnds (d) (mC m0_reachedEnds, mS m0_reachedEnds) 4 [some (vR c), some (vI (cntN (fun i => (drawn S).2.2.2.2.2.2.1 (3 + edI i)) n)), some (vI n)] [] h R := by
    intro nf
    induction nf with
    | zero => intro n  hi hn; omega
    | succ nf ih =>
      intro n  hi hn
      have hcn := cntN_le (fun i => (drawn S).2.2.2.2.2.2.1 (3 + edI i)) n
      refine A.il3_2 d0_reachedEnds_4 ?_
      refine A.bipush d0_reachedEnds_5 ?_
      refine A.ic_ge d0_reachedEnds_7 (fun c7 => ?_) (fun c7 => ?_)
      · refine A.il3_1 d0_reachedEnds_34 ?_
        refine A.iret d0_reachedEnds_35 ?_
        have e : n = 12 := by omega
        subst e
        exact rI k (cntN_ed (chJ_out hB 1984).2 10 : enRR S = _).symm
      · have h5 := cC_es hC (i := (n : Int)) (by omega) (by omega)
        have h5a : ((drawn S).2.2.2.2.2.2.1 (3 + edI n) = 0 ∧ Es n = -1) ∨ ((drawn S).2.2.2.2.2.2.1 (3 + edI n) = 1 ∧ 0 ≤ Es n) := h5.elim (fun z => Or.inl ⟨z.1.1, z.2⟩) (fun z => Or.inr ⟨z.1.1, z.2.1.1⟩)
        refine A.il3_1 d0_reachedEnds_10 ?_
        refine A.al3_0 d0_reachedEnds_11 ?_
        refine A.getf d0_reachedEnds_12 ?_ (hc := k0)
        refine A.il3_2 d0_reachedEnds_15 ?_
        refine A.iald d0_reachedEnds_16 ?_ (hc := k5)
        refine A.iconst d0_reachedEnds_17 ?_
        refine A.ic_eq d0_reachedEnds_18 (fun c18 => ?_) (fun c18 => ?_)
        · refine A.iconst d0_reachedEnds_25 ?_
          refine A.iadd d0_reachedEnds_26 ?_
          refine A.is3_1 d0_reachedEnds_27 ?_
          refine A.ii3_2 d0_reachedEnds_28 ?_
          refine A.goto d0_reachedEnds_31 ?_
          have e1 := ih (n + 1) (by omega) (by omega)
          first
            | (rw [show cntN (fun i => (drawn S).2.2.2.2.2.2.1 (3 + edI i)) (n + 1) = cntN (fun i => (drawn S).2.2.2.2.2.2.1 (3 + edI i)) n + 1 from if_neg (by show ¬ (drawn S).2.2.2.2.2.2.1 (3 + edI n) = 0; omega)] at e1; exact e1)
            | (rw [show cntN (fun i => (drawn S).2.2.2.2.2.2.1 (3 + edI i)) (n + 1) = cntN (fun i => (drawn S).2.2.2.2.2.2.1 (3 + edI i)) n from if_pos (by show (drawn S).2.2.2.2.2.2.1 (3 + edI n) = 0; omega)] at e1; rw [Int.add_zero]; exact e1)
        · refine A.iconst d0_reachedEnds_21 ?_
          refine A.goto d0_reachedEnds_22 ?_
          refine A.iadd d0_reachedEnds_26 ?_
          refine A.is3_1 d0_reachedEnds_27 ?_
          refine A.ii3_2 d0_reachedEnds_28 ?_
          refine A.goto d0_reachedEnds_31 ?_
          have e1 := ih (n + 1) (by omega) (by omega)
          first
            | (rw [show cntN (fun i => (drawn S).2.2.2.2.2.2.1 (3 + edI i)) (n + 1) = cntN (fun i => (drawn S).2.2.2.2.2.2.1 (3 + edI i)) n + 1 from if_neg (by show ¬ (drawn S).2.2.2.2.2.2.1 (3 + edI n) = 0; omega)] at e1; exact e1)
            | (rw [show cntN (fun i => (drawn S).2.2.2.2.2.2.1 (3 + edI i)) (n + 1) = cntN (fun i => (drawn S).2.2.2.2.2.2.1 (3 + edI i)) n from if_pos (by show (drawn S).2.2.2.2.2.2.1 (3 + edI n) = 0; omega)] at e1; rw [Int.add_zero]; exact e1)
  refine A.iconst d0_reachedEnds_0 ?_
  refine A.is3_1 d0_reachedEnds_1 ?_
  refine A.iconst d0_reachedEnds_2 ?_
  refine A.is3_2 d0_reachedEnds_3 ?_
  exact loop 13 0 (by omega) (by omega)
