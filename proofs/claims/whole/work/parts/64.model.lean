/-! ===== the reference: ways; counts ===== -/
noncomputable def coRR (S : SC) (P : PL) (T : TX) (w : Int) : Int := if w = 0 then S.1 else if w = 1 then P.2.1 + 1 else if w = 2 then P.1 - P.2.1 - 1 else if w = 3 then cntN P.2.2.2.2.2.1 31 else if w = 4 then cntN P.2.2.2.2.1 3 else if w = 5 then enRR S else if w = 6 then T.1 else -12
set_option maxRecDepth 100000 in
set_option maxHeartbeats 4000000 in
theorem s6_wayTo {d : Nat} {h : AH} {R : RP} {e i : Int} {q : Nat} {S : SC} {P : PL} {T : TX} (hM : mAt h q S P T) (k : ∀ h', mAt h' q S P T → Fr h h' q 16 → R (some (vI (wtRR S e i))) h') : AM m6_wayTo (d + 5) h [vR q, vI e, vI i] R := by
  refine AM.of (L := [some (vR q), some (vI e), some (vI i), none, none, none, none]) ok_6_wayTo (by decide) (fun G => Nat.le_of_ble_eq_true rfl) rfl ?_
  obtain ⟨rd, fi, co, ah, se, ps, fa, fl, ch, hx, B, Rd, Mo, Sv, Iv, V, F, Re, Ch, Fm, By, Ie, Ef, Eb, w0, w1, w2, w3, w4, w5, w6, w7, w8, w9, w10, w11, w12, w13, w14, w15, hB, hP, hT⟩ := hM
  have hB1 := hB.1
  obtain ⟨⟨hr, hm, hsn⟩, ⟨hf0, hf1⟩, hc0, hc1⟩ := plR_now hP
  have n0 := row0 hr
  have hsk := sk_shown hm
  have hm1 := hm.1
  have hco := hP.2.1
  have hpr := hP.1.2
  refine A.il7_1 d6_wayTo_0 ?_
  refine A.s1 d6_wayTo_1 (s6_isEndNumber (kS ?_))
  refine A.bz_eq d6_wayTo_4 (fun c4 => ?_) (fun c4 => ?_)
  · refine A.bipush d6_wayTo_11 ?_
    refine A.iret d6_wayTo_13 ?_
    first
      | exact rI (k _ ⟨_, _, _, _, _, _, _, _, _, _, _, _, _, _, _, _, _, _, _, _, _, _, _, _, w0, w1, w2, w3, w4, w5, w6, w7, w8, w9, w10, w11, w12, w13, w14, w15, hB, hP, hT⟩ (Fr.rfl (h := h) (a := q) (n := 16))) (pif_f (fun z => c4 z.1)).symm
      | exact rI (k _ ⟨_, _, _, _, _, _, _, _, _, _, _, _, _, _, _, _, _, _, _, _, _, _, _, _, w0, w1, w2, w3, w4, w5, w6, w7, w8, w9, w10, w11, w12, w13, w14, w15, hB, hP, hT⟩ (Fr.rfl (h := h) (a := q) (n := 16))) (pif_f (fun z => by have := z.2; omega)).symm
  · refine A.il7_2 d6_wayTo_7 ?_
    refine A.if_ge d6_wayTo_8 (fun c8 => ?_) (fun c8 => ?_)
    · refine A.al7_0 d6_wayTo_14 ?_
      refine A.v0 d6_wayTo_15 (s6_charts w0 w1 hB w7 w8 w9 w10 w11 w12 w13 w14 w15 (fun h15 fl15 ch15 V15 F15x Re15 Ch15 Fm15 By15 Ie15 Ef15 Eb15 m15 e15 y15_7 y15_8 y15_9 y15_10 y15_11 y15_12 y15_13 y15_14 y15_15 sr15 cr15 f15 => kN ?_)) (hc := w0)
      have w0 := e15
      have w7 := y15_7
      have w8 := y15_8
      have w9 := y15_9
      have w10 := y15_10
      have w11 := y15_11
      have w12 := y15_12
      have w13 := y15_13
      have w14 := y15_14
      have w15 := y15_15
      have w1 := f15.get w1
      have w2 := f15.get w2
      have w3 := f15.get w3
      have w4 := f15.get w4
      have w5 := f15.get w5
      have w6 := f15.get w6
      have F15 := Fr.then (Fr.rfl (h := h) (a := q) (n := 16)) f15.fr (by omega) (by omega)
      have hX := chI_out hB 1984
      have hc : cR (drawn S) ch15 Re15 Ch15 Fm15 By15 Ie15 Ef15 Eb15 := cr15
      have hX : chI S (drawn S) := hX
      refine A.al7_0 d6_wayTo_18 ?_
      refine A.il7_1 d6_wayTo_19 ?_
      refine A.v1 d6_wayTo_20 (s6_stepsTo w0 w1 hB w9 w10 w11 w12 w13 w14 w15 hX hc c4 (kS ?_)) (hc := w0)
      refine A.is7_3 d6_wayTo_23 ?_
      refine A.il7_3 d6_wayTo_24 ?_
      refine A.bipush d6_wayTo_25 ?_
      refine A.ic_eq d6_wayTo_27 (fun c27 => ?_) (fun c27 => ?_)
      · refine A.bipush d6_wayTo_35 ?_
        refine A.iret d6_wayTo_37 ?_
        exact rI (k _ ⟨_, _, _, _, _, _, _, _, _, _, _, _, _, _, _, _, _, _, _, _, _, _, _, _, w0, w1, w2, w3, w4, w5, w6, w7, w8, w9, w10, w11, w12, w13, w14, w15, hB, hP, hT⟩ F15) ((pif_t ⟨c4, by omega⟩).trans (if_pos (by omega)) : wtRR S e i = _).symm
      · refine A.il7_2 d6_wayTo_30 ?_
        refine A.il7_3 d6_wayTo_31 ?_
        refine A.ic_lt d6_wayTo_32 (fun c32 => ?_) (fun c32 => ?_)
        · have hz : (drawn S).2.2.2.2.2.2.1 (3 + e) ≠ 0 := fun z => c27 (if_pos z)
          obtain ⟨hd1, hd2⟩ := hX.2.2.2 (3 + e) (by unfold isE at c4; omega) (by unfold isE at c4; omega)
          obtain ⟨hie, hie2⟩ := hc.2.2.2 (3 + e) (by unfold isE at c4; omega) (by unfold isE at c4; omega)
          obtain ⟨hq1, hq2⟩ := hie2 (by omega)
          have hst : stR (drawn S) e = cl (drawn S) ((drawn S).2.2.2.2.2.2.2.1 (3 + e)) := if_neg hz
          have hcr := cl_rng hX (hd2 (by omega))
          have hXn := hX.1
          have hXl := (cntN_le (drawn S).1 1984).2
          have hee : -3 ≤ e ∧ e ≤ 9 := by unfold isE at c4; omega
          refine A.al7_0 d6_wayTo_38 ?_
          refine A.getf d6_wayTo_39 ?_ (hc := w0)
          refine A.iconst d6_wayTo_42 ?_
          refine A.il7_1 d6_wayTo_43 ?_
          refine A.iadd d6_wayTo_44 ?_
          refine A.iald d6_wayTo_45 ?_ (hc := w15)
          rw [hq2]
          refine A.is7_4 d6_wayTo_46 ?_
          refine A.al7_0 d6_wayTo_48 ?_
          refine A.getf d6_wayTo_49 ?_ (hc := w0)
          refine A.iconst d6_wayTo_52 ?_
          refine A.il7_1 d6_wayTo_53 ?_
          refine A.iadd d6_wayTo_54 ?_
          refine A.iald d6_wayTo_55 ?_ (hc := w14)
          rw [hq1]
          refine A.is7_5 d6_wayTo_56 ?_
          refine A.il7_3 d6_wayTo_58 ?_
          refine A.iconst d6_wayTo_59 ?_
          refine A.isub d6_wayTo_60 ?_
          refine A.is7_6 d6_wayTo_61 ?_
          have loop : ∀ (nf : Nat) (t : Nat) (its j : Int) (hj : j = -11 ∨ (0 ≤ j ∧ j < (drawn S).2.1)) (ht : (t : Int) < cl (drawn S) j) (hw : stepW (drawn S) (stR (drawn S) e - 1 - i).toNat ((drawn S).2.2.2.2.2.2.2.2 (3 + e)) ((drawn S).2.2.2.2.2.2.2.1 (3 + e)) = stepW (drawn S) t its j) (hn : t < nf), AW m6_wayTo (d + 5) (mC m6_wayTo, mS m6_wayTo) 63 [some (vR q), some (vI e), some (vI i), some (vI (stR (drawn S) e)), some (vI its), some (vI j), some (vI (i + t))] [] h15 R := by
            intro nf
            induction nf with
            | zero => intro t its j hj ht hw hn; omega
            | succ nf ih =>
              intro t its j hj ht hw hn
              have hr := cl_rng hX hj
              refine A.il7_6 d6_wayTo_63 ?_
              refine A.il7_2 d6_wayTo_65 ?_
              refine A.ic_le d6_wayTo_66 (fun c66 => ?_) (fun c66 => ?_)
              · refine A.il7_4 d6_wayTo_93 ?_
                refine A.iret d6_wayTo_95 ?_
                have e0 : t = 0 := by omega
                subst e0
                exact rI (k _ ⟨_, _, _, _, _, _, _, _, _, _, _, _, _, _, _, _, _, _, _, _, _, _, _, _, w0, w1, w2, w3, w4, w5, w6, w7, w8, w9, w10, w11, w12, w13, w14, w15, hB, hP, hT⟩ F15) (((pif_t ⟨c4, by omega⟩).trans (if_neg (by omega)) : wtRR S e i = _).trans hw).symm
              · obtain ⟨t2, rfl⟩ : ∃ t2, t = t2 + 1 := ⟨t - 1, by omega⟩
                have hj2 : 0 ≤ j ∧ j < (drawn S).2.1 := by
                  rcases hj with z | z
                  · exfalso; have : cl (drawn S) j = 0 := if_pos z; omega
                  · exact z
                have hs := cl_step hX hj2.1 hj2.2
                obtain ⟨-, hf, hb⟩ := hc.2.2.1 j hj2.1 hj2.2
                refine A.al7_0 d6_wayTo_69 ?_
                refine A.getf d6_wayTo_70 ?_ (hc := w0)
                refine A.il7_5 d6_wayTo_73 ?_
                refine A.iald d6_wayTo_75 ?_ (hc := w12)
                rw [hb]
                refine A.is7_4 d6_wayTo_76 ?_
                refine A.al7_0 d6_wayTo_78 ?_
                refine A.getf d6_wayTo_79 ?_ (hc := w0)
                refine A.il7_5 d6_wayTo_82 ?_
                refine A.iald d6_wayTo_84 ?_ (hc := w11)
                rw [hf]
                refine A.is7_5 d6_wayTo_85 ?_
                refine A.ii7_6 d6_wayTo_87 ?_
                refine A.goto d6_wayTo_90 ?_
                have g := ih t2 _ _ hs.2 (by omega) hw (by omega)
                rw [show i + ((t2 + 1 : Nat) : Int) + -1 = i + t2 by omega]
                exact g
          have g := loop ((stR (drawn S) e - 1 - i).toNat + 1) _ _ _ (hd2 (by omega)) (by omega) rfl (by omega)
          rw [show i + (((stR (drawn S) e - 1 - i).toNat : Nat) : Int) = stR (drawn S) e - 1 by omega] at g
          exact g
        · refine A.bipush d6_wayTo_35 ?_
          refine A.iret d6_wayTo_37 ?_
          exact rI (k _ ⟨_, _, _, _, _, _, _, _, _, _, _, _, _, _, _, _, _, _, _, _, _, _, _, _, w0, w1, w2, w3, w4, w5, w6, w7, w8, w9, w10, w11, w12, w13, w14, w15, hB, hP, hT⟩ F15) ((pif_t ⟨c4, by omega⟩).trans (if_pos (by omega)) : wtRR S e i = _).symm
    · refine A.bipush d6_wayTo_11 ?_
      refine A.iret d6_wayTo_13 ?_
      first
        | exact rI (k _ ⟨_, _, _, _, _, _, _, _, _, _, _, _, _, _, _, _, _, _, _, _, _, _, _, _, w0, w1, w2, w3, w4, w5, w6, w7, w8, w9, w10, w11, w12, w13, w14, w15, hB, hP, hT⟩ (Fr.rfl (h := h) (a := q) (n := 16))) (pif_f (fun z => c4 z.1)).symm
        | exact rI (k _ ⟨_, _, _, _, _, _, _, _, _, _, _, _, _, _, _, _, _, _, _, _, _, _, _, _, w0, w1, w2, w3, w4, w5, w6, w7, w8, w9, w10, w11, w12, w13, w14, w15, hB, hP, hT⟩ (Fr.rfl (h := h) (a := q) (n := 16))) (pif_f (fun z => by have := z.2; omega)).symm
set_option maxRecDepth 100000 in
set_option maxHeartbeats 4000000 in
theorem s6_count {d : Nat} {h : AH} {R : RP} {w : Int} {q : Nat} {S : SC} {P : PL} {T : TX} (hM : mAt h q S P T) (k : ∀ h', mAt h' q S P T → Fr h h' q 16 → R (some (vI (coRR S P T w))) h') : AM m6_count (d + 6) h [vR q, vI w] R := by
  refine AM.of (L := [some (vR q), some (vI w)]) ok_6_count (by decide) (fun G => Nat.le_of_ble_eq_true rfl) rfl ?_
  obtain ⟨rd, fi, co, ah, se, ps, fa, fl, ch, hx, B, Rd, Mo, Sv, Iv, V, F, Re, Ch, Fm, By, Ie, Ef, Eb, w0, w1, w2, w3, w4, w5, w6, w7, w8, w9, w10, w11, w12, w13, w14, w15, hB, hP, hT⟩ := hM
  have hB1 := hB.1
  obtain ⟨⟨hr, hm, hsn⟩, ⟨hf0, hf1⟩, hc0, hc1⟩ := plR_now hP
  have n0 := row0 hr
  have hsk := sk_shown hm
  have hm1 := hm.1
  have hco := hP.2.1
  have hpr := hP.1.2
  have hM2 : mAt h q S P T := ⟨_, _, _, _, _, _, _, _, _, _, _, _, _, _, _, _, _, _, _, _, _, _, _, _, w0, w1, w2, w3, w4, w5, w6, w7, w8, w9, w10, w11, w12, w13, w14, w15, hB, hP, hT⟩
  refine A.il2_1 d6_count_0 ?_
  refine A.tsw7 d6_count_1 (fun c1 => ?_) (fun c1 => ?_) (fun c1 => ?_) (fun c1 => ?_) (fun c1 => ?_) (fun c1 => ?_) (fun c1 => ?_) (fun c1 => ?_)
  · refine A.al2_0 d6_count_44 ?_
    refine A.getf d6_count_45 ?_ (hc := w0)
    refine A.iret d6_count_48 ?_
    exact rI (k _ hM2 (Fr.rfl (h := h) (a := q) (n := 16))) (by unfold coRR; rw [if_pos (by omega)])
  · refine A.al2_0 d6_count_49 ?_
    refine A.getf d6_count_50 ?_ (hc := w0)
    refine A.iret d6_count_53 ?_
    exact rI (k _ hM2 (Fr.rfl (h := h) (a := q) (n := 16))) (by unfold coRR; rw [if_neg (by omega)]; rw [if_pos (by omega)]; omega)
  · refine A.al2_0 d6_count_54 ?_
    refine A.getf d6_count_55 ?_ (hc := w0)
    refine A.iret d6_count_58 ?_
    exact rI (k _ hM2 (Fr.rfl (h := h) (a := q) (n := 16))) (by unfold coRR; rw [if_neg (by omega)]; rw [if_neg (by omega)]; rw [if_pos (by omega)]; omega)
  · refine A.al2_0 d6_count_59 ?_
    refine A.v0 d6_count_60 (s6_seenNodes hM2 (kS ?_)) (hc := w0)
    refine A.iret d6_count_63 ?_
    exact rI (k _ hM2 (Fr.rfl (h := h) (a := q) (n := 16))) (by unfold coRR; rw [if_neg (by omega)]; rw [if_neg (by omega)]; rw [if_neg (by omega)]; rw [if_pos (by omega)])
  · refine A.al2_0 d6_count_64 ?_
    refine A.v0 d6_count_65 (s6_savedMoments hM2 (kS ?_)) (hc := w0)
    refine A.iret d6_count_68 ?_
    exact rI (k _ hM2 (Fr.rfl (h := h) (a := q) (n := 16))) (by unfold coRR; rw [if_neg (by omega)]; rw [if_neg (by omega)]; rw [if_neg (by omega)]; rw [if_neg (by omega)]; rw [if_pos (by omega)])
  · refine A.al2_0 d6_count_69 ?_
    refine A.v0 d6_count_70 (s6_ends hM2 (fun h70 hM70 F70 => kS ?_)) (hc := w0)
    refine A.iret d6_count_73 ?_
    exact rI (k _ hM70 F70) (by unfold coRR; rw [if_neg (by omega)]; rw [if_neg (by omega)]; rw [if_neg (by omega)]; rw [if_neg (by omega)]; rw [if_neg (by omega)]; rw [if_pos (by omega)])
  · refine A.al2_0 d6_count_74 ?_
    refine A.getf d6_count_75 ?_ (hc := w0)
    refine A.iret d6_count_78 ?_
    exact rI (k _ hM2 (Fr.rfl (h := h) (a := q) (n := 16))) (by unfold coRR; rw [if_neg (by omega)]; rw [if_neg (by omega)]; rw [if_neg (by omega)]; rw [if_neg (by omega)]; rw [if_neg (by omega)]; rw [if_neg (by omega)]; rw [if_pos (by omega)])
  · refine A.bipush d6_count_79 ?_
    refine A.iret d6_count_81 ?_
    exact rI (k _ hM2 (Fr.rfl (h := h) (a := q) (n := 16))) (by unfold coRR; rw [if_neg (by omega)]; rw [if_neg (by omega)]; rw [if_neg (by omega)]; rw [if_neg (by omega)]; rw [if_neg (by omega)]; rw [if_neg (by omega)]; rw [if_neg (by omega)])
