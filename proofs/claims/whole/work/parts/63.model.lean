/-! ===== the reference as a whole: its chart's answers ===== -/
noncomputable def siRR (S : SC) (v : Int) : Int := if -1 ≤ v ∧ v ≤ 30 then cntW (drawn S).1 v 1984 else -12
noncomputable def ctRR (S : SC) (e : Int) : Int := pif (isE e) (stR (drawn S) e) (-12)
noncomputable def wtRR (S : SC) (e i : Int) : Int := pif (isE e ∧ 0 ≤ i) (if stR (drawn S) e = -11 ∨ stR (drawn S) e ≤ i then -11 else stepW (drawn S) (stR (drawn S) e - 1 - i).toNat ((drawn S).2.2.2.2.2.2.2.2 (3 + e)) ((drawn S).2.2.2.2.2.2.2.1 (3 + e))) (-12)
noncomputable def usRR (S : SC) (v o : Int) : Int := if cKind S v = 6 ∧ 0 ≤ o ∧ o < cOpts S v then bi (usR S (drawn S) v o) else -12
noncomputable def enRR (S : SC) : Int := cntN (drawn S).2.2.2.2.2.2.1 13
set_option maxRecDepth 100000 in
set_option maxHeartbeats 4000000 in
theorem s6_situations {d : Nat} {h : AH} {R : RP} {v : Int} {q : Nat} {S : SC} {P : PL} {T : TX} (hM : mAt h q S P T) (k : ∀ h', mAt h' q S P T → Fr h h' q 16 → R (some (vI (siRR S v))) h') : AM m6_situations (d + 5) h [vR q, vI v] R := by
  refine AM.of (L := [some (vR q), some (vI v)]) ok_6_situations (by decide) (fun G => Nat.le_of_ble_eq_true rfl) rfl ?_
  obtain ⟨rd, fi, co, ah, se, ps, fa, fl, ch, hx, B, Rd, Mo, Sv, Iv, V, F, Re, Ch, Fm, By, Ie, Ef, Eb, w0, w1, w2, w3, w4, w5, w6, w7, w8, w9, w10, w11, w12, w13, w14, w15, hB, hP, hT⟩ := hM
  have hB1 := hB.1
  obtain ⟨⟨hr, hm, hsn⟩, ⟨hf0, hf1⟩, hc0, hc1⟩ := plR_now hP
  have n0 := row0 hr
  have hsk := sk_shown hm
  have hm1 := hm.1
  have hco := hP.2.1
  have hpr := hP.1.2
  refine A.il2_1 d6_situations_0 ?_
  refine A.iconst d6_situations_1 ?_
  refine A.bipush d6_situations_2 ?_
  refine A.s3 d6_situations_4 (s6_in (kS ?_))
  refine A.bz_ne d6_situations_7 (fun c7 => ?_) (fun c7 => ?_)
  · refine A.al2_0 d6_situations_13 ?_
    refine A.v0 d6_situations_14 (s6_charts w0 w1 hB w7 w8 w9 w10 w11 w12 w13 w14 w15 (fun h14 fl14 ch14 V14 F14x Re14 Ch14 Fm14 By14 Ie14 Ef14 Eb14 m14 e14 y14_7 y14_8 y14_9 y14_10 y14_11 y14_12 y14_13 y14_14 y14_15 sr14 cr14 f14 => kN ?_)) (hc := w0)
    have w0 := e14
    have w7 := y14_7
    have w8 := y14_8
    have w9 := y14_9
    have w10 := y14_10
    have w11 := y14_11
    have w12 := y14_12
    have w13 := y14_13
    have w14 := y14_14
    have w15 := y14_15
    have w1 := f14.get w1
    have w2 := f14.get w2
    have w3 := f14.get w3
    have w4 := f14.get w4
    have w5 := f14.get w5
    have w6 := f14.get w6
    have F14 := Fr.then (Fr.rfl (h := h) (a := q) (n := 16)) f14.fr (by omega) (by omega)
    have hX := chI_out hB 1984
    have hc : cR (drawn S) ch14 Re14 Ch14 Fm14 By14 Ie14 Ef14 Eb14 := cr14
    refine A.al2_0 d6_situations_17 ?_
    refine A.il2_1 d6_situations_18 ?_
    refine A.v1 d6_situations_19 (s6_situationsOf w0 w1 hB w9 w10 w11 w12 w13 w14 w15 hX hc (kS ?_)) (hc := w0)
    refine A.iret d6_situations_22 ?_
    exact rI (k _ ⟨_, _, _, _, _, _, _, _, _, _, _, _, _, _, _, _, _, _, _, _, _, _, _, _, w0, w1, w2, w3, w4, w5, w6, w7, w8, w9, w10, w11, w12, w13, w14, w15, hB, hP, hT⟩ F14) (if_pos (by omega) : siRR S v = _).symm
  · refine A.bipush d6_situations_10 ?_
    refine A.iret d6_situations_12 ?_
    exact rI (k _ ⟨_, _, _, _, _, _, _, _, _, _, _, _, _, _, _, _, _, _, _, _, _, _, _, _, w0, w1, w2, w3, w4, w5, w6, w7, w8, w9, w10, w11, w12, w13, w14, w15, hB, hP, hT⟩ (Fr.rfl (h := h) (a := q) (n := 16))) (if_neg (by omega)).symm
set_option maxRecDepth 100000 in
set_option maxHeartbeats 4000000 in
theorem s6_choicesTo {d : Nat} {h : AH} {R : RP} {e : Int} {q : Nat} {S : SC} {P : PL} {T : TX} (hM : mAt h q S P T) (k : ∀ h', mAt h' q S P T → Fr h h' q 16 → R (some (vI (ctRR S e))) h') : AM m6_choicesTo (d + 5) h [vR q, vI e] R := by
  refine AM.of (L := [some (vR q), some (vI e)]) ok_6_choicesTo (by decide) (fun G => Nat.le_of_ble_eq_true rfl) rfl ?_
  obtain ⟨rd, fi, co, ah, se, ps, fa, fl, ch, hx, B, Rd, Mo, Sv, Iv, V, F, Re, Ch, Fm, By, Ie, Ef, Eb, w0, w1, w2, w3, w4, w5, w6, w7, w8, w9, w10, w11, w12, w13, w14, w15, hB, hP, hT⟩ := hM
  have hB1 := hB.1
  obtain ⟨⟨hr, hm, hsn⟩, ⟨hf0, hf1⟩, hc0, hc1⟩ := plR_now hP
  have n0 := row0 hr
  have hsk := sk_shown hm
  have hm1 := hm.1
  have hco := hP.2.1
  have hpr := hP.1.2
  refine A.il2_1 d6_choicesTo_0 ?_
  refine A.s1 d6_choicesTo_1 (s6_isEndNumber (kS ?_))
  refine A.bz_ne d6_choicesTo_4 (fun c4 => ?_) (fun c4 => ?_)
  · refine A.al2_0 d6_choicesTo_10 ?_
    refine A.v0 d6_choicesTo_11 (s6_charts w0 w1 hB w7 w8 w9 w10 w11 w12 w13 w14 w15 (fun h11 fl11 ch11 V11 F11x Re11 Ch11 Fm11 By11 Ie11 Ef11 Eb11 m11 e11 y11_7 y11_8 y11_9 y11_10 y11_11 y11_12 y11_13 y11_14 y11_15 sr11 cr11 f11 => kN ?_)) (hc := w0)
    have w0 := e11
    have w7 := y11_7
    have w8 := y11_8
    have w9 := y11_9
    have w10 := y11_10
    have w11 := y11_11
    have w12 := y11_12
    have w13 := y11_13
    have w14 := y11_14
    have w15 := y11_15
    have w1 := f11.get w1
    have w2 := f11.get w2
    have w3 := f11.get w3
    have w4 := f11.get w4
    have w5 := f11.get w5
    have w6 := f11.get w6
    have F11 := Fr.then (Fr.rfl (h := h) (a := q) (n := 16)) f11.fr (by omega) (by omega)
    have hX := chI_out hB 1984
    have hc : cR (drawn S) ch11 Re11 Ch11 Fm11 By11 Ie11 Ef11 Eb11 := cr11
    refine A.al2_0 d6_choicesTo_14 ?_
    refine A.il2_1 d6_choicesTo_15 ?_
    refine A.v1 d6_choicesTo_16 (s6_stepsTo w0 w1 hB w9 w10 w11 w12 w13 w14 w15 hX hc c4 (kS ?_)) (hc := w0)
    refine A.iret d6_choicesTo_19 ?_
    exact rI (k _ ⟨_, _, _, _, _, _, _, _, _, _, _, _, _, _, _, _, _, _, _, _, _, _, _, _, w0, w1, w2, w3, w4, w5, w6, w7, w8, w9, w10, w11, w12, w13, w14, w15, hB, hP, hT⟩ F11) (pif_t c4 : ctRR S e = _).symm
  · refine A.bipush d6_choicesTo_7 ?_
    refine A.iret d6_choicesTo_9 ?_
    exact rI (k _ ⟨_, _, _, _, _, _, _, _, _, _, _, _, _, _, _, _, _, _, _, _, _, _, _, _, w0, w1, w2, w3, w4, w5, w6, w7, w8, w9, w10, w11, w12, w13, w14, w15, hB, hP, hT⟩ (Fr.rfl (h := h) (a := q) (n := 16))) (pif_f c4).symm
set_option maxRecDepth 100000 in
set_option maxHeartbeats 4000000 in
theorem s6_usable {d : Nat} {h : AH} {R : RP} {v o : Int} {q : Nat} {S : SC} {P : PL} {T : TX} (hM : mAt h q S P T) (k : ∀ h', mAt h' q S P T → Fr h h' q 16 → R (some (vI (usRR S v o))) h') : AM m6_usable (d + 5) h [vR q, vI v, vI o] R := by
  refine AM.of (L := [some (vR q), some (vI v), some (vI o)]) ok_6_usable (by decide) (fun G => Nat.le_of_ble_eq_true rfl) rfl ?_
  obtain ⟨rd, fi, co, ah, se, ps, fa, fl, ch, hx, B, Rd, Mo, Sv, Iv, V, F, Re, Ch, Fm, By, Ie, Ef, Eb, w0, w1, w2, w3, w4, w5, w6, w7, w8, w9, w10, w11, w12, w13, w14, w15, hB, hP, hT⟩ := hM
  have hB1 := hB.1
  obtain ⟨⟨hr, hm, hsn⟩, ⟨hf0, hf1⟩, hc0, hc1⟩ := plR_now hP
  have n0 := row0 hr
  have hsk := sk_shown hm
  have hm1 := hm.1
  have hco := hP.2.1
  have hpr := hP.1.2
  have hM2 : mAt h q S P T := ⟨_, _, _, _, _, _, _, _, _, _, _, _, _, _, _, _, _, _, _, _, _, _, _, _, w0, w1, w2, w3, w4, w5, w6, w7, w8, w9, w10, w11, w12, w13, w14, w15, hB, hP, hT⟩
  refine A.al3_0 d6_usable_0 ?_
  refine A.il3_1 d6_usable_1 ?_
  refine A.v1 d6_usable_2 (s6_isChoice hM2 (kS ?_)) (hc := w0)
  refine A.bz_eq d6_usable_5 (fun c5 => ?_) (fun c5 => ?_)
  · refine A.bipush d6_usable_24 ?_
    refine A.iret d6_usable_26 ?_
    exact rI (k _ ⟨_, _, _, _, _, _, _, _, _, _, _, _, _, _, _, _, _, _, _, _, _, _, _, _, w0, w1, w2, w3, w4, w5, w6, w7, w8, w9, w10, w11, w12, w13, w14, w15, hB, hP, hT⟩ (Fr.rfl (h := h) (a := q) (n := 16))) (if_neg (by omega)).symm
  · have hkl := kd_lt (S := S) (v := v) (by omega)
    have g := hB.2 v hkl.1 hkl.2.1
    obtain ⟨ga, gb, gc⟩ := g.r6 (by omega)
    have gn := g.n0
    refine A.il3_2 d6_usable_8 ?_
    refine A.iconst d6_usable_9 ?_
    refine A.al3_0 d6_usable_10 ?_
    refine A.il3_1 d6_usable_11 ?_
    refine A.iconst d6_usable_12 ?_
    refine A.v2 d6_usable_13 (s6_of w0 w1 hB (by omega) (by omega) (by omega) (by omega) (kS ?_)) (hc := w0)
    refine A.iconst d6_usable_16 ?_
    refine A.isub d6_usable_17 ?_
    refine A.s3 d6_usable_18 (s6_in (kS ?_))
    refine A.bz_ne d6_usable_21 (fun c21 => ?_) (fun c21 => ?_)
    · refine A.al3_0 d6_usable_27 ?_
      refine A.v0 d6_usable_28 (s6_charts w0 w1 hB w7 w8 w9 w10 w11 w12 w13 w14 w15 (fun h28 fl28 ch28 V28 F28x Re28 Ch28 Fm28 By28 Ie28 Ef28 Eb28 m28 e28 y28_7 y28_8 y28_9 y28_10 y28_11 y28_12 y28_13 y28_14 y28_15 sr28 cr28 f28 => kN ?_)) (hc := w0)
      have w0 := e28
      have w7 := y28_7
      have w8 := y28_8
      have w9 := y28_9
      have w10 := y28_10
      have w11 := y28_11
      have w12 := y28_12
      have w13 := y28_13
      have w14 := y28_14
      have w15 := y28_15
      have w1 := f28.get w1
      have w2 := f28.get w2
      have w3 := f28.get w3
      have w4 := f28.get w4
      have w5 := f28.get w5
      have w6 := f28.get w6
      have F28 := Fr.then (Fr.rfl (h := h) (a := q) (n := 16)) f28.fr (by omega) (by omega)
      have hX := chI_out hB 1984
      have hc : cR (drawn S) ch28 Re28 Ch28 Fm28 By28 Ie28 Ef28 Eb28 := cr28
      refine A.al3_0 d6_usable_31 ?_
      refine A.il3_1 d6_usable_32 ?_
      refine A.il3_2 d6_usable_33 ?_
      refine A.v2 d6_usable_34 (s6_isUsable w0 w1 hB w9 w10 w11 w12 w13 w14 w15 hX hc (by omega) (by omega) (by omega) (kS ?_)) (hc := w0)
      refine A.iret d6_usable_37 ?_
      exact rI (k _ ⟨_, _, _, _, _, _, _, _, _, _, _, _, _, _, _, _, _, _, _, _, _, _, _, _, w0, w1, w2, w3, w4, w5, w6, w7, w8, w9, w10, w11, w12, w13, w14, w15, hB, hP, hT⟩ F28) (if_pos (by omega) : usRR S v o = _).symm
    · refine A.bipush d6_usable_24 ?_
      refine A.iret d6_usable_26 ?_
      exact rI (k _ ⟨_, _, _, _, _, _, _, _, _, _, _, _, _, _, _, _, _, _, _, _, _, _, _, _, w0, w1, w2, w3, w4, w5, w6, w7, w8, w9, w10, w11, w12, w13, w14, w15, hB, hP, hT⟩ (Fr.rfl (h := h) (a := q) (n := 16))) (if_neg (by omega)).symm
set_option maxRecDepth 100000 in
set_option maxHeartbeats 4000000 in
theorem s6_ends {d : Nat} {h : AH} {R : RP} {q : Nat} {S : SC} {P : PL} {T : TX} (hM : mAt h q S P T) (k : ∀ h', mAt h' q S P T → Fr h h' q 16 → R (some (vI (enRR S))) h') : AM m6_ends (d + 5) h [vR q] R := by
  refine AM.of (L := [some (vR q), none, none]) ok_6_ends (by decide) (fun G => Nat.le_of_ble_eq_true rfl) rfl ?_
  obtain ⟨rd, fi, co, ah, se, ps, fa, fl, ch, hx, B, Rd, Mo, Sv, Iv, V, F, Re, Ch, Fm, By, Ie, Ef, Eb, w0, w1, w2, w3, w4, w5, w6, w7, w8, w9, w10, w11, w12, w13, w14, w15, hB, hP, hT⟩ := hM
  have hB1 := hB.1
  obtain ⟨⟨hr, hm, hsn⟩, ⟨hf0, hf1⟩, hc0, hc1⟩ := plR_now hP
  have n0 := row0 hr
  have hsk := sk_shown hm
  have hm1 := hm.1
  have hco := hP.2.1
  have hpr := hP.1.2
  refine A.iconst d6_ends_0 ?_
  refine A.is3_1 d6_ends_1 ?_
  refine A.al3_0 d6_ends_2 ?_
  refine A.v0 d6_ends_3 (s6_charts w0 w1 hB w7 w8 w9 w10 w11 w12 w13 w14 w15 (fun h3 fl3 ch3 V3 F3x Re3 Ch3 Fm3 By3 Ie3 Ef3 Eb3 m3 e3 y3_7 y3_8 y3_9 y3_10 y3_11 y3_12 y3_13 y3_14 y3_15 sr3 cr3 f3 => kN ?_)) (hc := w0)
  have w0 := e3
  have w7 := y3_7
  have w8 := y3_8
  have w9 := y3_9
  have w10 := y3_10
  have w11 := y3_11
  have w12 := y3_12
  have w13 := y3_13
  have w14 := y3_14
  have w15 := y3_15
  have w1 := f3.get w1
  have w2 := f3.get w2
  have w3 := f3.get w3
  have w4 := f3.get w4
  have w5 := f3.get w5
  have w6 := f3.get w6
  have F3 := Fr.then (Fr.rfl (h := h) (a := q) (n := 16)) f3.fr (by omega) (by omega)
  have hX := chI_out hB 1984
  have hc : cR (drawn S) ch3 Re3 Ch3 Fm3 By3 Ie3 Ef3 Eb3 := cr3
  refine A.iconst d6_ends_6 ?_
  refine A.is3_2 d6_ends_7 ?_
  have loop : ∀ (nf : Nat) (c : Nat) (hi : c ≤ 13) (hn : 13 - c < nf), AW m6_ends (d + 5) (mC m6_ends, mS m6_ends) 8 [some (vR q), some (vI (cntN (drawn S).2.2.2.2.2.2.1 c)), some (vI c)] [] h3 R := by
    intro nf
    induction nf with
    | zero => intro c hi hn; omega
    | succ nf ih =>
      intro c hi hn
      have hcn2 := cntN_le (drawn S).2.2.2.2.2.2.1 c
      refine A.il3_2 d6_ends_8 ?_
      refine A.bipush d6_ends_9 ?_
      refine A.ic_ge d6_ends_11 (fun c11 => ?_) (fun c11 => ?_)
      · refine A.il3_1 d6_ends_37 ?_
        refine A.iret d6_ends_38 ?_
        have e : c = 13 := by omega
        subst e
        exact k _ ⟨_, _, _, _, _, _, _, _, _, _, _, _, _, _, _, _, _, _, _, _, _, _, _, _, w0, w1, w2, w3, w4, w5, w6, w7, w8, w9, w10, w11, w12, w13, w14, w15, hB, hP, hT⟩ F3
      · have hie := (hc.2.2.2 c (by omega) (by omega)).1
        refine A.il3_1 d6_ends_14 ?_
        refine A.al3_0 d6_ends_15 ?_
        refine A.getf d6_ends_16 ?_ (hc := w0)
        refine A.il3_2 d6_ends_19 ?_
        refine A.bald d6_ends_20 ?_ (hc := w13)
        refine A.if_eq d6_ends_21 (fun c21 => ?_) (fun c21 => ?_)
        · refine A.iconst d6_ends_28 ?_
          refine A.iadd d6_ends_29 ?_
          refine A.is3_1 d6_ends_30 ?_
          refine A.ii3_2 d6_ends_31 ?_
          refine A.goto d6_ends_34 ?_
          have e1 := ih (c + 1) (by omega) (by omega)
          first | (rw [show cntN (drawn S).2.2.2.2.2.2.1 (c + 1) = cntN (drawn S).2.2.2.2.2.2.1 c + 1 from if_neg (by omega)] at e1; exact e1) | (rw [show cntN (drawn S).2.2.2.2.2.2.1 (c + 1) = cntN (drawn S).2.2.2.2.2.2.1 c from if_pos (by omega)] at e1; rw [Int.add_zero]; exact e1)
        · refine A.iconst d6_ends_24 ?_
          refine A.goto d6_ends_25 ?_
          refine A.iadd d6_ends_29 ?_
          refine A.is3_1 d6_ends_30 ?_
          refine A.ii3_2 d6_ends_31 ?_
          refine A.goto d6_ends_34 ?_
          have e1 := ih (c + 1) (by omega) (by omega)
          first | (rw [show cntN (drawn S).2.2.2.2.2.2.1 (c + 1) = cntN (drawn S).2.2.2.2.2.2.1 c + 1 from if_neg (by omega)] at e1; exact e1) | (rw [show cntN (drawn S).2.2.2.2.2.2.1 (c + 1) = cntN (drawn S).2.2.2.2.2.2.1 c from if_pos (by omega)] at e1; rw [Int.add_zero]; exact e1)
  exact loop 14 0 (by omega) (by omega)
