/-! ===== the reference: begin, go, choose, back, again ===== -/
def nowM (P : PL) : MO := P.2.2.2.1 P.2.1
theorem plR_now {S : SC} {P : PL} {fi co ah se : Int} {Mo Sv Iv : Int → Int} (h : plR S P fi co ah se Mo Sv Iv) : (rowM Mo (8 * ((fi + (co - 1)) % 20)) (nowM P) ∧ moOk S (nowM P) ∧ P.2.2.2.2.2.1 (nowM P).1 = 1) ∧ (0 ≤ fi ∧ fi < 20) ∧ 1 ≤ co ∧ co ≤ 20 := by
  obtain ⟨⟨a, b, c, d⟩, ⟨e, f⟩, g, -⟩ := h
  have := g P.2.1 b c
  rw [show fi + P.2.1 = fi + (co - 1) by omega] at this
  exact ⟨this, a, by omega, by omega⟩
theorem row0 {Mo : Int → Int} {p : Int} {m : MO} (h : rowM Mo p m) : Mo (p + 0) = m.1 := (congrArg Mo (Int.add_zero p)).trans h.1
theorem sk_shown {S : SC} {m : MO} (h : moOk S m) : rSK S m.1 = cSK S m.1 := pif_t h.2.2.1
theorem sk_line {S : SC} {v : Int} (h : cSK S v = 0) : cKind S v = 0 := by
  unfold cSK at h; (repeat' split at h) <;> omega
theorem sk_choice {S : SC} {v : Int} (h : cSK S v = 1) : cKind S v = 6 := by
  unfold cSK at h; (repeat' split at h) <;> omega
theorem kd_lt {S : SC} {v : Int} (h : cKind S v ≠ -1) : 0 ≤ v ∧ v < S.1 ∧ v < 29 := Classical.byContradiction fun z => h (if_neg z)
noncomputable def goPP (S : SC) (P : PL) : PL := if cSK S (nowM P).1 = 0 then goP S P ((nowM P).1 + 1) else P
noncomputable def goRR (S : SC) (P : PL) : Int := if cSK S (nowM P).1 = 0 then (goM S P ((nowM P).1 + 1)).1 else -13
noncomputable def chPP (S : SC) (P : PL) (o : Int) : PL := pif (cOpen S (nowM P).1 o (nowM P).2.1) (goP S P (cPart S (nowM P).1 o 0)) P
noncomputable def chRR (S : SC) (P : PL) (o : Int) : Int := if o < 0 then -12 else pif (cOpen S (nowM P).1 o (nowM P).2.1) (goM S P (cPart S (nowM P).1 o 0)).1 (-13)
def bkPP (P : PL) (t : Int) : PL := if 1 ≤ t ∧ t ≤ 20 ∧ t ≤ P.2.1 then (P.1, P.2.1 - t, P.2.2) else P
def bkRR (P : PL) (t : Int) : Int := if 1 ≤ t ∧ t ≤ 20 then (if t ≤ P.2.1 then (P.2.2.2.1 (P.2.1 - t)).1 else -13) else -12
def agPP (P : PL) : PL := if P.2.1 + 1 < P.1 then (P.1, P.2.1 + 1, P.2.2) else P
def agRR (P : PL) : Int := if P.2.1 + 1 < P.1 then (P.2.2.2.1 (P.2.1 + 1)).1 else -13
set_option maxRecDepth 100000 in
set_option maxHeartbeats 4000000 in
theorem s6_begin {d : Nat} {h : AH} {R : RP} {q : Nat} {S : SC} {P : PL} {T : TX} (hM : mAt h q S P T) (k : ∀ h', mAt h' q S (anewP S P) T → Fr h h' q 16 → R (some (vI ((cCome S (emptyM (P.2.2.2.1 0)) 0).1))) h') : AM m6_begin (d + 4) h [vR q] R := by
  refine AM.of (L := [some (vR q)]) ok_6_begin (by decide) (fun G => Nat.le_of_ble_eq_true rfl) rfl ?_
  obtain ⟨rd, fi, co, ah, se, ps, fa, fl, ch, hx, B, Rd, Mo, Sv, Iv, V, F, Re, Ch, Fm, By, Ie, Ef, Eb, w0, w1, w2, w3, w4, w5, w6, w7, w8, w9, w10, w11, w12, w13, w14, w15, hB, hP, hT⟩ := hM
  have hB1 := hB.1
  obtain ⟨⟨hr, hm, hsn⟩, ⟨hf0, hf1⟩, hc0, hc1⟩ := plR_now hP
  have n0 := row0 hr
  have hsk := sk_shown hm
  have hm1 := hm.1
  have hco := hP.2.1
  have hpr := hP.1.2
  refine A.al1_0 d6_begin_0 ?_
  refine A.v0 d6_begin_1 (s6_starts (m := P.2.2.2.1 0) w0 w1 hB w3 w7 w8 (fun h1 fl1 Mo1 V1 F1x e1 y1 u1 z1 r1 s1 f1 => kN ?_)) (hc := w0)
  have w0 := e1
  have w3 := y1
  have w7 := u1
  have w8 := z1
  have w1 := f1.get w1
  have w2 := f1.get w2
  have w4 := f1.get w4
  have w5 := f1.get w5
  have w6 := f1.get w6
  have w9 := f1.get w9
  have w10 := f1.get w10
  have w11 := f1.get w11
  have w12 := f1.get w12
  have w13 := f1.get w13
  have w14 := f1.get w14
  have w15 := f1.get w15
  have F1 := Fr.then (Fr.rfl (h := h) (a := q) (n := 16)) f1.fr (by omega) (by omega)
  have hcr := cCome_rng hB (emptyM (P.2.2.2.1 0)) (v := 0) (by omega) (by omega)
  have hok := scr_ok s1 hcr.1.1 hcr.1.2 hcr.2
  have hP2 := plR_anew hP r1 hok
  refine A.al1_0 d6_begin_4 ?_
  refine A.iconst d6_begin_5 ?_
  refine A.v1 d6_begin_6 (s6_present (B := B) w0 w3 (by omega) (by omega) (by omega) (by omega) (by omega) (by omega) (kS ?_)) (hc := w0)
  refine A.iret d6_begin_9 ?_
  exact rI (k _ ⟨_, _, _, _, _, _, _, _, _, _, _, _, _, _, _, _, _, _, _, _, _, _, _, _, w0, w1, w2, w3, w4, w5, w6, w7, w8, w9, w10, w11, w12, w13, w14, w15, hB, hP2, hT⟩ F1) (row0 (p := 0) r1)
set_option maxRecDepth 100000 in
set_option maxHeartbeats 4000000 in
theorem s6_go {d : Nat} {h : AH} {R : RP} {q : Nat} {S : SC} {P : PL} {T : TX} (hM : mAt h q S P T) (k : ∀ h', mAt h' q S (goPP S P) T → Fr h h' q 16 → R (some (vI (goRR S P))) h') : AM m6_go (d + 4) h [vR q] R := by
  refine AM.of (L := [some (vR q)]) ok_6_go (by decide) (fun G => Nat.le_of_ble_eq_true rfl) rfl ?_
  obtain ⟨rd, fi, co, ah, se, ps, fa, fl, ch, hx, B, Rd, Mo, Sv, Iv, V, F, Re, Ch, Fm, By, Ie, Ef, Eb, w0, w1, w2, w3, w4, w5, w6, w7, w8, w9, w10, w11, w12, w13, w14, w15, hB, hP, hT⟩ := hM
  have hB1 := hB.1
  obtain ⟨⟨hr, hm, hsn⟩, ⟨hf0, hf1⟩, hc0, hc1⟩ := plR_now hP
  have n0 := row0 hr
  have hsk := sk_shown hm
  have hm1 := hm.1
  have hco := hP.2.1
  have hpr := hP.1.2
  refine A.al1_0 d6_go_0 ?_
  refine A.al1_0 d6_go_1 ?_
  refine A.iconst d6_go_2 ?_
  refine A.v1 d6_go_3 (s6_present (B := B) w0 w3 hf0 hf1 hc0 hc1 (by omega) (by omega) (kS ?_)) (hc := w0)
  rw [n0]
  refine A.v1 d6_go_6 (s6_shownKind w0 w1 hB (by omega) (kS ?_)) (hc := w0)
  rw [hsk]
  refine A.if_eq d6_go_9 (fun c9 => ?_) (fun c9 => ?_)
  · have hkl := kd_lt (S := S) (v := (nowM P).1) (by rw [sk_line c9]; decide)
    refine A.al1_0 d6_go_15 ?_
    refine A.al1_0 d6_go_16 ?_
    refine A.iconst d6_go_17 ?_
    refine A.v1 d6_go_18 (s6_present (B := B) w0 w3 hf0 hf1 hc0 hc1 (by omega) (by omega) (kS ?_)) (hc := w0)
    rw [n0]
    refine A.iconst d6_go_21 ?_
    refine A.iadd d6_go_22 ?_
    refine A.v1 d6_go_23 (s6_goesOn w0 w1 hB w3 w7 w8 hf0 hf1 hc0 hc1 hr hm (by omega) (by omega) (fun h23 fl23 Mo23 V23 F23x fi23 co23 e23 y23 u23 z23 n23 r23 o23 s23 f23 => kN ?_)) (hc := w0)
    have w0 := e23
    have w3 := y23
    have w7 := u23
    have w8 := z23
    have w1 := f23.get w1
    have w2 := f23.get w2
    have w4 := f23.get w4
    have w5 := f23.get w5
    have w6 := f23.get w6
    have w9 := f23.get w9
    have w10 := f23.get w10
    have w11 := f23.get w11
    have w12 := f23.get w12
    have w13 := f23.get w13
    have w14 := f23.get w14
    have w15 := f23.get w15
    have F23 := Fr.then (Fr.rfl (h := h) (a := q) (n := 16)) f23.fr (by omega) (by omega)
    have hcr := cCome_rng hB (nowM P) (v := (nowM P).1 + 1) (by omega) (by omega)
    have hok : moOk S (goM S P ((nowM P).1 + 1)) := scr_ok s23 hcr.1.1 hcr.1.2 hcr.2
    have hP2 := plR_go hP n23 r23 hok o23
    have hq := plR_now hP2
    have n2 := row0 r23
    refine A.al1_0 d6_go_26 ?_
    refine A.iconst d6_go_27 ?_
    refine A.v1 d6_go_28 (s6_present (B := B) w0 w3 hq.2.1.1 hq.2.1.2 hq.2.2.1 hq.2.2.2 (by omega) (by omega) (kS ?_)) (hc := w0)
    refine A.iret d6_go_31 ?_
    have e : goPP S P = _ := if_pos c9
    exact rI (k _ (by rw [e]; exact ⟨_, _, _, _, _, _, _, _, _, _, _, _, _, _, _, _, _, _, _, _, _, _, _, _, w0, w1, w2, w3, w4, w5, w6, w7, w8, w9, w10, w11, w12, w13, w14, w15, hB, hP2, hT⟩) F23) ((n2).trans (if_pos c9).symm)
  · refine A.bipush d6_go_12 ?_
    refine A.iret d6_go_14 ?_
    have e : goPP S P = _ := if_neg c9
    exact rI (k _ (by rw [e]; exact ⟨_, _, _, _, _, _, _, _, _, _, _, _, _, _, _, _, _, _, _, _, _, _, _, _, w0, w1, w2, w3, w4, w5, w6, w7, w8, w9, w10, w11, w12, w13, w14, w15, hB, hP, hT⟩) (Fr.rfl (h := h) (a := q) (n := 16))) (if_neg c9).symm
set_option maxRecDepth 100000 in
set_option maxHeartbeats 4000000 in
theorem s6_back {d : Nat} {h : AH} {R : RP} {t : Int} {q : Nat} {S : SC} {P : PL} {T : TX} (hM : mAt h q S P T) (k : ∀ h', mAt h' q S (bkPP P t) T → Fr h h' q 16 → R (some (vI (bkRR P t))) h') : AM m6_back (d + 2) h [vR q, vI t] R := by
  refine AM.of (L := [some (vR q), some (vI t)]) ok_6_back (by decide) (fun G => Nat.le_of_ble_eq_true rfl) rfl ?_
  obtain ⟨rd, fi, co, ah, se, ps, fa, fl, ch, hx, B, Rd, Mo, Sv, Iv, V, F, Re, Ch, Fm, By, Ie, Ef, Eb, w0, w1, w2, w3, w4, w5, w6, w7, w8, w9, w10, w11, w12, w13, w14, w15, hB, hP, hT⟩ := hM
  have hB1 := hB.1
  obtain ⟨⟨hr, hm, hsn⟩, ⟨hf0, hf1⟩, hc0, hc1⟩ := plR_now hP
  have n0 := row0 hr
  have hsk := sk_shown hm
  have hm1 := hm.1
  have hco := hP.2.1
  have hpr := hP.1.2
  refine A.il2_1 d6_back_0 ?_
  refine A.iconst d6_back_1 ?_
  refine A.bipush d6_back_2 ?_
  refine A.s3 d6_back_4 (s6_in (kS ?_))
  refine A.bz_ne d6_back_7 (fun c7 => ?_) (fun c7 => ?_)
  · refine A.il2_1 d6_back_13 ?_
    refine A.al2_0 d6_back_14 ?_
    refine A.getf d6_back_15 ?_ (hc := w0)
    refine A.ic_lt d6_back_18 (fun c18 => ?_) (fun c18 => ?_)
    · refine A.al2_0 d6_back_24 ?_
      refine A.dup d6_back_25 ?_
      refine A.getf d6_back_26 ?_ (hc := w0)
      refine A.il2_1 d6_back_29 ?_
      refine A.isub d6_back_30 ?_
      refine A.putf d6_back_31 (fun h31 e31 f31 => ?_) (hc := w0) (hk := blt_ok rfl)
      first | (have w0 := (f31.2 _ (by omega)).trans w0) | (have w0 := e31)
      first | (have w1 := (f31.2 _ (by omega)).trans w1) | (have w1 := e31)
      first | (have w2 := (f31.2 _ (by omega)).trans w2) | (have w2 := e31)
      first | (have w3 := (f31.2 _ (by omega)).trans w3) | (have w3 := e31)
      first | (have w4 := (f31.2 _ (by omega)).trans w4) | (have w4 := e31)
      first | (have w5 := (f31.2 _ (by omega)).trans w5) | (have w5 := e31)
      first | (have w6 := (f31.2 _ (by omega)).trans w6) | (have w6 := e31)
      first | (have w7 := (f31.2 _ (by omega)).trans w7) | (have w7 := e31)
      first | (have w8 := (f31.2 _ (by omega)).trans w8) | (have w8 := e31)
      first | (have w9 := (f31.2 _ (by omega)).trans w9) | (have w9 := e31)
      first | (have w10 := (f31.2 _ (by omega)).trans w10) | (have w10 := e31)
      first | (have w11 := (f31.2 _ (by omega)).trans w11) | (have w11 := e31)
      first | (have w12 := (f31.2 _ (by omega)).trans w12) | (have w12 := e31)
      first | (have w13 := (f31.2 _ (by omega)).trans w13) | (have w13 := e31)
      first | (have w14 := (f31.2 _ (by omega)).trans w14) | (have w14 := e31)
      first | (have w15 := (f31.2 _ (by omega)).trans w15) | (have w15 := e31)
      have F31 := (Fr.rfl (h := h) (a := q) (n := 16)).then f31 (by omega) (by omega)
      refine A.al2_0 d6_back_34 ?_
      refine A.dup d6_back_35 ?_
      refine A.getf d6_back_36 ?_ (hc := w0)
      refine A.il2_1 d6_back_39 ?_
      refine A.iadd d6_back_40 ?_
      refine A.putf d6_back_41 (fun h41 e41 f41 => ?_) (hc := w0) (hk := blt_ok rfl)
      first | (have w0 := (f41.2 _ (by omega)).trans w0) | (have w0 := e41)
      first | (have w1 := (f41.2 _ (by omega)).trans w1) | (have w1 := e41)
      first | (have w2 := (f41.2 _ (by omega)).trans w2) | (have w2 := e41)
      first | (have w3 := (f41.2 _ (by omega)).trans w3) | (have w3 := e41)
      first | (have w4 := (f41.2 _ (by omega)).trans w4) | (have w4 := e41)
      first | (have w5 := (f41.2 _ (by omega)).trans w5) | (have w5 := e41)
      first | (have w6 := (f41.2 _ (by omega)).trans w6) | (have w6 := e41)
      first | (have w7 := (f41.2 _ (by omega)).trans w7) | (have w7 := e41)
      first | (have w8 := (f41.2 _ (by omega)).trans w8) | (have w8 := e41)
      first | (have w9 := (f41.2 _ (by omega)).trans w9) | (have w9 := e41)
      first | (have w10 := (f41.2 _ (by omega)).trans w10) | (have w10 := e41)
      first | (have w11 := (f41.2 _ (by omega)).trans w11) | (have w11 := e41)
      first | (have w12 := (f41.2 _ (by omega)).trans w12) | (have w12 := e41)
      first | (have w13 := (f41.2 _ (by omega)).trans w13) | (have w13 := e41)
      first | (have w14 := (f41.2 _ (by omega)).trans w14) | (have w14 := e41)
      first | (have w15 := (f41.2 _ (by omega)).trans w15) | (have w15 := e41)
      have F41 := F31.then f41 (by omega) (by omega)
      have hP2 := plR_back (t := t) hP (by omega) (by omega)
      have hq := plR_now hP2
      refine A.al2_0 d6_back_44 ?_
      refine A.iconst d6_back_45 ?_
      refine A.v1 d6_back_46 (s6_present (B := B) w0 w3 hq.2.1.1 hq.2.1.2 hq.2.2.1 hq.2.2.2 (by omega) (by omega) (kS ?_)) (hc := w0)
      refine A.iret d6_back_49 ?_
      have e : bkPP P t = _ := if_pos (by omega)
      exact rI (k _ (by rw [e]; exact ⟨_, _, _, _, _, _, _, _, _, _, _, _, _, _, _, _, _, _, _, _, _, _, _, _, w0, w1, w2, w3, w4, w5, w6, w7, w8, w9, w10, w11, w12, w13, w14, w15, hB, hP2, hT⟩) F41) ((row0 hq.1.1).trans ((if_pos (by omega)).trans (if_pos (by omega)) : bkRR P t = _).symm)
    · refine A.bipush d6_back_21 ?_
      refine A.iret d6_back_23 ?_
      have e : bkPP P t = _ := if_neg (by omega)
      exact rI (k _ (by rw [e]; exact ⟨_, _, _, _, _, _, _, _, _, _, _, _, _, _, _, _, _, _, _, _, _, _, _, _, w0, w1, w2, w3, w4, w5, w6, w7, w8, w9, w10, w11, w12, w13, w14, w15, hB, hP, hT⟩) (Fr.rfl (h := h) (a := q) (n := 16))) ((if_pos (by omega)).trans (if_neg (by omega))).symm
  · refine A.bipush d6_back_10 ?_
    refine A.iret d6_back_12 ?_
    have e : bkPP P t = _ := if_neg (by omega)
    exact rI (k _ (by rw [e]; exact ⟨_, _, _, _, _, _, _, _, _, _, _, _, _, _, _, _, _, _, _, _, _, _, _, _, w0, w1, w2, w3, w4, w5, w6, w7, w8, w9, w10, w11, w12, w13, w14, w15, hB, hP, hT⟩) (Fr.rfl (h := h) (a := q) (n := 16))) (if_neg (by omega)).symm
set_option maxRecDepth 100000 in
set_option maxHeartbeats 4000000 in
theorem s6_again {d : Nat} {h : AH} {R : RP} {q : Nat} {S : SC} {P : PL} {T : TX} (hM : mAt h q S P T) (k : ∀ h', mAt h' q S (agPP P) T → Fr h h' q 16 → R (some (vI (agRR P))) h') : AM m6_again (d + 2) h [vR q] R := by
  refine AM.of (L := [some (vR q)]) ok_6_again (by decide) (fun G => Nat.le_of_ble_eq_true rfl) rfl ?_
  obtain ⟨rd, fi, co, ah, se, ps, fa, fl, ch, hx, B, Rd, Mo, Sv, Iv, V, F, Re, Ch, Fm, By, Ie, Ef, Eb, w0, w1, w2, w3, w4, w5, w6, w7, w8, w9, w10, w11, w12, w13, w14, w15, hB, hP, hT⟩ := hM
  have hB1 := hB.1
  obtain ⟨⟨hr, hm, hsn⟩, ⟨hf0, hf1⟩, hc0, hc1⟩ := plR_now hP
  have n0 := row0 hr
  have hsk := sk_shown hm
  have hm1 := hm.1
  have hco := hP.2.1
  have hpr := hP.1.2
  refine A.al1_0 d6_again_0 ?_
  refine A.getf d6_again_1 ?_ (hc := w0)
  refine A.if_ne d6_again_4 (fun c4 => ?_) (fun c4 => ?_)
  · refine A.al1_0 d6_again_10 ?_
    refine A.dup d6_again_11 ?_
    refine A.getf d6_again_12 ?_ (hc := w0)
    refine A.iconst d6_again_15 ?_
    refine A.isub d6_again_16 ?_
    refine A.putf d6_again_17 (fun h17 e17 f17 => ?_) (hc := w0) (hk := blt_ok rfl)
    first | (have w0 := (f17.2 _ (by omega)).trans w0) | (have w0 := e17)
    first | (have w1 := (f17.2 _ (by omega)).trans w1) | (have w1 := e17)
    first | (have w2 := (f17.2 _ (by omega)).trans w2) | (have w2 := e17)
    first | (have w3 := (f17.2 _ (by omega)).trans w3) | (have w3 := e17)
    first | (have w4 := (f17.2 _ (by omega)).trans w4) | (have w4 := e17)
    first | (have w5 := (f17.2 _ (by omega)).trans w5) | (have w5 := e17)
    first | (have w6 := (f17.2 _ (by omega)).trans w6) | (have w6 := e17)
    first | (have w7 := (f17.2 _ (by omega)).trans w7) | (have w7 := e17)
    first | (have w8 := (f17.2 _ (by omega)).trans w8) | (have w8 := e17)
    first | (have w9 := (f17.2 _ (by omega)).trans w9) | (have w9 := e17)
    first | (have w10 := (f17.2 _ (by omega)).trans w10) | (have w10 := e17)
    first | (have w11 := (f17.2 _ (by omega)).trans w11) | (have w11 := e17)
    first | (have w12 := (f17.2 _ (by omega)).trans w12) | (have w12 := e17)
    first | (have w13 := (f17.2 _ (by omega)).trans w13) | (have w13 := e17)
    first | (have w14 := (f17.2 _ (by omega)).trans w14) | (have w14 := e17)
    first | (have w15 := (f17.2 _ (by omega)).trans w15) | (have w15 := e17)
    have F17 := (Fr.rfl (h := h) (a := q) (n := 16)).then f17 (by omega) (by omega)
    refine A.al1_0 d6_again_20 ?_
    refine A.dup d6_again_21 ?_
    refine A.getf d6_again_22 ?_ (hc := w0)
    refine A.iconst d6_again_25 ?_
    refine A.iadd d6_again_26 ?_
    refine A.putf d6_again_27 (fun h27 e27 f27 => ?_) (hc := w0) (hk := blt_ok rfl)
    first | (have w0 := (f27.2 _ (by omega)).trans w0) | (have w0 := e27)
    first | (have w1 := (f27.2 _ (by omega)).trans w1) | (have w1 := e27)
    first | (have w2 := (f27.2 _ (by omega)).trans w2) | (have w2 := e27)
    first | (have w3 := (f27.2 _ (by omega)).trans w3) | (have w3 := e27)
    first | (have w4 := (f27.2 _ (by omega)).trans w4) | (have w4 := e27)
    first | (have w5 := (f27.2 _ (by omega)).trans w5) | (have w5 := e27)
    first | (have w6 := (f27.2 _ (by omega)).trans w6) | (have w6 := e27)
    first | (have w7 := (f27.2 _ (by omega)).trans w7) | (have w7 := e27)
    first | (have w8 := (f27.2 _ (by omega)).trans w8) | (have w8 := e27)
    first | (have w9 := (f27.2 _ (by omega)).trans w9) | (have w9 := e27)
    first | (have w10 := (f27.2 _ (by omega)).trans w10) | (have w10 := e27)
    first | (have w11 := (f27.2 _ (by omega)).trans w11) | (have w11 := e27)
    first | (have w12 := (f27.2 _ (by omega)).trans w12) | (have w12 := e27)
    first | (have w13 := (f27.2 _ (by omega)).trans w13) | (have w13 := e27)
    first | (have w14 := (f27.2 _ (by omega)).trans w14) | (have w14 := e27)
    first | (have w15 := (f27.2 _ (by omega)).trans w15) | (have w15 := e27)
    have F27 := F17.then f27 (by omega) (by omega)
    have hP2 := plR_forth hP (by omega)
    have hq := plR_now hP2
    refine A.al1_0 d6_again_30 ?_
    refine A.iconst d6_again_31 ?_
    refine A.v1 d6_again_32 (s6_present (B := B) w0 w3 hq.2.1.1 hq.2.1.2 hq.2.2.1 hq.2.2.2 (by omega) (by omega) (kS ?_)) (hc := w0)
    refine A.iret d6_again_35 ?_
    have e : agPP P = _ := if_pos (by omega)
    exact rI (k _ (by rw [e]; exact ⟨_, _, _, _, _, _, _, _, _, _, _, _, _, _, _, _, _, _, _, _, _, _, _, _, w0, w1, w2, w3, w4, w5, w6, w7, w8, w9, w10, w11, w12, w13, w14, w15, hB, hP2, hT⟩) F27) ((row0 hq.1.1).trans (if_pos (by omega) : agRR P = _).symm)
  · refine A.bipush d6_again_7 ?_
    refine A.iret d6_again_9 ?_
    have e : agPP P = _ := if_neg (by omega)
    exact rI (k _ (by rw [e]; exact ⟨_, _, _, _, _, _, _, _, _, _, _, _, _, _, _, _, _, _, _, _, _, _, _, _, w0, w1, w2, w3, w4, w5, w6, w7, w8, w9, w10, w11, w12, w13, w14, w15, hB, hP, hT⟩) (Fr.rfl (h := h) (a := q) (n := 16))) (if_neg (by omega)).symm
