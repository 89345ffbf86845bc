/-! ===== the reference: restore, skip ===== -/
theorem goP_now {S : SC} {P : PL} {v : Int} (h0 : 0 ≤ (goM S P v).1) (h1 : (goM S P v).1 ≤ 30) : nowM (goP S P v) = goM S P v := by
  by_cases c : P.2.1 + 1 < 20
  · have e : goP S P v = _ := (if_pos c).trans (if_pos ⟨h0, Int.lt_of_le_of_lt h1 (by decide)⟩)
    rw [e]; exact mset_s _ _ _
  · have e : goP S P v = _ := (if_neg c).trans (if_pos ⟨h0, Int.lt_of_le_of_lt h1 (by decide)⟩)
    rw [e]; exact mset_s _ _ _
noncomputable def skN2 (S : SC) : Nat → PL → Int → PL × Int
  | 0, P, n => (P, n)
  | k + 1, P, n => if cSK S (nowM P).1 = 0 then (if seenB P (goM S P ((nowM P).1 + 1)).1 = 1 then skN2 S k (goP S P ((nowM P).1 + 1)) (n + 1) else (goP S P ((nowM P).1 + 1), n + 1)) else (P, n)
theorem skN2_nl {S : SC} {k : Nat} {P : PL} {n : Int} (h : cSK S (nowM P).1 ≠ 0) : skN2 S k P n = (P, n) := by
  cases k with
  | zero => rfl
  | succ k => exact if_neg h
noncomputable def skPP (S : SC) (P : PL) : PL := if cSK S (nowM P).1 = 0 then (skN2 S 60 P 0).1 else P
noncomputable def skRR (S : SC) (P : PL) : Int := if cSK S (nowM P).1 = 0 then (skN2 S 60 P 0).2 else -13
set_option maxRecDepth 100000 in
set_option maxHeartbeats 4000000 in
theorem s6_restore {d : Nat} {h : AH} {R : RP} {i : Int} {q : Nat} {S : SC} {P : PL} {T : TX} (hM : mAt h q S P T) (k : ∀ h', mAt h' q S (rsPP P i) T → Fr h h' q 16 → R (some (vI (rsRR P i))) h') : AM m6_restore (d + 2) h [vR q, vI i] R := by
  refine AM.of (L := [some (vR q), some (vI i), none]) ok_6_restore (by decide) (fun G => Nat.le_of_ble_eq_true rfl) rfl ?_
  obtain ⟨rd, fi, co, ah, se, ps, fa, fl, ch, hx, B, Rd, Mo, Sv, Iv, V, F, Re, Ch, Fm, By, Ie, Ef, Eb, w0, w1, w2, w3, w4, w5, w6, w7, w8, w9, w10, w11, w12, w13, w14, w15, hB, hP, hT⟩ := hM
  have hB1 := hB.1
  obtain ⟨⟨hr, hm, hsn⟩, ⟨hf0, hf1⟩, hc0, hc1⟩ := plR_now hP
  have n0 := row0 hr
  have hsk := sk_shown hm
  have hm1 := hm.1
  have hco := hP.2.1
  have hpr := hP.1.2
  have loop : ∀ (nf : Nat) (c : Nat) (Mo1 : Int → Int) (h1 : AH) (hi : c ≤ 8) (i0 : 0 ≤ i) (i2 : i ≤ 2) (hi1 : P.2.2.2.2.1 i = 1) (w0 : h1.2 q = some (mobj q S.1 rd 0 1 0 se T.1 ps fa fl ch hx)) (w1 : h1.2 (q + 1) = some (kA 0 348 B)) (w2 : h1.2 (q + 2) = some (kA 0 348 Rd)) (w3 : h1.2 (q + 3) = some (kA 0 160 Mo1)) (w4 : h1.2 (q + 4) = some (kA 0 24 Sv)) (w5 : h1.2 (q + 5) = some (kA 2 3 Iv)) (w6 : h1.2 (q + 6) = some (kA 0 100 T.2)) (w7 : h1.2 (q + 7) = some (kA 0 3 V)) (w8 : h1.2 (q + 8) = some (kA 0 3 F)) (w9 : h1.2 (q + 9) = some (kA 2 1984 Re)) (w10 : h1.2 (q + 10) = some (kA 0 1984 Ch)) (w11 : h1.2 (q + 11) = some (kA 0 1984 Fm)) (w12 : h1.2 (q + 12) = some (kA 0 1984 By)) (w13 : h1.2 (q + 13) = some (kA 2 13 Ie)) (w14 : h1.2 (q + 14) = some (kA 0 13 Ef)) (w15 : h1.2 (q + 15) = some (kA 0 13 Eb)) (hF : Fr h h1 q 16) (y0 : ∀ x : Int, 0 ≤ x → x < c → Mo1 x = Sv (8 * i + x)) (hn : 8 - c < nf), AW m6_restore (d + 2) (mC m6_restore, mS m6_restore) 41 [some (vR q), some (vI i), some (vI c)] [] h1 R := by
    intro nf
    induction nf with
    | zero => intro c  Mo1  h1  hi i0 i2 hi1 w0 w1 w2 w3 w4 w5 w6 w7 w8 w9 w10 w11 w12 w13 w14 w15 hF y0 hn; omega
    | succ nf ih =>
      intro c  Mo1  h1  hi i0 i2 hi1 w0 w1 w2 w3 w4 w5 w6 w7 w8 w9 w10 w11 w12 w13 w14 w15 hF y0 hn
      obtain ⟨-, -, iv3⟩ := hP.2.2.2.1 i i0 (by omega)
      obtain ⟨v1, v2, v3⟩ := iv3 hi1
      have v21 := v2.1
      refine A.il3_2 d6_restore_41 ?_
      refine A.bipush d6_restore_42 ?_
      refine A.ic_ge d6_restore_44 (fun c44 => ?_) (fun c44 => ?_)
      · have hrs : rowM Mo1 0 (P.2.2.2.2.2.2 i) := rowM_shift v1 (fun x x0 x1 => by rw [Int.zero_add]; exact y0 x x0 (by omega))
        have hP2 := plR_take hP i0 (by omega) hi1 hrs
        have nw : Mo1 (8 * ((0 + (1 - 1)) % 20) + 0) = (P.2.2.2.2.2.2 i).1 := hrs.1
        refine A.al3_0 d6_restore_70 ?_
        refine A.dup d6_restore_71 ?_
        refine A.getf d6_restore_72 ?_ (hc := w0)
        refine A.iconst d6_restore_75 ?_
        refine A.al3_0 d6_restore_76 ?_
        refine A.iconst d6_restore_77 ?_
        refine A.v1 d6_restore_78 (s6_present (B := B) w0 w3 (by omega) (by omega) (by omega) (by omega) (by omega) (by omega) (kS ?_)) (hc := w0)
        rw [nw]
        refine A.ishl d6_restore_81 ?_
        refine A.ior d6_restore_82 ?_
        refine A.putf d6_restore_83 (fun h83 e83 f83 => ?_) (hc := w0) (hk := blt_ok rfl)
        first | (have w0 := (f83.2 _ (by omega)).trans w0) | (have w0 := e83)
        first | (have w1 := (f83.2 _ (by omega)).trans w1) | (have w1 := e83)
        first | (have w2 := (f83.2 _ (by omega)).trans w2) | (have w2 := e83)
        first | (have w3 := (f83.2 _ (by omega)).trans w3) | (have w3 := e83)
        first | (have w4 := (f83.2 _ (by omega)).trans w4) | (have w4 := e83)
        first | (have w5 := (f83.2 _ (by omega)).trans w5) | (have w5 := e83)
        first | (have w6 := (f83.2 _ (by omega)).trans w6) | (have w6 := e83)
        first | (have w7 := (f83.2 _ (by omega)).trans w7) | (have w7 := e83)
        first | (have w8 := (f83.2 _ (by omega)).trans w8) | (have w8 := e83)
        first | (have w9 := (f83.2 _ (by omega)).trans w9) | (have w9 := e83)
        first | (have w10 := (f83.2 _ (by omega)).trans w10) | (have w10 := e83)
        first | (have w11 := (f83.2 _ (by omega)).trans w11) | (have w11 := e83)
        first | (have w12 := (f83.2 _ (by omega)).trans w12) | (have w12 := e83)
        first | (have w13 := (f83.2 _ (by omega)).trans w13) | (have w13 := e83)
        first | (have w14 := (f83.2 _ (by omega)).trans w14) | (have w14 := e83)
        first | (have w15 := (f83.2 _ (by omega)).trans w15) | (have w15 := e83)
        refine A.al3_0 d6_restore_86 ?_
        refine A.iconst d6_restore_87 ?_
        refine A.v1 d6_restore_88 (s6_present (B := B) w0 w3 (by omega) (by omega) (by omega) (by omega) (by omega) (by omega) (kS ?_)) (hc := w0)
        refine A.iret d6_restore_91 ?_
        have e : rsPP P i = _ := if_pos ⟨i0, by omega, hi1⟩
        exact rI (k _ (by rw [e]; exact ⟨_, _, _, _, _, _, _, _, _, _, _, _, _, _, _, _, _, _, _, _, _, _, _, _, w0, w1, w2, w3, w4, w5, w6, w7, w8, w9, w10, w11, w12, w13, w14, w15, hB, hP2, hT⟩) (hF.then f83 (by omega) (by omega))) (nw.trans ((if_pos (by omega)).trans (if_pos hi1) : rsRR P i = _).symm)
      · refine A.al3_0 d6_restore_47 ?_
        refine A.getf d6_restore_48 ?_ (hc := w0)
        refine A.il3_2 d6_restore_51 ?_
        refine A.al3_0 d6_restore_52 ?_
        refine A.getf d6_restore_53 ?_ (hc := w0)
        refine A.bipush d6_restore_56 ?_
        refine A.il3_1 d6_restore_58 ?_
        refine A.imul d6_restore_59 ?_
        refine A.il3_2 d6_restore_60 ?_
        refine A.iadd d6_restore_61 ?_
        refine A.iald d6_restore_62 ?_ (hc := w4)
        refine A.iast d6_restore_63 (fun h63 e63 f63 => ?_) (hc := w3)
        first | (have w0 := (f63.2 _ (by omega)).trans w0) | (have w0 := e63)
        first | (have w1 := (f63.2 _ (by omega)).trans w1) | (have w1 := e63)
        first | (have w2 := (f63.2 _ (by omega)).trans w2) | (have w2 := e63)
        first | (have w3 := (f63.2 _ (by omega)).trans w3) | (have w3 := e63)
        first | (have w4 := (f63.2 _ (by omega)).trans w4) | (have w4 := e63)
        first | (have w5 := (f63.2 _ (by omega)).trans w5) | (have w5 := e63)
        first | (have w6 := (f63.2 _ (by omega)).trans w6) | (have w6 := e63)
        first | (have w7 := (f63.2 _ (by omega)).trans w7) | (have w7 := e63)
        first | (have w8 := (f63.2 _ (by omega)).trans w8) | (have w8 := e63)
        first | (have w9 := (f63.2 _ (by omega)).trans w9) | (have w9 := e63)
        first | (have w10 := (f63.2 _ (by omega)).trans w10) | (have w10 := e63)
        first | (have w11 := (f63.2 _ (by omega)).trans w11) | (have w11 := e63)
        first | (have w12 := (f63.2 _ (by omega)).trans w12) | (have w12 := e63)
        first | (have w13 := (f63.2 _ (by omega)).trans w13) | (have w13 := e63)
        first | (have w14 := (f63.2 _ (by omega)).trans w14) | (have w14 := e63)
        first | (have w15 := (f63.2 _ (by omega)).trans w15) | (have w15 := e63)
        refine A.ii3_2 d6_restore_64 ?_
        refine A.goto d6_restore_67 ?_
        refine ih (c + 1) _ _ (by omega) i0 i2 hi1 w0 w1 w2 w3 w4 w5 w6 w7 w8 w9 w10 w11 w12 w13 w14 w15 (hF.then f63 (by omega) (by omega)) (fun x x0 x1 => ?_) (by omega)
        by_cases e : x = c
        · subst e
          exact fs_at rfl
        · exact (fs_off (by omega)).trans (y0 x x0 (by omega))
  refine A.il3_1 d6_restore_0 ?_
  refine A.iconst d6_restore_1 ?_
  refine A.iconst d6_restore_2 ?_
  refine A.s3 d6_restore_3 (s6_in (kS ?_))
  refine A.bz_ne d6_restore_6 (fun c6 => ?_) (fun c6 => ?_)
  · refine A.al3_0 d6_restore_12 ?_
    refine A.getf d6_restore_13 ?_ (hc := w0)
    obtain ⟨iv1, iv2, iv3⟩ := hP.2.2.2.1 i (by omega) (by omega)
    refine A.il3_1 d6_restore_16 ?_
    refine A.bald d6_restore_17 ?_ (hc := w5)
    refine A.if_ne d6_restore_18 (fun c18 => ?_) (fun c18 => ?_)
    · refine A.al3_0 d6_restore_24 ?_
      refine A.iconst d6_restore_25 ?_
      refine A.putf d6_restore_26 (fun h26 e26 f26 => ?_) (hc := w0) (hk := blt_ok rfl)
      first | (have w0 := (f26.2 _ (by omega)).trans w0) | (have w0 := e26)
      first | (have w1 := (f26.2 _ (by omega)).trans w1) | (have w1 := e26)
      first | (have w2 := (f26.2 _ (by omega)).trans w2) | (have w2 := e26)
      first | (have w3 := (f26.2 _ (by omega)).trans w3) | (have w3 := e26)
      first | (have w4 := (f26.2 _ (by omega)).trans w4) | (have w4 := e26)
      first | (have w5 := (f26.2 _ (by omega)).trans w5) | (have w5 := e26)
      first | (have w6 := (f26.2 _ (by omega)).trans w6) | (have w6 := e26)
      first | (have w7 := (f26.2 _ (by omega)).trans w7) | (have w7 := e26)
      first | (have w8 := (f26.2 _ (by omega)).trans w8) | (have w8 := e26)
      first | (have w9 := (f26.2 _ (by omega)).trans w9) | (have w9 := e26)
      first | (have w10 := (f26.2 _ (by omega)).trans w10) | (have w10 := e26)
      first | (have w11 := (f26.2 _ (by omega)).trans w11) | (have w11 := e26)
      first | (have w12 := (f26.2 _ (by omega)).trans w12) | (have w12 := e26)
      first | (have w13 := (f26.2 _ (by omega)).trans w13) | (have w13 := e26)
      first | (have w14 := (f26.2 _ (by omega)).trans w14) | (have w14 := e26)
      first | (have w15 := (f26.2 _ (by omega)).trans w15) | (have w15 := e26)
      have F26 := (Fr.rfl (h := h) (a := q) (n := 16)).then f26 (by omega) (by omega)
      refine A.al3_0 d6_restore_29 ?_
      refine A.iconst d6_restore_30 ?_
      refine A.putf d6_restore_31 (fun h31 e31 f31 => ?_) (hc := w0) (hk := blt_ok rfl)
      first | (have w0 := (f31.2 _ (by omega)).trans w0) | (have w0 := e31)
      first | (have w1 := (f31.2 _ (by omega)).trans w1) | (have w1 := e31)
      first | (have w2 := (f31.2 _ (by omega)).trans w2) | (have w2 := e31)
      first | (have w3 := (f31.2 _ (by omega)).trans w3) | (have w3 := e31)
      first | (have w4 := (f31.2 _ (by omega)).trans w4) | (have w4 := e31)
      first | (have w5 := (f31.2 _ (by omega)).trans w5) | (have w5 := e31)
      first | (have w6 := (f31.2 _ (by omega)).trans w6) | (have w6 := e31)
      first | (have w7 := (f31.2 _ (by omega)).trans w7) | (have w7 := e31)
      first | (have w8 := (f31.2 _ (by omega)).trans w8) | (have w8 := e31)
      first | (have w9 := (f31.2 _ (by omega)).trans w9) | (have w9 := e31)
      first | (have w10 := (f31.2 _ (by omega)).trans w10) | (have w10 := e31)
      first | (have w11 := (f31.2 _ (by omega)).trans w11) | (have w11 := e31)
      first | (have w12 := (f31.2 _ (by omega)).trans w12) | (have w12 := e31)
      first | (have w13 := (f31.2 _ (by omega)).trans w13) | (have w13 := e31)
      first | (have w14 := (f31.2 _ (by omega)).trans w14) | (have w14 := e31)
      first | (have w15 := (f31.2 _ (by omega)).trans w15) | (have w15 := e31)
      have F31 := F26.then f31 (by omega) (by omega)
      refine A.al3_0 d6_restore_34 ?_
      refine A.iconst d6_restore_35 ?_
      refine A.putf d6_restore_36 (fun h36 e36 f36 => ?_) (hc := w0) (hk := blt_ok rfl)
      first | (have w0 := (f36.2 _ (by omega)).trans w0) | (have w0 := e36)
      first | (have w1 := (f36.2 _ (by omega)).trans w1) | (have w1 := e36)
      first | (have w2 := (f36.2 _ (by omega)).trans w2) | (have w2 := e36)
      first | (have w3 := (f36.2 _ (by omega)).trans w3) | (have w3 := e36)
      first | (have w4 := (f36.2 _ (by omega)).trans w4) | (have w4 := e36)
      first | (have w5 := (f36.2 _ (by omega)).trans w5) | (have w5 := e36)
      first | (have w6 := (f36.2 _ (by omega)).trans w6) | (have w6 := e36)
      first | (have w7 := (f36.2 _ (by omega)).trans w7) | (have w7 := e36)
      first | (have w8 := (f36.2 _ (by omega)).trans w8) | (have w8 := e36)
      first | (have w9 := (f36.2 _ (by omega)).trans w9) | (have w9 := e36)
      first | (have w10 := (f36.2 _ (by omega)).trans w10) | (have w10 := e36)
      first | (have w11 := (f36.2 _ (by omega)).trans w11) | (have w11 := e36)
      first | (have w12 := (f36.2 _ (by omega)).trans w12) | (have w12 := e36)
      first | (have w13 := (f36.2 _ (by omega)).trans w13) | (have w13 := e36)
      first | (have w14 := (f36.2 _ (by omega)).trans w14) | (have w14 := e36)
      first | (have w15 := (f36.2 _ (by omega)).trans w15) | (have w15 := e36)
      have F36 := F31.then f36 (by omega) (by omega)
      refine A.iconst d6_restore_39 ?_
      refine A.is3_2 d6_restore_40 ?_
      exact loop 9 0 _ _ (by omega) (by omega) (by omega) (by omega) w0 w1 w2 w3 w4 w5 w6 w7 w8 w9 w10 w11 w12 w13 w14 w15 (F36) (fun x x0 x1 => by omega) (by omega)
    · refine A.bipush d6_restore_21 ?_
      refine A.iret d6_restore_23 ?_
      have e : rsPP P i = _ := if_neg (by omega)
      exact rI (k _ (by rw [e]; exact ⟨_, _, _, _, _, _, _, _, _, _, _, _, _, _, _, _, _, _, _, _, _, _, _, _, w0, w1, w2, w3, w4, w5, w6, w7, w8, w9, w10, w11, w12, w13, w14, w15, hB, hP, hT⟩) (Fr.rfl (h := h) (a := q) (n := 16))) ((if_pos (by omega)).trans (if_neg (by omega))).symm
  · refine A.bipush d6_restore_9 ?_
    refine A.iret d6_restore_11 ?_
    have e : rsPP P i = _ := if_neg (by omega)
    exact rI (k _ (by rw [e]; exact ⟨_, _, _, _, _, _, _, _, _, _, _, _, _, _, _, _, _, _, _, _, _, _, _, _, w0, w1, w2, w3, w4, w5, w6, w7, w8, w9, w10, w11, w12, w13, w14, w15, hB, hP, hT⟩) (Fr.rfl (h := h) (a := q) (n := 16))) (if_neg (by omega)).symm
set_option maxRecDepth 100000 in
set_option maxHeartbeats 4000000 in
theorem s6_skip {d : Nat} {h : AH} {R : RP} {q : Nat} {S : SC} {P : PL} {T : TX} (hM : mAt h q S P T) (k : ∀ h', mAt h' q S (skPP S P) T → Fr h h' q 16 → R (some (vI (skRR S P))) h') : AM m6_skip (d + 4) h [vR q] R := by
  refine AM.of (L := [some (vR q), none, none, none]) ok_6_skip (by decide) (fun G => Nat.le_of_ble_eq_true rfl) rfl ?_
  obtain ⟨rd, fi, co, ah, se, ps, fa, fl, ch, hx, B, Rd, Mo, Sv, Iv, V, F, Re, Ch, Fm, By, Ie, Ef, Eb, w0, w1, w2, w3, w4, w5, w6, w7, w8, w9, w10, w11, w12, w13, w14, w15, hB, hP, hT⟩ := hM
  have hB1 := hB.1
  obtain ⟨⟨hr, hm, hsn⟩, ⟨hf0, hf1⟩, hc0, hc1⟩ := plR_now hP
  have n0 := row0 hr
  have hsk := sk_shown hm
  have hm1 := hm.1
  have hco := hP.2.1
  have hpr := hP.1.2
  have fin : ∀ (i : Int) (x3 : Option AV) (P1 : PL) (fi1 co1 ah1 se1 fl1 : Int) (Mo1 V1 F1 : Int → Int) (h1 : AH) (hl0 : cSK S (nowM P).1 = 0) (w0 : h1.2 q = some (mobj q S.1 rd fi1 co1 ah1 se1 T.1 ps fa fl1 ch hx)) (w1 : h1.2 (q + 1) = some (kA 0 348 B)) (w2 : h1.2 (q + 2) = some (kA 0 348 Rd)) (w3 : h1.2 (q + 3) = some (kA 0 160 Mo1)) (w4 : h1.2 (q + 4) = some (kA 0 24 Sv)) (w5 : h1.2 (q + 5) = some (kA 2 3 Iv)) (w6 : h1.2 (q + 6) = some (kA 0 100 T.2)) (w7 : h1.2 (q + 7) = some (kA 0 3 V1)) (w8 : h1.2 (q + 8) = some (kA 0 3 F1)) (w9 : h1.2 (q + 9) = some (kA 2 1984 Re)) (w10 : h1.2 (q + 10) = some (kA 0 1984 Ch)) (w11 : h1.2 (q + 11) = some (kA 0 1984 Fm)) (w12 : h1.2 (q + 12) = some (kA 0 1984 By)) (w13 : h1.2 (q + 13) = some (kA 2 13 Ie)) (w14 : h1.2 (q + 14) = some (kA 0 13 Ef)) (w15 : h1.2 (q + 15) = some (kA 0 13 Eb)) (hF : Fr h h1 q 16) (hP : plR S P1 fi1 co1 ah1 se1 Mo1 Sv Iv) (he : skN2 S 60 P 0 = (P1, i)), AW m6_skip (d + 4) (mC m6_skip, mS m6_skip) 19 [some (vR q), some (vI i), some (vI 0), x3] [] h1 R := by
    intro i  x3  P1  fi1 co1 ah1 se1 fl1  Mo1 V1 F1  h1  hl0 w0 w1 w2 w3 w4 w5 w6 w7 w8 w9 w10 w11 w12 w13 w14 w15 hF hP he
    refine A.il4_2 d6_skip_19 ?_
    refine A.if_eq d6_skip_20 (fun c20 => ?_) (fun c20 => absurd rfl c20)
    refine A.il4_1 d6_skip_82 ?_
    refine A.iret d6_skip_83 ?_
    have e1 : skPP S P = P1 := (if_pos hl0).trans (congrArg (fun z => z.1) he)
    have e2 : skRR S P = i := (if_pos hl0).trans (congrArg (fun z => z.2) he)
    exact rI (k _ (by rw [e1]; exact ⟨_, _, _, _, _, _, _, _, _, _, _, _, _, _, _, _, _, _, _, _, _, _, _, _, w0, w1, w2, w3, w4, w5, w6, w7, w8, w9, w10, w11, w12, w13, w14, w15, hB, hP, hT⟩) hF) e2.symm
  have loop : ∀ (nf : Nat) (i : Nat) (x3 : Option AV) (P1 : PL) (fi1 co1 ah1 se1 fl1 : Int) (Mo1 V1 F1 : Int → Int) (h1 : AH) (hi : i ≤ 60) (hl0 : cSK S (nowM P).1 = 0) (hl : cSK S (nowM P1).1 = 0) (w0 : h1.2 q = some (mobj q S.1 rd fi1 co1 ah1 se1 T.1 ps fa fl1 ch hx)) (w1 : h1.2 (q + 1) = some (kA 0 348 B)) (w2 : h1.2 (q + 2) = some (kA 0 348 Rd)) (w3 : h1.2 (q + 3) = some (kA 0 160 Mo1)) (w4 : h1.2 (q + 4) = some (kA 0 24 Sv)) (w5 : h1.2 (q + 5) = some (kA 2 3 Iv)) (w6 : h1.2 (q + 6) = some (kA 0 100 T.2)) (w7 : h1.2 (q + 7) = some (kA 0 3 V1)) (w8 : h1.2 (q + 8) = some (kA 0 3 F1)) (w9 : h1.2 (q + 9) = some (kA 2 1984 Re)) (w10 : h1.2 (q + 10) = some (kA 0 1984 Ch)) (w11 : h1.2 (q + 11) = some (kA 0 1984 Fm)) (w12 : h1.2 (q + 12) = some (kA 0 1984 By)) (w13 : h1.2 (q + 13) = some (kA 2 13 Ie)) (w14 : h1.2 (q + 14) = some (kA 0 13 Ef)) (w15 : h1.2 (q + 15) = some (kA 0 13 Eb)) (hF : Fr h h1 q 16) (hP : plR S P1 fi1 co1 ah1 se1 Mo1 Sv Iv) (he : skN2 S 60 P 0 = skN2 S (60 - i) P1 i) (hn : 60 - i < nf), AW m6_skip (d + 4) (mC m6_skip, mS m6_skip) 19 [some (vR q), some (vI i), some (vI 1), x3] [] h1 R := by
    intro nf
    induction nf with
    | zero => intro i  x3  P1  fi1 co1 ah1 se1 fl1  Mo1 V1 F1  h1  hi hl0 hl w0 w1 w2 w3 w4 w5 w6 w7 w8 w9 w10 w11 w12 w13 w14 w15 hF hP he hn; omega
    | succ nf ih =>
      intro i  x3  P1  fi1 co1 ah1 se1 fl1  Mo1 V1 F1  h1  hi hl0 hl w0 w1 w2 w3 w4 w5 w6 w7 w8 w9 w10 w11 w12 w13 w14 w15 hF hP he hn
      obtain ⟨⟨hr, hm, hsn⟩, ⟨hf0, hf1⟩, hc0, hc1⟩ := plR_now hP
      have n0 := row0 hr
      have hm1 := hm.1
      have hkl := kd_lt (S := S) (v := (nowM P1).1) (by rw [sk_line hl]; decide)
      refine A.il4_2 d6_skip_19 ?_
      refine A.if_eq d6_skip_20 (fun c20 => absurd c20 (by decide)) (fun c20 => ?_)
      refine A.il4_1 d6_skip_23 ?_
      refine A.bipush d6_skip_24 ?_
      refine A.ic_ge d6_skip_26 (fun c26 => ?_) (fun c26 => ?_)
      · refine A.il4_1 d6_skip_82 ?_
        refine A.iret d6_skip_83 ?_
        have hz : skN2 S 60 P 0 = (P1, (i : Int)) := by rw [he, show 60 - i = 0 by omega]; rfl
        have e1 : skPP S P = P1 := (if_pos hl0).trans (congrArg (fun z => z.1) hz)
        have e2 : skRR S P = i := (if_pos hl0).trans (congrArg (fun z => z.2) hz)
        exact rI (k _ (by rw [e1]; exact ⟨_, _, _, _, _, _, _, _, _, _, _, _, _, _, _, _, _, _, _, _, _, _, _, _, w0, w1, w2, w3, w4, w5, w6, w7, w8, w9, w10, w11, w12, w13, w14, w15, hB, hP, hT⟩) hF) e2.symm
      · refine A.al4_0 d6_skip_29 ?_
        refine A.getf d6_skip_30 ?_ (hc := w0)
        refine A.is4_3 d6_skip_33 ?_
        refine A.al4_0 d6_skip_34 ?_
        refine A.al4_0 d6_skip_35 ?_
        refine A.iconst d6_skip_36 ?_
        refine A.v1 d6_skip_37 (s6_present (B := B) w0 w3 hf0 hf1 hc0 hc1 (by omega) (by omega) (kS ?_)) (hc := w0)
        rw [n0]
        refine A.iconst d6_skip_40 ?_
        refine A.iadd d6_skip_41 ?_
        refine A.v1 d6_skip_42 (s6_goesOn w0 w1 hB w3 w7 w8 hf0 hf1 hc0 hc1 hr hm (by omega) (by omega) (fun h42 fl42 Mo42 V42 F42x fi42 co42 e42 y42 u42 z42 n42 r42 o42 s42 f42 => kN ?_)) (hc := w0)
        have w0 := e42
        have w3 := y42
        have w7 := u42
        have w8 := z42
        have w1 := f42.get w1
        have w2 := f42.get w2
        have w4 := f42.get w4
        have w5 := f42.get w5
        have w6 := f42.get w6
        have w9 := f42.get w9
        have w10 := f42.get w10
        have w11 := f42.get w11
        have w12 := f42.get w12
        have w13 := f42.get w13
        have w14 := f42.get w14
        have w15 := f42.get w15
        have hcr := cCome_rng hB (nowM P1) (v := (nowM P1).1 + 1) (by omega) (by omega)
        have hok : moOk S (goM S P1 ((nowM P1).1 + 1)) := scr_ok s42 hcr.1.1 hcr.1.2 hcr.2
        have hP2 := plR_go hP n42 r42 hok o42
        have hq := plR_now hP2
        have n2 : Mo42 (8 * ((fi42 + (co42 - 1)) % 20) + 0) = (goM S P1 ((nowM P1).1 + 1)).1 := row0 r42
        have hgn := goP_now (S := S) (P := P1) (v := (nowM P1).1 + 1) hcr.1.1 hcr.1.2
        have hok1 := hok.1
        have hsb : seenB P1 (goM S P1 ((nowM P1).1 + 1)).1 = bAnd (bShr se1 (goM S P1 ((nowM P1).1 + 1)).1) 1 := (if_pos ⟨hok1.1, by omega⟩).trans (hP.2.2.2.2 _ hok1.1 (by omega))
        obtain ⟨j, hj⟩ : ∃ j, 60 - i = j + 1 := ⟨60 - i - 1, by omega⟩
        rw [hj, show skN2 S (j + 1) P1 i = _ from if_pos hl] at he
        refine A.ii4_1 d6_skip_45 ?_
        refine A.al4_0 d6_skip_48 ?_
        refine A.al4_0 d6_skip_49 ?_
        refine A.iconst d6_skip_50 ?_
        refine A.v1 d6_skip_51 (s6_present (B := B) w0 w3 hq.2.1.1 hq.2.1.2 hq.2.2.1 hq.2.2.2 (by omega) (by omega) (kS ?_)) (hc := w0)
        rw [n2]
        refine A.v1 d6_skip_54 (s6_shownKind w0 w1 hB hok1.1 (kS ?_)) (hc := w0)
        rw [sk_shown hok]
        refine A.if_ne d6_skip_57 (fun c57 => ?_) (fun c57 => ?_)
        · refine A.iconst d6_skip_77 ?_
          refine A.is4_2 d6_skip_78 ?_
          refine A.goto d6_skip_79 ?_
          exact fin _ _ _ _ _ _ _ _ _ _ _ _ hl0 w0 w1 w2 w3 w4 w5 w6 w7 w8 w9 w10 w11 w12 w13 w14 w15 (hF.then f42.fr (by omega) (by omega)) hP2 (by
            rw [he]
            first
              | exact if_neg (fun z => c70 (hsb.symm.trans z))
              | (by_cases z : seenB P1 (goM S P1 ((nowM P1).1 + 1)).1 = 1
                 · rw [if_pos z]; exact skN2_nl (by rw [hgn]; exact c57)
                 · rw [if_neg z]))
        · refine A.il4_3 d6_skip_60 ?_
          refine A.al4_0 d6_skip_61 ?_
          refine A.iconst d6_skip_62 ?_
          refine A.v1 d6_skip_63 (s6_present (B := B) w0 w3 hq.2.1.1 hq.2.1.2 hq.2.2.1 hq.2.2.2 (by omega) (by omega) (kS ?_)) (hc := w0)
          rw [n2]
          refine A.ishr d6_skip_66 ?_
          refine A.iconst d6_skip_67 ?_
          refine A.iand d6_skip_68 ?_
          refine A.iconst d6_skip_69 ?_
          refine A.ic_ne d6_skip_70 (fun c70 => ?_) (fun c70 => ?_)
          · refine A.iconst d6_skip_77 ?_
            refine A.is4_2 d6_skip_78 ?_
            refine A.goto d6_skip_79 ?_
            exact fin _ _ _ _ _ _ _ _ _ _ _ _ hl0 w0 w1 w2 w3 w4 w5 w6 w7 w8 w9 w10 w11 w12 w13 w14 w15 (hF.then f42.fr (by omega) (by omega)) hP2 (by
              rw [he]
              first
                | exact if_neg (fun z => c70 (hsb.symm.trans z))
                | (by_cases z : seenB P1 (goM S P1 ((nowM P1).1 + 1)).1 = 1
                   · rw [if_pos z]; exact skN2_nl (by rw [hgn]; exact c57)
                   · rw [if_neg z]))
          · refine A.iconst d6_skip_73 ?_
            refine A.goto d6_skip_74 ?_
            refine A.is4_2 d6_skip_78 ?_
            refine A.goto d6_skip_79 ?_
            rw [if_pos (hsb.trans c70)] at he
            exact ih (i + 1) _ _ _ _ _ _ _ _ _ _ _ (by omega) hl0 (by rw [hgn]; exact c57) w0 w1 w2 w3 w4 w5 w6 w7 w8 w9 w10 w11 w12 w13 w14 w15 (hF.then f42.fr (by omega) (by omega)) hP2 (by rw [he, show 60 - (i + 1) = j by omega]; rfl) (by omega)
  refine A.al4_0 d6_skip_0 ?_
  refine A.al4_0 d6_skip_1 ?_
  refine A.iconst d6_skip_2 ?_
  refine A.v1 d6_skip_3 (s6_present (B := B) w0 w3 hf0 hf1 hc0 hc1 (by omega) (by omega) (kS ?_)) (hc := w0)
  rw [n0]
  refine A.v1 d6_skip_6 (s6_shownKind w0 w1 hB (by omega) (kS ?_)) (hc := w0)
  rw [hsk]
  refine A.if_eq d6_skip_9 (fun c9 => ?_) (fun c9 => ?_)
  · refine A.iconst d6_skip_15 ?_
    refine A.is4_1 d6_skip_16 ?_
    refine A.iconst d6_skip_17 ?_
    refine A.is4_2 d6_skip_18 ?_
    exact loop 61 0 _ P _ _ _ _ _ _ _ _ _ (by omega) c9 c9 w0 w1 w2 w3 w4 w5 w6 w7 w8 w9 w10 w11 w12 w13 w14 w15 Fr.rfl hP rfl (by omega)
  · refine A.bipush d6_skip_12 ?_
    refine A.iret d6_skip_14 ?_
    have e : skPP S P = _ := if_neg c9
    exact rI (k _ (by rw [e]; exact ⟨_, _, _, _, _, _, _, _, _, _, _, _, _, _, _, _, _, _, _, _, _, _, _, _, w0, w1, w2, w3, w4, w5, w6, w7, w8, w9, w10, w11, w12, w13, w14, w15, hB, hP, hT⟩) (Fr.rfl (h := h) (a := q) (n := 16))) (if_neg c9).symm
