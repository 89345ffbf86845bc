/-! ===== the reference: choose, save, restore ===== -/
theorem rowM_shift {Mo Sv : Int → Int} {p r : Int} {m : MO} (h : rowM Mo p m) (e : ∀ x : Int, 0 ≤ x → x < 8 → Sv (r + x) = Mo (p + x)) : rowM Sv r m := by
  have e0 := e 0 (by omega) (by omega)
  rw [Int.add_zero, Int.add_zero] at e0
  refine ⟨e0.trans h.1, (e 1 (by omega) (by omega)).trans h.2.1, fun k k0 k1 => ?_⟩
  obtain ⟨a, b⟩ := h.2.2 k k0 k1
  rw [Int.add_assoc] at a b
  rw [Int.add_assoc, Int.add_assoc]
  exact ⟨(e _ (by omega) (by omega)).trans a, (e _ (by omega) (by omega)).trans b⟩
theorem cOpts0 {S : SC} {B : Int → Int} {v : Int} (hB : rScr B S) (h0 : 0 ≤ v) (h : cKind S v ≠ 6) : cOpts S v = 0 := by
  by_cases c : v < S.1
  · exact (hB.2 v h0 c).ro h
  · exact if_neg (by omega)
def svPP (P : PL) (i : Int) : PL := if 0 ≤ i ∧ i < 3 then keepP P i else P
def svRR (P : PL) (i : Int) : Int := if 0 ≤ i ∧ i < 3 then (nowM P).1 else -12
def rsPP (P : PL) (i : Int) : PL := if 0 ≤ i ∧ i < 3 ∧ P.2.2.2.2.1 i = 1 then takeP P i else P
def rsRR (P : PL) (i : Int) : Int := if 0 ≤ i ∧ i < 3 then (if P.2.2.2.2.1 i = 1 then (P.2.2.2.2.2.2 i).1 else -13) else -12
set_option maxRecDepth 100000 in
set_option maxHeartbeats 4000000 in
theorem s6_choose {d : Nat} {h : AH} {R : RP} {o : Int} {q : Nat} {S : SC} {P : PL} {T : TX} (hM : mAt h q S P T) (k : ∀ h', mAt h' q S (chPP S P o) T → Fr h h' q 16 → R (some (vI (chRR S P o))) h') : AM m6_choose (d + 4) h [vR q, vI o] R := by
  refine AM.of (L := [some (vR q), some (vI o), none]) ok_6_choose (by decide) (fun G => Nat.le_of_ble_eq_true rfl) rfl ?_
  obtain ⟨rd, fi, co, ah, se, ps, fa, fl, ch, hx, B, Rd, Mo, Sv, Iv, V, F, Re, Ch, Fm, By, Ie, Ef, Eb, w0, w1, w2, w3, w4, w5, w6, w7, w8, w9, w10, w11, w12, w13, w14, w15, hB, hP, hT⟩ := hM
  have hB1 := hB.1
  obtain ⟨⟨hr, hm, hsn⟩, ⟨hf0, hf1⟩, hc0, hc1⟩ := plR_now hP
  have n0 := row0 hr
  have hsk := sk_shown hm
  have hm1 := hm.1
  have hco := hP.2.1
  have hpr := hP.1.2
  refine A.il3_1 d6_choose_0 ?_
  refine A.if_ge d6_choose_1 (fun c1 => ?_) (fun c1 => ?_)
  · refine A.al3_0 d6_choose_7 ?_
    refine A.iconst d6_choose_8 ?_
    refine A.v1 d6_choose_9 (s6_present (B := B) w0 w3 hf0 hf1 hc0 hc1 (by omega) (by omega) (kS ?_)) (hc := w0)
    rw [n0]
    refine A.is3_2 d6_choose_12 ?_
    refine A.al3_0 d6_choose_13 ?_
    refine A.il3_2 d6_choose_14 ?_
    refine A.v1 d6_choose_15 (s6_shownKind w0 w1 hB (by omega) (kS ?_)) (hc := w0)
    rw [hsk]
    refine A.iconst d6_choose_18 ?_
    refine A.ic_ne d6_choose_19 (fun c19 => ?_) (fun c19 => ?_)
    · refine A.bipush d6_choose_46 ?_
      refine A.iret d6_choose_48 ?_
      have hno : ¬ cOpen S (nowM P).1 o (nowM P).2.1 := by
        first
          | exact c43
          | (intro z; have := z.2.1; omega)
          | (intro z; have := z.2.1; rw [cOpts0 hB hm1.1 (fun y => c19 (by unfold cSK; rw [if_neg (by omega), if_pos y]))] at this; omega)
      have e : chPP S P o = _ := pif_f hno
      exact rI (k _ (by rw [e]; exact ⟨_, _, _, _, _, _, _, _, _, _, _, _, _, _, _, _, _, _, _, _, _, _, _, _, w0, w1, w2, w3, w4, w5, w6, w7, w8, w9, w10, w11, w12, w13, w14, w15, hB, hP, hT⟩) (Fr.rfl (h := h) (a := q) (n := 16))) ((if_neg (by omega)).trans (pif_f hno) : chRR S P o = _).symm
    · have hk6 := sk_choice c19
      have hkl := kd_lt (S := S) (v := (nowM P).1) (by rw [hk6]; decide)
      have g := hB.2 _ hkl.1 hkl.2.1
      obtain ⟨ga, gb, gc⟩ := g.r6 hk6
      have gn := g.n0
      refine A.il3_1 d6_choose_22 ?_
      refine A.al3_0 d6_choose_23 ?_
      refine A.il3_2 d6_choose_24 ?_
      refine A.iconst d6_choose_25 ?_
      refine A.v2 d6_choose_26 (s6_of w0 w1 hB (by omega) (by omega) (by omega) (by omega) (kS ?_)) (hc := w0)
      refine A.ic_ge d6_choose_29 (fun c29 => ?_) (fun c29 => ?_)
      · refine A.bipush d6_choose_46 ?_
        refine A.iret d6_choose_48 ?_
        have hno : ¬ cOpen S (nowM P).1 o (nowM P).2.1 := by
          first
            | exact c43
            | (intro z; have := z.2.1; omega)
            | (intro z; have := z.2.1; rw [cOpts0 hB hm1.1 (fun y => c19 (by unfold cSK; rw [if_neg (by omega), if_pos y]))] at this; omega)
        have e : chPP S P o = _ := pif_f hno
        exact rI (k _ (by rw [e]; exact ⟨_, _, _, _, _, _, _, _, _, _, _, _, _, _, _, _, _, _, _, _, _, _, _, _, w0, w1, w2, w3, w4, w5, w6, w7, w8, w9, w10, w11, w12, w13, w14, w15, hB, hP, hT⟩) (Fr.rfl (h := h) (a := q) (n := 16))) ((if_neg (by omega)).trans (pif_f hno) : chRR S P o = _).symm
      · have ro := gc o (by omega) (by omega)
        refine A.al3_0 d6_choose_32 ?_
        refine A.il3_2 d6_choose_33 ?_
        refine A.il3_1 d6_choose_34 ?_
        refine A.al3_0 d6_choose_35 ?_
        refine A.iconst d6_choose_36 ?_
        refine A.v1 d6_choose_37 (s6_present (B := B) w0 w3 hf0 hf1 hc0 hc1 (by omega) (by omega) (kS ?_)) (hc := w0)
        rw [hr.2.1]
        refine A.v3 d6_choose_40 (s6_isLocked w0 w1 hB (by omega) (by omega) hk6 (by omega) (by omega) (kS ?_)) (hc := w0)
        refine A.bz_eq d6_choose_43 (fun c43 => ?_) (fun c43 => ?_)
        · refine A.al3_0 d6_choose_49 ?_
          refine A.al3_0 d6_choose_50 ?_
          refine A.il3_2 d6_choose_51 ?_
          refine A.iconst d6_choose_52 ?_
          refine A.iconst d6_choose_53 ?_
          refine A.il3_1 d6_choose_54 ?_
          refine A.imul d6_choose_55 ?_
          refine A.iadd d6_choose_56 ?_
          refine A.v2 d6_choose_57 (s6_of w0 w1 hB (by omega) (by omega) (by omega) (by omega) (kS ?_)) (hc := w0)
          rw [show B (12 * (nowM P).1 + (4 + 2 * o)) = cPart S (nowM P).1 o 0 by rw [show 12 * (nowM P).1 + (4 + 2 * o) = 12 * (nowM P).1 + 4 + 2 * o by omega]; exact ro.1]
          have ro3 := ro.2.2.1
          refine A.v1 d6_choose_60 (s6_goesOn w0 w1 hB w3 w7 w8 hf0 hf1 hc0 hc1 hr hm (by omega) (by omega) (fun h60 fl60 Mo60 V60 F60x fi60 co60 e60 y60 u60 z60 n60 r60 o60 s60 f60 => kN ?_)) (hc := w0)
          have w0 := e60
          have w3 := y60
          have w7 := u60
          have w8 := z60
          have w1 := f60.get w1
          have w2 := f60.get w2
          have w4 := f60.get w4
          have w5 := f60.get w5
          have w6 := f60.get w6
          have w9 := f60.get w9
          have w10 := f60.get w10
          have w11 := f60.get w11
          have w12 := f60.get w12
          have w13 := f60.get w13
          have w14 := f60.get w14
          have w15 := f60.get w15
          have F60 := Fr.then (Fr.rfl (h := h) (a := q) (n := 16)) f60.fr (by omega) (by omega)
          have hcr := cCome_rng hB (nowM P) (v := cPart S (nowM P).1 o 0) (by omega) (by omega)
          have hok : moOk S (goM S P (cPart S (nowM P).1 o 0)) := scr_ok s60 hcr.1.1 hcr.1.2 hcr.2
          have hP2 := plR_go hP n60 r60 hok o60
          have hq := plR_now hP2
          have n2 := row0 r60
          refine A.al3_0 d6_choose_63 ?_
          refine A.iconst d6_choose_64 ?_
          refine A.v1 d6_choose_65 (s6_present (B := B) w0 w3 hq.2.1.1 hq.2.1.2 hq.2.2.1 hq.2.2.2 (by omega) (by omega) (kS ?_)) (hc := w0)
          refine A.iret d6_choose_68 ?_
          have hop := Classical.not_not.1 c43
          have e : chPP S P o = _ := pif_t hop
          exact rI (k _ (by rw [e]; exact ⟨_, _, _, _, _, _, _, _, _, _, _, _, _, _, _, _, _, _, _, _, _, _, _, _, w0, w1, w2, w3, w4, w5, w6, w7, w8, w9, w10, w11, w12, w13, w14, w15, hB, hP2, hT⟩) F60) (n2.trans ((if_neg (by omega)).trans (pif_t hop) : chRR S P o = _).symm)
        · refine A.bipush d6_choose_46 ?_
          refine A.iret d6_choose_48 ?_
          have hno : ¬ cOpen S (nowM P).1 o (nowM P).2.1 := by
            first
              | exact c43
              | (intro z; have := z.2.1; omega)
              | (intro z; have := z.2.1; rw [cOpts0 hB hm1.1 (fun y => c19 (by unfold cSK; rw [if_neg (by omega), if_pos y]))] at this; omega)
          have e : chPP S P o = _ := pif_f hno
          exact rI (k _ (by rw [e]; exact ⟨_, _, _, _, _, _, _, _, _, _, _, _, _, _, _, _, _, _, _, _, _, _, _, _, w0, w1, w2, w3, w4, w5, w6, w7, w8, w9, w10, w11, w12, w13, w14, w15, hB, hP, hT⟩) (Fr.rfl (h := h) (a := q) (n := 16))) ((if_neg (by omega)).trans (pif_f hno) : chRR S P o = _).symm
  · refine A.bipush d6_choose_4 ?_
    refine A.iret d6_choose_6 ?_
    have e : chPP S P o = _ := pif_f (fun z => by have := z.1; omega)
    exact rI (k _ (by rw [e]; exact ⟨_, _, _, _, _, _, _, _, _, _, _, _, _, _, _, _, _, _, _, _, _, _, _, _, w0, w1, w2, w3, w4, w5, w6, w7, w8, w9, w10, w11, w12, w13, w14, w15, hB, hP, hT⟩) (Fr.rfl (h := h) (a := q) (n := 16))) (if_pos c1).symm
set_option maxRecDepth 100000 in
set_option maxHeartbeats 4000000 in
theorem s6_save {d : Nat} {h : AH} {R : RP} {i : Int} {q : Nat} {S : SC} {P : PL} {T : TX} (hM : mAt h q S P T) (k : ∀ h', mAt h' q S (svPP P i) T → Fr h h' q 16 → R (some (vI (svRR P i))) h') : AM m6_save (d + 2) h [vR q, vI i] R := by
  refine AM.of (L := [some (vR q), some (vI i), none]) ok_6_save (by decide) (fun G => Nat.le_of_ble_eq_true rfl) rfl ?_
  obtain ⟨rd, fi, co, ah, se, ps, fa, fl, ch, hx, B, Rd, Mo, Sv, Iv, V, F, Re, Ch, Fm, By, Ie, Ef, Eb, w0, w1, w2, w3, w4, w5, w6, w7, w8, w9, w10, w11, w12, w13, w14, w15, hB, hP, hT⟩ := hM
  have hB1 := hB.1
  obtain ⟨⟨hr, hm, hsn⟩, ⟨hf0, hf1⟩, hc0, hc1⟩ := plR_now hP
  have n0 := row0 hr
  have hsk := sk_shown hm
  have hm1 := hm.1
  have hco := hP.2.1
  have hpr := hP.1.2
  have loop : ∀ (nf : Nat) (c : Nat) (Sv1 : Int → Int) (h1 : AH) (hi : c ≤ 8) (i0 : 0 ≤ i) (i2 : i ≤ 2) (w0 : h1.2 q = some (mobj q S.1 rd fi co ah se T.1 ps fa fl ch hx)) (w1 : h1.2 (q + 1) = some (kA 0 348 B)) (w2 : h1.2 (q + 2) = some (kA 0 348 Rd)) (w3 : h1.2 (q + 3) = some (kA 0 160 Mo)) (w4 : h1.2 (q + 4) = some (kA 0 24 Sv1)) (w5 : h1.2 (q + 5) = some (kA 2 3 Iv)) (w6 : h1.2 (q + 6) = some (kA 0 100 T.2)) (w7 : h1.2 (q + 7) = some (kA 0 3 V)) (w8 : h1.2 (q + 8) = some (kA 0 3 F)) (w9 : h1.2 (q + 9) = some (kA 2 1984 Re)) (w10 : h1.2 (q + 10) = some (kA 0 1984 Ch)) (w11 : h1.2 (q + 11) = some (kA 0 1984 Fm)) (w12 : h1.2 (q + 12) = some (kA 0 1984 By)) (w13 : h1.2 (q + 13) = some (kA 2 13 Ie)) (w14 : h1.2 (q + 14) = some (kA 0 13 Ef)) (w15 : h1.2 (q + 15) = some (kA 0 13 Eb)) (hF : Fr h h1 q 16) (y0 : ∀ x : Int, 0 ≤ x → x < c → Sv1 (8 * i + x) = Mo (8 * ((fi + (co - 1)) % 20) + x)) (y1 : ∀ x : Int, ¬ (8 * i ≤ x ∧ x < 8 * i + 8) → Sv1 x = Sv x) (hn : 8 - c < nf), AW m6_save (d + 2) (mC m6_save, mS m6_save) 14 [some (vR q), some (vI i), some (vI c)] [] h1 R := by
    intro nf
    induction nf with
    | zero => intro c  Sv1  h1  hi i0 i2 w0 w1 w2 w3 w4 w5 w6 w7 w8 w9 w10 w11 w12 w13 w14 w15 hF y0 y1 hn; omega
    | succ nf ih =>
      intro c  Sv1  h1  hi i0 i2 w0 w1 w2 w3 w4 w5 w6 w7 w8 w9 w10 w11 w12 w13 w14 w15 hF y0 y1 hn
      refine A.il3_2 d6_save_14 ?_
      refine A.bipush d6_save_15 ?_
      refine A.ic_ge d6_save_17 (fun c17 => ?_) (fun c17 => ?_)
      · refine A.al3_0 d6_save_42 ?_
        refine A.getf d6_save_43 ?_ (hc := w0)
        refine A.il3_1 d6_save_46 ?_
        refine A.iconst d6_save_47 ?_
        refine A.bast d6_save_48 (fun h48 e48 f48 => ?_) (hc := w5)
        first | (have w0 := (f48.2 _ (by omega)).trans w0) | (have w0 := e48)
        first | (have w1 := (f48.2 _ (by omega)).trans w1) | (have w1 := e48)
        first | (have w2 := (f48.2 _ (by omega)).trans w2) | (have w2 := e48)
        first | (have w3 := (f48.2 _ (by omega)).trans w3) | (have w3 := e48)
        first | (have w4 := (f48.2 _ (by omega)).trans w4) | (have w4 := e48)
        first | (have w5 := (f48.2 _ (by omega)).trans w5) | (have w5 := e48)
        first | (have w6 := (f48.2 _ (by omega)).trans w6) | (have w6 := e48)
        first | (have w7 := (f48.2 _ (by omega)).trans w7) | (have w7 := e48)
        first | (have w8 := (f48.2 _ (by omega)).trans w8) | (have w8 := e48)
        first | (have w9 := (f48.2 _ (by omega)).trans w9) | (have w9 := e48)
        first | (have w10 := (f48.2 _ (by omega)).trans w10) | (have w10 := e48)
        first | (have w11 := (f48.2 _ (by omega)).trans w11) | (have w11 := e48)
        first | (have w12 := (f48.2 _ (by omega)).trans w12) | (have w12 := e48)
        first | (have w13 := (f48.2 _ (by omega)).trans w13) | (have w13 := e48)
        first | (have w14 := (f48.2 _ (by omega)).trans w14) | (have w14 := e48)
        first | (have w15 := (f48.2 _ (by omega)).trans w15) | (have w15 := e48)
        refine A.al3_0 d6_save_49 ?_
        refine A.iconst d6_save_50 ?_
        refine A.v1 d6_save_51 (s6_present (B := B) w0 w3 hf0 hf1 hc0 hc1 (by omega) (by omega) (kS ?_)) (hc := w0)
        refine A.iret d6_save_54 ?_
        have hrs : rowM Sv1 (8 * i) (nowM P) := rowM_shift hr (fun x x0 x1 => y0 x x0 (by omega))
        have hP2 := plR_keep hP i0 (by omega) hrs y1
        have e : svPP P i = _ := if_pos ⟨i0, by omega⟩
        exact rI (k _ (by rw [e]; exact ⟨_, _, _, _, _, _, _, _, _, _, _, _, _, _, _, _, _, _, _, _, _, _, _, _, w0, w1, w2, w3, w4, w5, w6, w7, w8, w9, w10, w11, w12, w13, w14, w15, hB, hP2, hT⟩) (hF.then f48 (by omega) (by omega))) (n0.trans (if_pos (by omega) : svRR P i = _).symm)
      · refine A.al3_0 d6_save_20 ?_
        refine A.getf d6_save_21 ?_ (hc := w0)
        refine A.bipush d6_save_24 ?_
        refine A.il3_1 d6_save_26 ?_
        refine A.imul d6_save_27 ?_
        refine A.il3_2 d6_save_28 ?_
        refine A.iadd d6_save_29 ?_
        refine A.al3_0 d6_save_30 ?_
        refine A.il3_2 d6_save_31 ?_
        refine A.v1 d6_save_32 (s6_present (B := B) w0 w3 hf0 hf1 hc0 hc1 (by omega) (by omega) (kS ?_)) (hc := w0)
        refine A.iast d6_save_35 (fun h35 e35 f35 => ?_) (hc := w4)
        first | (have w0 := (f35.2 _ (by omega)).trans w0) | (have w0 := e35)
        first | (have w1 := (f35.2 _ (by omega)).trans w1) | (have w1 := e35)
        first | (have w2 := (f35.2 _ (by omega)).trans w2) | (have w2 := e35)
        first | (have w3 := (f35.2 _ (by omega)).trans w3) | (have w3 := e35)
        first | (have w4 := (f35.2 _ (by omega)).trans w4) | (have w4 := e35)
        first | (have w5 := (f35.2 _ (by omega)).trans w5) | (have w5 := e35)
        first | (have w6 := (f35.2 _ (by omega)).trans w6) | (have w6 := e35)
        first | (have w7 := (f35.2 _ (by omega)).trans w7) | (have w7 := e35)
        first | (have w8 := (f35.2 _ (by omega)).trans w8) | (have w8 := e35)
        first | (have w9 := (f35.2 _ (by omega)).trans w9) | (have w9 := e35)
        first | (have w10 := (f35.2 _ (by omega)).trans w10) | (have w10 := e35)
        first | (have w11 := (f35.2 _ (by omega)).trans w11) | (have w11 := e35)
        first | (have w12 := (f35.2 _ (by omega)).trans w12) | (have w12 := e35)
        first | (have w13 := (f35.2 _ (by omega)).trans w13) | (have w13 := e35)
        first | (have w14 := (f35.2 _ (by omega)).trans w14) | (have w14 := e35)
        first | (have w15 := (f35.2 _ (by omega)).trans w15) | (have w15 := e35)
        refine A.ii3_2 d6_save_36 ?_
        refine A.goto d6_save_39 ?_
        refine ih (c + 1) _ _ (by omega) i0 i2 w0 w1 w2 w3 w4 w5 w6 w7 w8 w9 w10 w11 w12 w13 w14 w15 (hF.then f35 (by omega) (by omega)) (fun x x0 x1 => ?_) (fun x hx => (fs_off (by omega)).trans (y1 x hx)) (by omega)
        by_cases e : x = c
        · subst e
          exact fs_at rfl
        · exact (fs_off (by omega)).trans (y0 x x0 (by omega))
  refine A.il3_1 d6_save_0 ?_
  refine A.iconst d6_save_1 ?_
  refine A.iconst d6_save_2 ?_
  refine A.s3 d6_save_3 (s6_in (kS ?_))
  refine A.bz_ne d6_save_6 (fun c6 => ?_) (fun c6 => ?_)
  · refine A.iconst d6_save_12 ?_
    refine A.is3_2 d6_save_13 ?_
    exact loop 9 0 _ _ (by omega) (by omega) (by omega) w0 w1 w2 w3 w4 w5 w6 w7 w8 w9 w10 w11 w12 w13 w14 w15 Fr.rfl (fun x x0 x1 => by omega) (fun x hx => rfl) (by omega)
  · refine A.bipush d6_save_9 ?_
    refine A.iret d6_save_11 ?_
    have e : svPP P i = _ := if_neg (by omega)
    exact rI (k _ (by rw [e]; exact ⟨_, _, _, _, _, _, _, _, _, _, _, _, _, _, _, _, _, _, _, _, _, _, _, _, w0, w1, w2, w3, w4, w5, w6, w7, w8, w9, w10, w11, w12, w13, w14, w15, hB, hP, hT⟩) (Fr.rfl (h := h) (a := q) (n := 16))) (if_neg (by omega)).symm
