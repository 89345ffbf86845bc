/-! ===== the reference: reading; options; counts ===== -/
noncomputable def rdS (Sd : SC) (T : TX) : SC := addAll (0, Sd.2) (ffR T 29 0).2
theorem opx {S : SC} {v o w : Int} (h : cKind S v = 6) (h0 : 0 ≤ o) (h1 : 0 ≤ w) (h2 : w ≤ 2) (e : w = 0) : cPart S v o 0 = opRR S v o w := by
  subst e
  exact (if_pos ⟨h, h0, h1, h2⟩ : opRR S v o 0 = _).symm
noncomputable def rdSS (S Sd : SC) (T : TX) : SC := if (ffR T 29 0).1 = -11 then rdS Sd T else S
noncomputable def rdPP (P : PL) (Sd : SC) (T : TX) : PL := if (ffR T 29 0).1 = -11 then startP (rdS Sd T) P else P
noncomputable def rdRR (T : TX) : Int := if (ffR T 29 0).1 = -11 then ((ffR T 29 0).2.length : Nat) else -13
set_option maxRecDepth 100000 in
set_option maxHeartbeats 4000000 in
theorem s6_read {d : Nat} {h : AH} {R : RP} {Sd : SC} {q : Nat} {S : SC} {P : PL} {T : TX} (hM : mAt h q S P T) (k : ∀ h', mAt h' q (rdSS S Sd T) (rdPP P Sd T) T → Fr h h' q 16 → R (some (vI (rdRR T))) h') : AM m6_read (d + 6) h [vR q] R := by
  refine AM.of (L := [some (vR q), none]) ok_6_read (by decide) (fun G => Nat.le_of_ble_eq_true rfl) rfl ?_
  obtain ⟨rd, fi, co, ah, se, ps, fa, fl, ch, hx, B, Rd, Mo, Sv, Iv, V, F, Re, Ch, Fm, By, Ie, Ef, Eb, w0, w1, w2, w3, w4, w5, w6, w7, w8, w9, w10, w11, w12, w13, w14, w15, hB, hP, hT⟩ := hM
  have loopB : ∀ (nf : Nat) (i : Nat) (ps1 : Int) (B1 A1 Iv1 : Int → Int) (h1 : AH) (hi : i ≤ 3) (hz : (ffR T 29 0).1 = -11) (w0 : h1.2 q = some (mobj q (rdS Sd T).1 (rdS Sd T).1 fi co ah se T.1 ps1 (ffR T 29 0).1 fl ch hx)) (w1 : h1.2 (q + 1) = some (kA 0 348 B1)) (w2 : h1.2 (q + 2) = some (kA 0 348 A1)) (w3 : h1.2 (q + 3) = some (kA 0 160 Mo)) (w4 : h1.2 (q + 4) = some (kA 0 24 Sv)) (w5 : h1.2 (q + 5) = some (kA 2 3 Iv1)) (w6 : h1.2 (q + 6) = some (kA 0 100 T.2)) (w7 : h1.2 (q + 7) = some (kA 0 3 V)) (w8 : h1.2 (q + 8) = some (kA 0 3 F)) (w9 : h1.2 (q + 9) = some (kA 2 1984 Re)) (w10 : h1.2 (q + 10) = some (kA 0 1984 Ch)) (w11 : h1.2 (q + 11) = some (kA 0 1984 Fm)) (w12 : h1.2 (q + 12) = some (kA 0 1984 By)) (w13 : h1.2 (q + 13) = some (kA 2 13 Ie)) (w14 : h1.2 (q + 14) = some (kA 0 13 Ef)) (w15 : h1.2 (q + 15) = some (kA 0 13 Eb)) (hF : Fr h h1 q 16) (hB : rScr B1 (rdS Sd T)) (y : ∀ x : Int, 0 ≤ x → x < i → Iv1 x = 0) (hn : 3 - i < nf), AW m6_read (d + 6) (mC m6_read, mS m6_read) 57 [some (vR q), some (vI i)] [] h1 R := by
    intro nf
    induction nf with
    | zero => intro i  ps1  B1 A1 Iv1  h1  hi hz w0 w1 w2 w3 w4 w5 w6 w7 w8 w9 w10 w11 w12 w13 w14 w15 hF hB y hn; omega
    | succ nf ih =>
      intro i  ps1  B1 A1 Iv1  h1  hi hz w0 w1 w2 w3 w4 w5 w6 w7 w8 w9 w10 w11 w12 w13 w14 w15 hF hB y hn
      refine A.il2_1 d6_read_57 ?_
      refine A.iconst d6_read_58 ?_
      refine A.ic_ge d6_read_59 (fun c59 => ?_) (fun c59 => ?_)
      · refine A.al2_0 d6_read_75 ?_
        refine A.iconst d6_read_76 ?_
        refine A.putf d6_read_77 (fun h77 e77 f77 => ?_) (hc := w0) (hk := blt_ok rfl)
        first | (have w0 := (f77.2 _ (by omega)).trans w0) | (have w0 := e77)
        first | (have w1 := (f77.2 _ (by omega)).trans w1) | (have w1 := e77)
        first | (have w2 := (f77.2 _ (by omega)).trans w2) | (have w2 := e77)
        first | (have w3 := (f77.2 _ (by omega)).trans w3) | (have w3 := e77)
        first | (have w4 := (f77.2 _ (by omega)).trans w4) | (have w4 := e77)
        first | (have w5 := (f77.2 _ (by omega)).trans w5) | (have w5 := e77)
        first | (have w6 := (f77.2 _ (by omega)).trans w6) | (have w6 := e77)
        first | (have w7 := (f77.2 _ (by omega)).trans w7) | (have w7 := e77)
        first | (have w8 := (f77.2 _ (by omega)).trans w8) | (have w8 := e77)
        first | (have w9 := (f77.2 _ (by omega)).trans w9) | (have w9 := e77)
        first | (have w10 := (f77.2 _ (by omega)).trans w10) | (have w10 := e77)
        first | (have w11 := (f77.2 _ (by omega)).trans w11) | (have w11 := e77)
        first | (have w12 := (f77.2 _ (by omega)).trans w12) | (have w12 := e77)
        first | (have w13 := (f77.2 _ (by omega)).trans w13) | (have w13 := e77)
        first | (have w14 := (f77.2 _ (by omega)).trans w14) | (have w14 := e77)
        first | (have w15 := (f77.2 _ (by omega)).trans w15) | (have w15 := e77)
        refine A.al2_0 d6_read_80 ?_
        refine A.v0 d6_read_81 (s6_starts (m := P.2.2.2.1 0) w0 w1 hB w3 w7 w8 (fun h81 fl81 Mo81 V81 F81x e81 y81 u81 z81 r81 s81 f81 => kN ?_)) (hc := w0)
        have w0 := e81
        have w3 := y81
        have w7 := u81
        have w8 := z81
        have w1 := f81.get w1
        have w2 := f81.get w2
        have w4 := f81.get w4
        have w5 := f81.get w5
        have w6 := f81.get w6
        have w9 := f81.get w9
        have w10 := f81.get w10
        have w11 := f81.get w11
        have w12 := f81.get w12
        have w13 := f81.get w13
        have w14 := f81.get w14
        have w15 := f81.get w15
        have F81 := Fr.then (hF.then f77 (by omega) (by omega)) f81.fr (by omega) (by omega)
        have hcr := cCome_rng hB (emptyM (P.2.2.2.1 0)) (v := 0) (by omega) (by omega)
        have hok := scr_ok s81 hcr.1.1 hcr.1.2 hcr.2
        have hP2 := plR_start (S := rdS Sd T) (P := P) (Sv := Sv) (fun j j0 j1 => y j j0 (by omega)) r81 hok
        refine A.al2_0 d6_read_84 ?_
        refine A.getf d6_read_85 ?_ (hc := w0)
        refine A.iret d6_read_88 ?_
        have e1 : rdSS S Sd T = _ := if_pos hz
        have e2 : rdPP P Sd T = _ := if_pos hz
        have e3 : rdRR T = _ := if_pos hz
        exact rI (k _ (by rw [e1, e2]; exact ⟨_, _, _, _, _, _, _, _, _, _, _, _, _, _, _, _, _, _, _, _, _, _, _, _, w0, w1, w2, w3, w4, w5, w6, w7, w8, w9, w10, w11, w12, w13, w14, w15, hB, hP2, hT⟩) F81) (by rw [e3]; exact addAll_n)
      · refine A.al2_0 d6_read_62 ?_
        refine A.getf d6_read_63 ?_ (hc := w0)
        refine A.il2_1 d6_read_66 ?_
        refine A.iconst d6_read_67 ?_
        refine A.bast d6_read_68 (fun h68 e68 f68 => ?_) (hc := w5)
        first | (have w0 := (f68.2 _ (by omega)).trans w0) | (have w0 := e68)
        first | (have w1 := (f68.2 _ (by omega)).trans w1) | (have w1 := e68)
        first | (have w2 := (f68.2 _ (by omega)).trans w2) | (have w2 := e68)
        first | (have w3 := (f68.2 _ (by omega)).trans w3) | (have w3 := e68)
        first | (have w4 := (f68.2 _ (by omega)).trans w4) | (have w4 := e68)
        first | (have w5 := (f68.2 _ (by omega)).trans w5) | (have w5 := e68)
        first | (have w6 := (f68.2 _ (by omega)).trans w6) | (have w6 := e68)
        first | (have w7 := (f68.2 _ (by omega)).trans w7) | (have w7 := e68)
        first | (have w8 := (f68.2 _ (by omega)).trans w8) | (have w8 := e68)
        first | (have w9 := (f68.2 _ (by omega)).trans w9) | (have w9 := e68)
        first | (have w10 := (f68.2 _ (by omega)).trans w10) | (have w10 := e68)
        first | (have w11 := (f68.2 _ (by omega)).trans w11) | (have w11 := e68)
        first | (have w12 := (f68.2 _ (by omega)).trans w12) | (have w12 := e68)
        first | (have w13 := (f68.2 _ (by omega)).trans w13) | (have w13 := e68)
        first | (have w14 := (f68.2 _ (by omega)).trans w14) | (have w14 := e68)
        first | (have w15 := (f68.2 _ (by omega)).trans w15) | (have w15 := e68)
        refine A.ii2_1 d6_read_69 ?_
        refine A.goto d6_read_72 ?_
        refine ih (i + 1) _ _ _ _ _ (by omega) hz w0 w1 w2 w3 w4 w5 w6 w7 w8 w9 w10 w11 w12 w13 w14 w15 (hF.then f68 (by omega) (by omega)) hB (fun x x0 x1 => ?_) (by omega)
        by_cases e : x = i
        · exact fs_at e
        · exact (fs_off e).trans (y x x0 (by omega))
  have loopA : ∀ (nf : Nat) (i : Nat) (ps1 : Int) (B1 A1 : Int → Int) (h1 : AH) (hi : (i : Int) ≤ 12 * (rdS Sd T).1) (hz : (ffR T 29 0).1 = -11) (hA : rowsAre A1 (ffR T 29 0).2) (w0 : h1.2 q = some (mobj q S.1 (rdS Sd T).1 fi co ah se T.1 ps1 (ffR T 29 0).1 fl ch hx)) (w1 : h1.2 (q + 1) = some (kA 0 348 B1)) (w2 : h1.2 (q + 2) = some (kA 0 348 A1)) (w3 : h1.2 (q + 3) = some (kA 0 160 Mo)) (w4 : h1.2 (q + 4) = some (kA 0 24 Sv)) (w5 : h1.2 (q + 5) = some (kA 2 3 Iv)) (w6 : h1.2 (q + 6) = some (kA 0 100 T.2)) (w7 : h1.2 (q + 7) = some (kA 0 3 V)) (w8 : h1.2 (q + 8) = some (kA 0 3 F)) (w9 : h1.2 (q + 9) = some (kA 2 1984 Re)) (w10 : h1.2 (q + 10) = some (kA 0 1984 Ch)) (w11 : h1.2 (q + 11) = some (kA 0 1984 Fm)) (w12 : h1.2 (q + 12) = some (kA 0 1984 By)) (w13 : h1.2 (q + 13) = some (kA 2 13 Ie)) (w14 : h1.2 (q + 14) = some (kA 0 13 Ef)) (w15 : h1.2 (q + 15) = some (kA 0 13 Eb)) (hF : Fr h h1 q 16) (y : ∀ x : Int, 0 ≤ x → x < i → B1 x = A1 x) (hn : 348 - i < nf), AW m6_read (d + 6) (mC m6_read, mS m6_read) 18 [some (vR q), some (vI i)] [] h1 R := by
    intro nf
    induction nf with
    | zero => intro i  ps1  B1 A1  h1  hi hz hA w0 w1 w2 w3 w4 w5 w6 w7 w8 w9 w10 w11 w12 w13 w14 w15 hF y hn; omega
    | succ nf ih =>
      intro i  ps1  B1 A1  h1  hi hz hA w0 w1 w2 w3 w4 w5 w6 w7 w8 w9 w10 w11 w12 w13 w14 w15 hF y hn
      have hRS := (rScr_text (S := Sd) hA).1
      have hRS : 0 ≤ (rdS Sd T).1 ∧ (rdS Sd T).1 ≤ 29 := hRS
      refine A.il2_1 d6_read_18 ?_
      refine A.bipush d6_read_19 ?_
      refine A.al2_0 d6_read_21 ?_
      refine A.getf d6_read_22 ?_ (hc := w0)
      refine A.imul d6_read_25 ?_
      refine A.ic_ge d6_read_26 (fun c26 => ?_) (fun c26 => ?_)
      · refine A.al2_0 d6_read_47 ?_
        refine A.al2_0 d6_read_48 ?_
        refine A.getf d6_read_49 ?_ (hc := w0)
        refine A.putf d6_read_52 (fun h52 e52 f52 => ?_) (hc := w0) (hk := blt_ok rfl)
        first | (have w0 := (f52.2 _ (by omega)).trans w0) | (have w0 := e52)
        first | (have w1 := (f52.2 _ (by omega)).trans w1) | (have w1 := e52)
        first | (have w2 := (f52.2 _ (by omega)).trans w2) | (have w2 := e52)
        first | (have w3 := (f52.2 _ (by omega)).trans w3) | (have w3 := e52)
        first | (have w4 := (f52.2 _ (by omega)).trans w4) | (have w4 := e52)
        first | (have w5 := (f52.2 _ (by omega)).trans w5) | (have w5 := e52)
        first | (have w6 := (f52.2 _ (by omega)).trans w6) | (have w6 := e52)
        first | (have w7 := (f52.2 _ (by omega)).trans w7) | (have w7 := e52)
        first | (have w8 := (f52.2 _ (by omega)).trans w8) | (have w8 := e52)
        first | (have w9 := (f52.2 _ (by omega)).trans w9) | (have w9 := e52)
        first | (have w10 := (f52.2 _ (by omega)).trans w10) | (have w10 := e52)
        first | (have w11 := (f52.2 _ (by omega)).trans w11) | (have w11 := e52)
        first | (have w12 := (f52.2 _ (by omega)).trans w12) | (have w12 := e52)
        first | (have w13 := (f52.2 _ (by omega)).trans w13) | (have w13 := e52)
        first | (have w14 := (f52.2 _ (by omega)).trans w14) | (have w14 := e52)
        first | (have w15 := (f52.2 _ (by omega)).trans w15) | (have w15 := e52)
        refine A.iconst d6_read_55 ?_
        refine A.is2_1 d6_read_56 ?_
        exact loopB 4 0 _ _ _ _ _ (by omega) hz w0 w1 w2 w3 w4 w5 w6 w7 w8 w9 w10 w11 w12 w13 w14 w15 (hF.then f52 (by omega) (by omega)) (rScr_congr (rScr_text hA) (fun j j0 j1 => y j j0 (by have j1 : j < 12 * (rdS Sd T).1 := j1; omega))) (fun x x0 x1 => by omega) (by omega)
      · refine A.al2_0 d6_read_29 ?_
        refine A.getf d6_read_30 ?_ (hc := w0)
        refine A.il2_1 d6_read_33 ?_
        refine A.al2_0 d6_read_34 ?_
        refine A.getf d6_read_35 ?_ (hc := w0)
        refine A.il2_1 d6_read_38 ?_
        refine A.iald d6_read_39 ?_ (hc := w2)
        refine A.iast d6_read_40 (fun h40 e40 f40 => ?_) (hc := w1)
        first | (have w0 := (f40.2 _ (by omega)).trans w0) | (have w0 := e40)
        first | (have w1 := (f40.2 _ (by omega)).trans w1) | (have w1 := e40)
        first | (have w2 := (f40.2 _ (by omega)).trans w2) | (have w2 := e40)
        first | (have w3 := (f40.2 _ (by omega)).trans w3) | (have w3 := e40)
        first | (have w4 := (f40.2 _ (by omega)).trans w4) | (have w4 := e40)
        first | (have w5 := (f40.2 _ (by omega)).trans w5) | (have w5 := e40)
        first | (have w6 := (f40.2 _ (by omega)).trans w6) | (have w6 := e40)
        first | (have w7 := (f40.2 _ (by omega)).trans w7) | (have w7 := e40)
        first | (have w8 := (f40.2 _ (by omega)).trans w8) | (have w8 := e40)
        first | (have w9 := (f40.2 _ (by omega)).trans w9) | (have w9 := e40)
        first | (have w10 := (f40.2 _ (by omega)).trans w10) | (have w10 := e40)
        first | (have w11 := (f40.2 _ (by omega)).trans w11) | (have w11 := e40)
        first | (have w12 := (f40.2 _ (by omega)).trans w12) | (have w12 := e40)
        first | (have w13 := (f40.2 _ (by omega)).trans w13) | (have w13 := e40)
        first | (have w14 := (f40.2 _ (by omega)).trans w14) | (have w14 := e40)
        first | (have w15 := (f40.2 _ (by omega)).trans w15) | (have w15 := e40)
        refine A.ii2_1 d6_read_41 ?_
        refine A.goto d6_read_44 ?_
        refine ih (i + 1) _ _ _ _ (by omega) hz hA w0 w1 w2 w3 w4 w5 w6 w7 w8 w9 w10 w11 w12 w13 w14 w15 (hF.then f40 (by omega) (by omega)) (fun x x0 x1 => ?_) (by omega)
        by_cases e : x = i
        · subst e; exact fs_at rfl
        · exact (fs_off e).trans (y x x0 (by omega))
  refine A.al2_0 d6_read_0 ?_
  refine A.v0 d6_read_1 (s6_reads w0 w2 w6 hT (fun h1 ps1 rd1 A1 e1 g1 r1 f1 => kN ?_)) (hc := w0)
  have w0 := e1
  have w2 := g1
  have w1 := f1.get w1 (by omega) (by omega)
  have w3 := f1.get w3 (by omega) (by omega)
  have w4 := f1.get w4 (by omega) (by omega)
  have w5 := f1.get w5 (by omega) (by omega)
  have w6 := f1.get w6 (by omega) (by omega)
  have w7 := f1.get w7 (by omega) (by omega)
  have w8 := f1.get w8 (by omega) (by omega)
  have w9 := f1.get w9 (by omega) (by omega)
  have w10 := f1.get w10 (by omega) (by omega)
  have w11 := f1.get w11 (by omega) (by omega)
  have w12 := f1.get w12 (by omega) (by omega)
  have w13 := f1.get w13 (by omega) (by omega)
  have w14 := f1.get w14 (by omega) (by omega)
  have w15 := f1.get w15 (by omega) (by omega)
  have F1 := f1.one (c := q) (m := 16) (by omega) (by omega) (by omega) (by omega)
  refine A.al2_0 d6_read_4 ?_
  refine A.getf d6_read_5 ?_ (hc := w0)
  refine A.bipush d6_read_8 ?_
  refine A.ic_eq d6_read_10 (fun c10 => ?_) (fun c10 => ?_)
  · refine A.iconst d6_read_16 ?_
    refine A.is2_1 d6_read_17 ?_
    obtain ⟨ra, rb⟩ := r1 c10
    rw [ra, show (((ffR T 29 0).2.length : Nat) : Int) = (rdS Sd T).1 from addAll_n.symm] at w0
    exact loopA 349 0 _ _ _ _ (by have := (rScr_text (S := Sd) rb).1.1; have this : 0 ≤ (rdS Sd T).1 := this; omega) c10 rb w0 w1 w2 w3 w4 w5 w6 w7 w8 w9 w10 w11 w12 w13 w14 w15 F1 (fun x x0 x1 => by omega) (by omega)
  · refine A.bipush d6_read_13 ?_
    refine A.iret d6_read_15 ?_
    have e1 : rdSS S Sd T = _ := if_neg c10
    have e2 : rdPP P Sd T = _ := if_neg c10
    exact rI (k _ (by rw [e1, e2]; exact ⟨_, _, _, _, _, _, _, _, _, _, _, _, _, _, _, _, _, _, _, _, _, _, _, _, w0, w1, w2, w3, w4, w5, w6, w7, w8, w9, w10, w11, w12, w13, w14, w15, hB, hP, hT⟩) F1) (if_neg c10).symm
set_option maxRecDepth 100000 in
set_option maxHeartbeats 4000000 in
theorem s6_isChoice {d : Nat} {h : AH} {R : RP} {v : Int} {q : Nat} {S : SC} {P : PL} {T : TX} (hM : mAt h q S P T) (k : R (some (vI (bi (cKind S v = 6)))) h) : AM m6_isChoice (d + 2) h [vR q, vI v] R := by
  refine AM.of (L := [some (vR q), some (vI v)]) ok_6_isChoice (by decide) (fun G => Nat.le_of_ble_eq_true rfl) rfl ?_
  obtain ⟨rd, fi, co, ah, se, ps, fa, fl, ch, hx, B, Rd, Mo, Sv, Iv, V, F, Re, Ch, Fm, By, Ie, Ef, Eb, w0, w1, w2, w3, w4, w5, w6, w7, w8, w9, w10, w11, w12, w13, w14, w15, hB, hP, hT⟩ := hM
  have hB1 := hB.1
  obtain ⟨⟨hr, hm, hsn⟩, ⟨hf0, hf1⟩, hc0, hc1⟩ := plR_now hP
  have n0 := row0 hr
  have hsk := sk_shown hm
  have hm1 := hm.1
  have hco := hP.2.1
  have hpr := hP.1.2
  have hM2 : mAt h q S P T := ⟨_, _, _, _, _, _, _, _, _, _, _, _, _, _, _, _, _, _, _, _, _, _, _, _, w0, w1, w2, w3, w4, w5, w6, w7, w8, w9, w10, w11, w12, w13, w14, w15, hB, hP, hT⟩
  refine A.al2_0 d6_isChoice_0 ?_
  refine A.il2_1 d6_isChoice_1 ?_
  refine A.v1 d6_isChoice_2 (s6_isNode hM2 (kS ?_)) (hc := w0)
  refine A.bz_eq d6_isChoice_5 (fun c5 => ?_) (fun c5 => ?_)
  · refine A.iconst d6_isChoice_23 ?_
    refine A.zret d6_isChoice_24 ?_
    first
      | exact rF k (fun z => by have := kd_lt (S := S) (v := v) (by omega); omega)
      | (have g0 : B (12 * v + 0) = cKind S v := (congrArg B (Int.add_zero _)).trans (hB.2 v (by omega) (by omega)).kd
         first | exact rT k (by omega) | exact rF k (by omega))
  · refine A.al2_0 d6_isChoice_8 ?_
    refine A.il2_1 d6_isChoice_9 ?_
    refine A.iconst d6_isChoice_10 ?_
    refine A.v2 d6_isChoice_11 (s6_of w0 w1 hB (by omega) (by omega) (by omega) (by omega) (kS ?_)) (hc := w0)
    refine A.bipush d6_isChoice_14 ?_
    refine A.ic_ne d6_isChoice_16 (fun c16 => ?_) (fun c16 => ?_)
    · refine A.iconst d6_isChoice_23 ?_
      refine A.zret d6_isChoice_24 ?_
      first
        | exact rF k (fun z => by have := kd_lt (S := S) (v := v) (by omega); omega)
        | (have g0 : B (12 * v + 0) = cKind S v := (congrArg B (Int.add_zero _)).trans (hB.2 v (by omega) (by omega)).kd
           first | exact rT k (by omega) | exact rF k (by omega))
    · refine A.iconst d6_isChoice_19 ?_
      refine A.goto d6_isChoice_20 ?_
      refine A.zret d6_isChoice_24 ?_
      first
        | exact rF k (fun z => by have := kd_lt (S := S) (v := v) (by omega); omega)
        | (have g0 : B (12 * v + 0) = cKind S v := (congrArg B (Int.add_zero _)).trans (hB.2 v (by omega) (by omega)).kd
           first | exact rT k (by omega) | exact rF k (by omega))
set_option maxRecDepth 100000 in
set_option maxHeartbeats 4000000 in
theorem s6_option {d : Nat} {h : AH} {R : RP} {v o w : Int} {q : Nat} {S : SC} {P : PL} {T : TX} (hM : mAt h q S P T) (k : R (some (vI (opRR S v o w))) h) : AM m6_option (d + 3) h [vR q, vI v, vI o, vI w] R := by
  refine AM.of (L := [some (vR q), some (vI v), some (vI o), some (vI w), none]) ok_6_option (by decide) (fun G => Nat.le_of_ble_eq_true rfl) rfl ?_
  obtain ⟨rd, fi, co, ah, se, ps, fa, fl, ch, hx, B, Rd, Mo, Sv, Iv, V, F, Re, Ch, Fm, By, Ie, Ef, Eb, w0, w1, w2, w3, w4, w5, w6, w7, w8, w9, w10, w11, w12, w13, w14, w15, hB, hP, hT⟩ := hM
  have hB1 := hB.1
  obtain ⟨⟨hr, hm, hsn⟩, ⟨hf0, hf1⟩, hc0, hc1⟩ := plR_now hP
  have n0 := row0 hr
  have hsk := sk_shown hm
  have hm1 := hm.1
  have hco := hP.2.1
  have hpr := hP.1.2
  have hM2 : mAt h q S P T := ⟨_, _, _, _, _, _, _, _, _, _, _, _, _, _, _, _, _, _, _, _, _, _, _, _, w0, w1, w2, w3, w4, w5, w6, w7, w8, w9, w10, w11, w12, w13, w14, w15, hB, hP, hT⟩
  refine A.al5_0 d6_option_0 ?_
  refine A.il5_1 d6_option_1 ?_
  refine A.v1 d6_option_2 (s6_isChoice hM2 (kS ?_)) (hc := w0)
  refine A.bz_eq d6_option_5 (fun c5 => ?_) (fun c5 => ?_)
  · refine A.bipush d6_option_21 ?_
    refine A.iret d6_option_23 ?_
    exact rI k (if_neg (by omega)).symm
  · refine A.il5_2 d6_option_8 ?_
    refine A.if_lt d6_option_9 (fun c9 => ?_) (fun c9 => ?_)
    · refine A.bipush d6_option_21 ?_
      refine A.iret d6_option_23 ?_
      exact rI k (if_neg (by omega)).symm
    · refine A.il5_3 d6_option_12 ?_
      refine A.iconst d6_option_13 ?_
      refine A.iconst d6_option_14 ?_
      refine A.s3 d6_option_15 (s6_in (kS ?_))
      refine A.bz_ne d6_option_18 (fun c18 => ?_) (fun c18 => ?_)
      · have hkl := kd_lt (S := S) (v := v) (by omega)
        have g := hB.2 v hkl.1 hkl.2.1
        obtain ⟨ga, gb, gc⟩ := g.r6 (by omega)
        have gn := g.n0
        have hop : S.2.2.2.2.1 v = cOpts S v := (if_pos hkl : cOpts S v = _).symm
        refine A.il5_2 d6_option_24 ?_
        refine A.al5_0 d6_option_25 ?_
        refine A.il5_1 d6_option_26 ?_
        refine A.iconst d6_option_27 ?_
        refine A.v2 d6_option_28 (s6_of w0 w1 hB (by omega) (by omega) (by omega) (by omega) (kS ?_)) (hc := w0)
        refine A.ic_lt d6_option_31 (fun c31 => ?_) (fun c31 => ?_)
        · have ro := gc o (by omega) (by omega)
          have hl : (cPart S v o 1 = 0 ∧ cPart S v o 2 = -11 ∧ B (12 * v + (4 + 2 * o + 1)) = 0) ∨ ((cPart S v o 1 = 1 ∨ cPart S v o 1 = 2) ∧ B (12 * v + (4 + 2 * o + 1)) = cPart S v o 1 + 2 * cPart S v o 2 ∧ 0 ≤ cPart S v o 2 ∧ cPart S v o 2 ≤ 5) := by
            rw [show 12 * v + (4 + 2 * o + 1) = 12 * v + 4 + 2 * o + 1 by omega, ro.2.1]; unfold lkc
            rcases ro.2.2.2 with z | z
            · exact Or.inl ⟨z.1, z.2, if_pos z.1⟩
            · exact Or.inr ⟨z.1, if_neg (by show ¬ cPart S v o 1 = 0; omega), z.2⟩
          have hl0 : B (12 * v + (4 + 2 * o)) = cPart S v o 0 := by rw [show 12 * v + (4 + 2 * o) = 12 * v + 4 + 2 * o by omega]; exact ro.1
          refine A.al5_0 d6_option_37 ?_
          refine A.il5_1 d6_option_38 ?_
          refine A.iconst d6_option_39 ?_
          refine A.iconst d6_option_40 ?_
          refine A.il5_2 d6_option_41 ?_
          refine A.imul d6_option_42 ?_
          refine A.iadd d6_option_43 ?_
          refine A.iconst d6_option_44 ?_
          refine A.iadd d6_option_45 ?_
          refine A.v2 d6_option_46 (s6_of w0 w1 hB (by omega) (by omega) (by omega) (by omega) (kS ?_)) (hc := w0)
          refine A.is5_4 d6_option_49 ?_
          refine A.il5_3 d6_option_51 ?_
          refine A.if_ne d6_option_52 (fun c52 => ?_) (fun c52 => ?_)
          · refine A.il5_3 d6_option_66 ?_
            refine A.iconst d6_option_67 ?_
            refine A.ic_ne d6_option_68 (fun c68 => ?_) (fun c68 => ?_)
            · refine A.il5_4 d6_option_89 ?_
              refine A.if_ne d6_option_91 (fun c91 => ?_) (fun c91 => ?_)
              · refine A.il5_4 d6_option_99 ?_
                refine A.iconst d6_option_101 ?_
                refine A.isub d6_option_102 ?_
                refine A.iconst d6_option_103 ?_
                refine A.idiv d6_option_104 ?_
                refine A.iret d6_option_105 ?_
                first
                  | (have z1 : w = 1 := by omega
                     subst z1
                     exact rI k (Eq.trans (by omega) (if_pos (by omega) : opRR S v o 1 = _).symm))
                  | (have z1 : w = 2 := by omega
                     subst z1
                     exact rI k (Eq.trans (by omega) (if_pos (by omega) : opRR S v o 2 = _).symm))
              · refine A.bipush d6_option_94 ?_
                refine A.goto d6_option_96 ?_
                refine A.iret d6_option_105 ?_
                first
                  | (have z1 : w = 1 := by omega
                     subst z1
                     exact rI k (Eq.trans (by omega) (if_pos (by omega) : opRR S v o 1 = _).symm))
                  | (have z1 : w = 2 := by omega
                     subst z1
                     exact rI k (Eq.trans (by omega) (if_pos (by omega) : opRR S v o 2 = _).symm))
            · refine A.il5_4 d6_option_71 ?_
              refine A.if_ne d6_option_73 (fun c73 => ?_) (fun c73 => ?_)
              · refine A.iconst d6_option_80 ?_
                refine A.il5_4 d6_option_81 ?_
                refine A.iconst d6_option_83 ?_
                refine A.irem d6_option_84 ?_
                refine A.isub d6_option_85 ?_
                refine A.goto d6_option_86 ?_
                refine A.iret d6_option_105 ?_
                first
                  | (have z1 : w = 1 := by omega
                     subst z1
                     exact rI k (Eq.trans (by omega) (if_pos (by omega) : opRR S v o 1 = _).symm))
                  | (have z1 : w = 2 := by omega
                     subst z1
                     exact rI k (Eq.trans (by omega) (if_pos (by omega) : opRR S v o 2 = _).symm))
              · refine A.iconst d6_option_76 ?_
                refine A.goto d6_option_77 ?_
                refine A.iret d6_option_105 ?_
                first
                  | (have z1 : w = 1 := by omega
                     subst z1
                     exact rI k (Eq.trans (by omega) (if_pos (by omega) : opRR S v o 1 = _).symm))
                  | (have z1 : w = 2 := by omega
                     subst z1
                     exact rI k (Eq.trans (by omega) (if_pos (by omega) : opRR S v o 2 = _).symm))
          · refine A.al5_0 d6_option_55 ?_
            refine A.il5_1 d6_option_56 ?_
            refine A.iconst d6_option_57 ?_
            refine A.iconst d6_option_58 ?_
            refine A.il5_2 d6_option_59 ?_
            refine A.imul d6_option_60 ?_
            refine A.iadd d6_option_61 ?_
            refine A.v2 d6_option_62 (s6_of w0 w1 hB (by omega) (by omega) (by omega) (by omega) (kS ?_)) (hc := w0)
            refine A.iret d6_option_65 ?_
            exact rI k (hl0.trans (opx (by omega) (by omega) (by omega) (by omega) (by omega)))
        · refine A.bipush d6_option_34 ?_
          refine A.iret d6_option_36 ?_
          exact rI k (((if_pos ⟨c5, by omega, by omega, by omega⟩).trans (if_neg (by rw [hop]; omega))) : opRR S v o w = _).symm
      · refine A.bipush d6_option_21 ?_
        refine A.iret d6_option_23 ?_
        exact rI k (if_neg (by omega)).symm
set_option maxRecDepth 100000 in
set_option maxHeartbeats 4000000 in
theorem s6_seenNodes {d : Nat} {h : AH} {R : RP} {q : Nat} {S : SC} {P : PL} {T : TX} (hM : mAt h q S P T) (k : R (some (vI (cntN P.2.2.2.2.2.1 31))) h) : AM m6_seenNodes (d) h [vR q] R := by
  refine AM.of (L := [some (vR q), none, none]) ok_6_seenNodes (by decide) (fun G => Nat.le_of_ble_eq_true rfl) rfl ?_
  obtain ⟨rd, fi, co, ah, se, ps, fa, fl, ch, hx, B, Rd, Mo, Sv, Iv, V, F, Re, Ch, Fm, By, Ie, Ef, Eb, w0, w1, w2, w3, w4, w5, w6, w7, w8, w9, w10, w11, w12, w13, w14, w15, hB, hP, hT⟩ := hM
  have hB1 := hB.1
  obtain ⟨⟨hr, hm, hsn⟩, ⟨hf0, hf1⟩, hc0, hc1⟩ := plR_now hP
  have n0 := row0 hr
  have hsk := sk_shown hm
  have hm1 := hm.1
  have hco := hP.2.1
  have hpr := hP.1.2
  have loop : ∀ (nf : Nat) (c : Nat) (hi : c ≤ 31) (hn : 31 - c < nf), AW m6_seenNodes (d) (mC m6_seenNodes, mS m6_seenNodes) 4 [some (vR q), some (vI (cntN P.2.2.2.2.2.1 c)), some (vI c)] [] h R := by
    intro nf
    induction nf with
    | zero => intro c  hi hn; omega
    | succ nf ih =>
      intro c  hi hn
      refine A.il3_2 d6_seenNodes_4 ?_
      refine A.bipush d6_seenNodes_5 ?_
      refine A.ic_ge d6_seenNodes_7 (fun c7 => ?_) (fun c7 => ?_)
      · refine A.il3_1 d6_seenNodes_27 ?_
        refine A.iret d6_seenNodes_28 ?_
        have e : c = 31 := by omega
        subst e
        exact k
      · refine A.il3_1 d6_seenNodes_10 ?_
        refine A.al3_0 d6_seenNodes_11 ?_
        refine A.getf d6_seenNodes_12 ?_ (hc := w0)
        refine A.il3_2 d6_seenNodes_15 ?_
        refine A.ishr d6_seenNodes_16 ?_
        refine A.iconst d6_seenNodes_17 ?_
        refine A.iand d6_seenNodes_18 ?_
        have hb := bit_rng (x := se) (v := (c : Int)) (by omega) (by omega)
        have hs := hP.2.2.2.2 c (by omega) (by omega)
        have hcn := cntN_le P.2.2.2.2.2.1 c
        refine A.iadd d6_seenNodes_19 ?_
        refine A.is3_1 d6_seenNodes_20 ?_
        refine A.ii3_2 d6_seenNodes_21 ?_
        refine A.goto d6_seenNodes_24 ?_
        have e1 := ih (c + 1) (by omega) (by omega)
        rw [show cntN P.2.2.2.2.2.1 (c + 1) = cntN P.2.2.2.2.2.1 c + bAnd (bShr se c) 1 by
          show (if P.2.2.2.2.2.1 c = 0 then _ else _) = _
          rw [hs]
          rcases hb with z | z
          · rw [if_pos z, z]; omega
          · rw [if_neg (by omega), z]] at e1
        exact e1
  refine A.iconst d6_seenNodes_0 ?_
  refine A.is3_1 d6_seenNodes_1 ?_
  refine A.iconst d6_seenNodes_2 ?_
  refine A.is3_2 d6_seenNodes_3 ?_
  exact loop 32 0 (by omega) (by omega)
set_option maxRecDepth 100000 in
set_option maxHeartbeats 4000000 in
theorem s6_savedMoments {d : Nat} {h : AH} {R : RP} {q : Nat} {S : SC} {P : PL} {T : TX} (hM : mAt h q S P T) (k : R (some (vI (cntN P.2.2.2.2.1 3))) h) : AM m6_savedMoments (d) h [vR q] R := by
  refine AM.of (L := [some (vR q), none, none]) ok_6_savedMoments (by decide) (fun G => Nat.le_of_ble_eq_true rfl) rfl ?_
  obtain ⟨rd, fi, co, ah, se, ps, fa, fl, ch, hx, B, Rd, Mo, Sv, Iv, V, F, Re, Ch, Fm, By, Ie, Ef, Eb, w0, w1, w2, w3, w4, w5, w6, w7, w8, w9, w10, w11, w12, w13, w14, w15, hB, hP, hT⟩ := hM
  have hB1 := hB.1
  obtain ⟨⟨hr, hm, hsn⟩, ⟨hf0, hf1⟩, hc0, hc1⟩ := plR_now hP
  have n0 := row0 hr
  have hsk := sk_shown hm
  have hm1 := hm.1
  have hco := hP.2.1
  have hpr := hP.1.2
  have loop : ∀ (nf : Nat) (c : Nat) (hi : c ≤ 3) (hn : 3 - c < nf), AW m6_savedMoments (d) (mC m6_savedMoments, mS m6_savedMoments) 4 [some (vR q), some (vI (cntN P.2.2.2.2.1 c)), some (vI c)] [] h R := by
    intro nf
    induction nf with
    | zero => intro c  hi hn; omega
    | succ nf ih =>
      intro c  hi hn
      refine A.il3_2 d6_savedMoments_4 ?_
      refine A.iconst d6_savedMoments_5 ?_
      refine A.ic_ge d6_savedMoments_6 (fun c6 => ?_) (fun c6 => ?_)
      · refine A.il3_1 d6_savedMoments_32 ?_
        refine A.iret d6_savedMoments_33 ?_
        have e : c = 3 := by omega
        subst e
        exact k
      · obtain ⟨hs, hs1, -⟩ := hP.2.2.2.1 c (by omega) (by omega)
        have hcn := cntN_le P.2.2.2.2.1 c
        refine A.il3_1 d6_savedMoments_9 ?_
        refine A.al3_0 d6_savedMoments_10 ?_
        refine A.getf d6_savedMoments_11 ?_ (hc := w0)
        refine A.il3_2 d6_savedMoments_14 ?_
        refine A.bald d6_savedMoments_15 ?_ (hc := w5)
        refine A.if_eq d6_savedMoments_16 (fun c16 => ?_) (fun c16 => ?_)
        · refine A.iconst d6_savedMoments_23 ?_
          refine A.iadd d6_savedMoments_24 ?_
          refine A.is3_1 d6_savedMoments_25 ?_
          refine A.ii3_2 d6_savedMoments_26 ?_
          refine A.goto d6_savedMoments_29 ?_
          have e1 := ih (c + 1) (by omega) (by omega)
          first | (rw [show cntN P.2.2.2.2.1 (c + 1) = cntN P.2.2.2.2.1 c + 1 from if_neg (by omega)] at e1; exact e1) | (rw [show cntN P.2.2.2.2.1 (c + 1) = cntN P.2.2.2.2.1 c from if_pos (by omega)] at e1; rw [Int.add_zero]; exact e1)
        · refine A.iconst d6_savedMoments_19 ?_
          refine A.goto d6_savedMoments_20 ?_
          refine A.iadd d6_savedMoments_24 ?_
          refine A.is3_1 d6_savedMoments_25 ?_
          refine A.ii3_2 d6_savedMoments_26 ?_
          refine A.goto d6_savedMoments_29 ?_
          have e1 := ih (c + 1) (by omega) (by omega)
          first | (rw [show cntN P.2.2.2.2.1 (c + 1) = cntN P.2.2.2.2.1 c + 1 from if_neg (by omega)] at e1; exact e1) | (rw [show cntN P.2.2.2.2.1 (c + 1) = cntN P.2.2.2.2.1 c from if_pos (by omega)] at e1; rw [Int.add_zero]; exact e1)
  refine A.iconst d6_savedMoments_0 ?_
  refine A.is3_1 d6_savedMoments_1 ?_
  refine A.iconst d6_savedMoments_2 ?_
  refine A.is3_2 d6_savedMoments_3 ?_
  exact loop 4 0 (by omega) (by omega)
