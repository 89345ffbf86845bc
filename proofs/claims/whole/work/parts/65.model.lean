/-! ===== the reference: its digest's steps ===== -/
/-- the reference as a whole, its hash seen -/
def mAtx (h : AH) (q : Nat) (S : SC) (P : PL) (T : TX) (hx : Int64) : Prop := ∃ (rd fi co ah se ps fa fl ch : Int) (B Rd Mo Sv Iv V F Re Ch Fm By Ie Ef Eb : Int → Int), h.2 q = some (mobj q S.1 rd fi co ah se T.1 ps fa fl ch hx) ∧ h.2 (q + 1) = some (kA 0 348 B) ∧ h.2 (q + 2) = some (kA 0 348 Rd) ∧ h.2 (q + 3) = some (kA 0 160 Mo) ∧ h.2 (q + 4) = some (kA 0 24 Sv) ∧ h.2 (q + 5) = some (kA 2 3 Iv) ∧ h.2 (q + 6) = some (kA 0 100 T.2) ∧ h.2 (q + 7) = some (kA 0 3 V) ∧ h.2 (q + 8) = some (kA 0 3 F) ∧ h.2 (q + 9) = some (kA 2 1984 Re) ∧ h.2 (q + 10) = some (kA 0 1984 Ch) ∧ h.2 (q + 11) = some (kA 0 1984 Fm) ∧ h.2 (q + 12) = some (kA 0 1984 By) ∧ h.2 (q + 13) = some (kA 2 13 Ie) ∧ h.2 (q + 14) = some (kA 0 13 Ef) ∧ h.2 (q + 15) = some (kA 0 13 Eb) ∧ rScr B S ∧ plR S P fi co ah se Mo Sv Iv ∧ txI T
theorem mAtx.to {h : AH} {q : Nat} {S : SC} {P : PL} {T : TX} {hx : Int64} (hM : mAtx h q S P T hx) : mAt h q S P T := by
  obtain ⟨rd, fi, co, ah, se, ps, fa, fl, ch, B, Rd, Mo, Sv, Iv, V, F, Re, Ch, Fm, By, Ie, Ef, Eb, w0, w1, w2, w3, w4, w5, w6, w7, w8, w9, w10, w11, w12, w13, w14, w15, hB, hP, hT⟩ := hM
  exact ⟨_, _, _, _, _, _, _, _, _, _, _, _, _, _, _, _, _, _, _, _, _, _, _, _, w0, w1, w2, w3, w4, w5, w6, w7, w8, w9, w10, w11, w12, w13, w14, w15, hB, hP, hT⟩
theorem mAt.to {h : AH} {q : Nat} {S : SC} {P : PL} {T : TX} (hM : mAt h q S P T) : ∃ hx, mAtx h q S P T hx := by
  obtain ⟨rd, fi, co, ah, se, ps, fa, fl, ch, hx, B, Rd, Mo, Sv, Iv, V, F, Re, Ch, Fm, By, Ie, Ef, Eb, w0, w1, w2, w3, w4, w5, w6, w7, w8, w9, w10, w11, w12, w13, w14, w15, hB, hP, hT⟩ := hM
  exact ⟨hx, ⟨_, _, _, _, _, _, _, _, _, _, _, _, _, _, _, _, _, _, _, _, _, _, _, w0, w1, w2, w3, w4, w5, w6, w7, w8, w9, w10, w11, w12, w13, w14, w15, hB, hP, hT⟩⟩
/-- one more number in the digest -/
def mx (h : Int64) (v : Int) : Int64 := 31 * h + (Int32.ofInt v).toInt64
def mxl (f : Int → Int) : Nat → Int64 → Int64
  | 0, h => h
  | n + 1, h => mx (mxl f n h) (f n)
theorem mxl_0 (f : Int → Int) (h : Int64) : mxl f 0 h = h := rfl
theorem mxl_s (f : Int → Int) (n : Nat) (h : Int64) : mxl f (n + 1) h = mx (mxl f n h) (f n) := rfl
noncomputable def dOps (S : SC) (v : Int) : Nat → Int64 → Int64
  | 0, h => h
  | n + 1, h => mx (mxl (opRR S v n) 3 (dOps S v n h)) (usRR S v n)
noncomputable def dNd (S : SC) (v : Int) (h : Int64) : Int64 := dOps S v (cOpts S v).toNat (mxl (noRR S v) 4 h)
noncomputable def dNds (S : SC) : Nat → Int64 → Int64
  | 0, h => h
  | n + 1, h => dNd S n (dNds S n h)
def dPo (m : MO) : Nat → Int64 → Int64
  | 0, h => h
  | n + 1, h => mx (mx (dPo m n h) (poRR m n 0)) (poRR m n 1)
def edI (i : Int) : Int := if i = 0 then -3 else if i = 1 then -2 else i - 2
noncomputable def stI (S : SC) (i : Int) : Int := stR (drawn S) (edI i)
noncomputable def dgTl (S : SC) (T : TX) (h : Int64) : Int64 := mxl T.2 T.1.toNat (mxl (stI S) 12 (mx (dNds S S.1.toNat h) (siRR S (-1))))
noncomputable def dgRR (S : SC) (P : PL) (T : TX) : Int64 := dgTl S T (dPo (nowM P) 3 (mxl (shRR S (nowM P)) 6 (mxl (coRR S P T) 7 163)))
theorem no_of {S : SC} {B : Int → Int} {v w : Int} (hB : rScr B S) (h0 : 0 ≤ v) (h1 : v < S.1) (w0 : 0 ≤ w) (w1 : w ≤ 3) : B (12 * v + w) = noRR S v w := by
  have g := hB.2 v h0 h1
  unfold noRR
  rw [if_pos ⟨⟨h0, h1⟩, w0, w1⟩]
  by_cases a : w = 0
  · rw [if_pos a, a, Int.add_zero]; exact g.kd
  · rw [if_neg a]
    rcases (by omega : w = 1 ∨ w = 2 ∨ w = 3) with z | z | z
    · subst z; exact g.n0
    · subst z; exact g.n1
    · subst z; exact g.n2
set_option maxRecDepth 100000 in
set_option maxHeartbeats 4000000 in
theorem s6_endsX {d : Nat} {h : AH} {R : RP} {q : Nat} {S : SC} {P : PL} {T : TX} {hx : Int64} (hM : mAtx h q S P T hx) (k : ∀ h', mAtx h' q S P T hx → Fr h h' q 16 → R (some (vI (enRR S))) h') : AM m6_ends (d + 5) h [vR q] R := by
  refine AM.of (L := [some (vR q), none, none]) ok_6_ends (by decide) (fun G => Nat.le_of_ble_eq_true rfl) rfl ?_
  obtain ⟨rd, fi, co, ah, se, ps, fa, fl, ch, B, Rd, Mo, Sv, Iv, V, F, Re, Ch, Fm, By, Ie, Ef, Eb, w0, w1, w2, w3, w4, w5, w6, w7, w8, w9, w10, w11, w12, w13, w14, w15, hB, hP, hT⟩ := hM
  have hB1 := hB.1
  obtain ⟨⟨hr, hm, hsn⟩, ⟨hf0, hf1⟩, hc0, hc1⟩ := plR_now hP
  have n0 := row0 hr
  have hsk := sk_shown hm
  have hm1 := hm.1
  have hco := hP.2.1
  have hpr := hP.1.2
  refine A.iconst d6_ends_0 ?_
  refine A.is3_1 d6_ends_1 ?_
  refine A.al3_0 d6_ends_2 ?_
  refine A.v0 d6_ends_3 (s6_charts w0 w1 hB w7 w8 w9 w10 w11 w12 w13 w14 w15 (fun h3 fl3 ch3 V3 F3x Re3 Ch3 Fm3 By3 Ie3 Ef3 Eb3 m3 e3 y3_7 y3_8 y3_9 y3_10 y3_11 y3_12 y3_13 y3_14 y3_15 sr3 cr3 f3 => kN ?_)) (hc := w0)
  have w0 := e3
  have w7 := y3_7
  have w8 := y3_8
  have w9 := y3_9
  have w10 := y3_10
  have w11 := y3_11
  have w12 := y3_12
  have w13 := y3_13
  have w14 := y3_14
  have w15 := y3_15
  have w1 := f3.get w1
  have w2 := f3.get w2
  have w3 := f3.get w3
  have w4 := f3.get w4
  have w5 := f3.get w5
  have w6 := f3.get w6
  have F3 := Fr.then (Fr.rfl (h := h) (a := q) (n := 16)) f3.fr (by omega) (by omega)
  have hX := chI_out hB 1984
  have hc : cR (drawn S) ch3 Re3 Ch3 Fm3 By3 Ie3 Ef3 Eb3 := cr3
  refine A.iconst d6_ends_6 ?_
  refine A.is3_2 d6_ends_7 ?_
  have loop : ∀ (nf : Nat) (c : Nat) (hi : c ≤ 13) (hn : 13 - c < nf), AW m6_ends (d + 5) (mC m6_ends, mS m6_ends) 8 [some (vR q), some (vI (cntN (drawn S).2.2.2.2.2.2.1 c)), some (vI c)] [] h3 R := by
    intro nf
    induction nf with
    | zero => intro c hi hn; omega
    | succ nf ih =>
      intro c hi hn
      have hcn2 := cntN_le (drawn S).2.2.2.2.2.2.1 c
      refine A.il3_2 d6_ends_8 ?_
      refine A.bipush d6_ends_9 ?_
      refine A.ic_ge d6_ends_11 (fun c11 => ?_) (fun c11 => ?_)
      · refine A.il3_1 d6_ends_37 ?_
        refine A.iret d6_ends_38 ?_
        have e : c = 13 := by omega
        subst e
        exact k _ ⟨_, _, _, _, _, _, _, _, _, _, _, _, _, _, _, _, _, _, _, _, _, _, _, w0, w1, w2, w3, w4, w5, w6, w7, w8, w9, w10, w11, w12, w13, w14, w15, hB, hP, hT⟩ F3
      · have hie := (hc.2.2.2 c (by omega) (by omega)).1
        refine A.il3_1 d6_ends_14 ?_
        refine A.al3_0 d6_ends_15 ?_
        refine A.getf d6_ends_16 ?_ (hc := w0)
        refine A.il3_2 d6_ends_19 ?_
        refine A.bald d6_ends_20 ?_ (hc := w13)
        refine A.if_eq d6_ends_21 (fun c21 => ?_) (fun c21 => ?_)
        · refine A.iconst d6_ends_28 ?_
          refine A.iadd d6_ends_29 ?_
          refine A.is3_1 d6_ends_30 ?_
          refine A.ii3_2 d6_ends_31 ?_
          refine A.goto d6_ends_34 ?_
          have e1 := ih (c + 1) (by omega) (by omega)
          first | (rw [show cntN (drawn S).2.2.2.2.2.2.1 (c + 1) = cntN (drawn S).2.2.2.2.2.2.1 c + 1 from if_neg (by omega)] at e1; exact e1) | (rw [show cntN (drawn S).2.2.2.2.2.2.1 (c + 1) = cntN (drawn S).2.2.2.2.2.2.1 c from if_pos (by omega)] at e1; rw [Int.add_zero]; exact e1)
        · refine A.iconst d6_ends_24 ?_
          refine A.goto d6_ends_25 ?_
          refine A.iadd d6_ends_29 ?_
          refine A.is3_1 d6_ends_30 ?_
          refine A.ii3_2 d6_ends_31 ?_
          refine A.goto d6_ends_34 ?_
          have e1 := ih (c + 1) (by omega) (by omega)
          first | (rw [show cntN (drawn S).2.2.2.2.2.2.1 (c + 1) = cntN (drawn S).2.2.2.2.2.2.1 c + 1 from if_neg (by omega)] at e1; exact e1) | (rw [show cntN (drawn S).2.2.2.2.2.2.1 (c + 1) = cntN (drawn S).2.2.2.2.2.2.1 c from if_pos (by omega)] at e1; rw [Int.add_zero]; exact e1)
  exact loop 14 0 (by omega) (by omega)
set_option maxRecDepth 100000 in
set_option maxHeartbeats 4000000 in
theorem s6_countX {d : Nat} {h : AH} {R : RP} {w : Int} {q : Nat} {S : SC} {P : PL} {T : TX} {hx : Int64} (hM : mAtx h q S P T hx) (k : ∀ h', mAtx h' q S P T hx → Fr h h' q 16 → R (some (vI (coRR S P T w))) h') : AM m6_count (d + 6) h [vR q, vI w] R := by
  refine AM.of (L := [some (vR q), some (vI w)]) ok_6_count (by decide) (fun G => Nat.le_of_ble_eq_true rfl) rfl ?_
  obtain ⟨rd, fi, co, ah, se, ps, fa, fl, ch, B, Rd, Mo, Sv, Iv, V, F, Re, Ch, Fm, By, Ie, Ef, Eb, w0, w1, w2, w3, w4, w5, w6, w7, w8, w9, w10, w11, w12, w13, w14, w15, hB, hP, hT⟩ := hM
  have hB1 := hB.1
  obtain ⟨⟨hr, hm, hsn⟩, ⟨hf0, hf1⟩, hc0, hc1⟩ := plR_now hP
  have n0 := row0 hr
  have hsk := sk_shown hm
  have hm1 := hm.1
  have hco := hP.2.1
  have hpr := hP.1.2
  have hMx : mAtx h q S P T hx := ⟨_, _, _, _, _, _, _, _, _, _, _, _, _, _, _, _, _, _, _, _, _, _, _, w0, w1, w2, w3, w4, w5, w6, w7, w8, w9, w10, w11, w12, w13, w14, w15, hB, hP, hT⟩
  have hM2 : mAt h q S P T := ⟨_, _, _, _, _, _, _, _, _, _, _, _, _, _, _, _, _, _, _, _, _, _, _, _, w0, w1, w2, w3, w4, w5, w6, w7, w8, w9, w10, w11, w12, w13, w14, w15, hB, hP, hT⟩
  refine A.il2_1 d6_count_0 ?_
  refine A.tsw7 d6_count_1 (fun c1 => ?_) (fun c1 => ?_) (fun c1 => ?_) (fun c1 => ?_) (fun c1 => ?_) (fun c1 => ?_) (fun c1 => ?_) (fun c1 => ?_)
  · refine A.al2_0 d6_count_44 ?_
    refine A.getf d6_count_45 ?_ (hc := w0)
    refine A.iret d6_count_48 ?_
    exact rI (k _ hMx (Fr.rfl (h := h) (a := q) (n := 16))) (by unfold coRR; rw [if_pos (by omega)])
  · refine A.al2_0 d6_count_49 ?_
    refine A.getf d6_count_50 ?_ (hc := w0)
    refine A.iret d6_count_53 ?_
    exact rI (k _ hMx (Fr.rfl (h := h) (a := q) (n := 16))) (by unfold coRR; rw [if_neg (by omega)]; rw [if_pos (by omega)]; omega)
  · refine A.al2_0 d6_count_54 ?_
    refine A.getf d6_count_55 ?_ (hc := w0)
    refine A.iret d6_count_58 ?_
    exact rI (k _ hMx (Fr.rfl (h := h) (a := q) (n := 16))) (by unfold coRR; rw [if_neg (by omega)]; rw [if_neg (by omega)]; rw [if_pos (by omega)]; omega)
  · refine A.al2_0 d6_count_59 ?_
    refine A.v0 d6_count_60 (s6_seenNodes hM2 (kS ?_)) (hc := w0)
    refine A.iret d6_count_63 ?_
    exact rI (k _ hMx (Fr.rfl (h := h) (a := q) (n := 16))) (by unfold coRR; rw [if_neg (by omega)]; rw [if_neg (by omega)]; rw [if_neg (by omega)]; rw [if_pos (by omega)])
  · refine A.al2_0 d6_count_64 ?_
    refine A.v0 d6_count_65 (s6_savedMoments hM2 (kS ?_)) (hc := w0)
    refine A.iret d6_count_68 ?_
    exact rI (k _ hMx (Fr.rfl (h := h) (a := q) (n := 16))) (by unfold coRR; rw [if_neg (by omega)]; rw [if_neg (by omega)]; rw [if_neg (by omega)]; rw [if_neg (by omega)]; rw [if_pos (by omega)])
  · refine A.al2_0 d6_count_69 ?_
    refine A.v0 d6_count_70 (s6_endsX hMx (fun h70 hM70 F70 => kS ?_)) (hc := w0)
    refine A.iret d6_count_73 ?_
    exact rI (k _ hM70 F70) (by unfold coRR; rw [if_neg (by omega)]; rw [if_neg (by omega)]; rw [if_neg (by omega)]; rw [if_neg (by omega)]; rw [if_neg (by omega)]; rw [if_pos (by omega)])
  · refine A.al2_0 d6_count_74 ?_
    refine A.getf d6_count_75 ?_ (hc := w0)
    refine A.iret d6_count_78 ?_
    exact rI (k _ hMx (Fr.rfl (h := h) (a := q) (n := 16))) (by unfold coRR; rw [if_neg (by omega)]; rw [if_neg (by omega)]; rw [if_neg (by omega)]; rw [if_neg (by omega)]; rw [if_neg (by omega)]; rw [if_neg (by omega)]; rw [if_pos (by omega)])
  · refine A.bipush d6_count_79 ?_
    refine A.iret d6_count_81 ?_
    exact rI (k _ hMx (Fr.rfl (h := h) (a := q) (n := 16))) (by unfold coRR; rw [if_neg (by omega)]; rw [if_neg (by omega)]; rw [if_neg (by omega)]; rw [if_neg (by omega)]; rw [if_neg (by omega)]; rw [if_neg (by omega)]; rw [if_neg (by omega)])
set_option maxRecDepth 100000 in
set_option maxHeartbeats 4000000 in
theorem s6_mixes {d : Nat} {h : AH} {R : RP} {v : Int} {q : Nat} {rd fi co ah se tl ps fa fl ch : Int} {hx : Int64} {S : SC} (w0 : h.2 q = some (mobj q S.1 rd fi co ah se tl ps fa fl ch hx)) (k : ∀ h', h'.2 q = some (mobj q S.1 rd fi co ah se tl ps fa fl ch (mx hx v)) → Fr h h' q 1 → R none h') : AM m6_mixes (d) h [vR q, vI v] R := by
  refine AM.of (L := [some (vR q), some (vI v)]) ok_6_mixes (by decide) (fun G => Nat.le_of_ble_eq_true rfl) rfl ?_
  refine A.al2_0 d6_mixes_0 ?_
  refine A.ldc2 d6_mixes_1 ?_
  refine A.al2_0 d6_mixes_4 ?_
  refine A.getf d6_mixes_5 ?_ (hc := w0)
  refine A.lmul d6_mixes_8 ?_
  refine A.il2_1 d6_mixes_9 ?_
  refine A.i2l d6_mixes_10 ?_
  refine A.ladd d6_mixes_11 ?_
  refine A.putf d6_mixes_12 (fun h12 e12 f12 => ?_) (hc := w0) (hk := blt_ok rfl)
  refine A.vret d6_mixes_15 ?_
  exact k _ e12 f12
set_option maxRecDepth 100000 in
set_option maxHeartbeats 4000000 in
theorem s6_mixesX {d : Nat} {h : AH} {R : RP} {v : Int} {q : Nat} {S : SC} {P : PL} {T : TX} {hx : Int64} (hM : mAtx h q S P T hx) (k : ∀ h', mAtx h' q S P T (mx hx v) → Fr h h' q 16 → R none h') : AM m6_mixes (d) h [vR q, vI v] R := by
  refine AM.of (L := [some (vR q), some (vI v)]) ok_6_mixes (by decide) (fun G => Nat.le_of_ble_eq_true rfl) rfl ?_
  obtain ⟨rd, fi, co, ah, se, ps, fa, fl, ch, B, Rd, Mo, Sv, Iv, V, F, Re, Ch, Fm, By, Ie, Ef, Eb, w0, w1, w2, w3, w4, w5, w6, w7, w8, w9, w10, w11, w12, w13, w14, w15, hB, hP, hT⟩ := hM
  refine A.al2_0 d6_mixes_0 ?_
  refine A.ldc2 d6_mixes_1 ?_
  refine A.al2_0 d6_mixes_4 ?_
  refine A.getf d6_mixes_5 ?_ (hc := w0)
  refine A.lmul d6_mixes_8 ?_
  refine A.il2_1 d6_mixes_9 ?_
  refine A.i2l d6_mixes_10 ?_
  refine A.ladd d6_mixes_11 ?_
  refine A.putf d6_mixes_12 (fun h12 e12 f12 => ?_) (hc := w0) (hk := blt_ok rfl)
  first | (have w0 := (f12.2 _ (by omega)).trans w0) | (have w0 := e12)
  first | (have w1 := (f12.2 _ (by omega)).trans w1) | (have w1 := e12)
  first | (have w2 := (f12.2 _ (by omega)).trans w2) | (have w2 := e12)
  first | (have w3 := (f12.2 _ (by omega)).trans w3) | (have w3 := e12)
  first | (have w4 := (f12.2 _ (by omega)).trans w4) | (have w4 := e12)
  first | (have w5 := (f12.2 _ (by omega)).trans w5) | (have w5 := e12)
  first | (have w6 := (f12.2 _ (by omega)).trans w6) | (have w6 := e12)
  first | (have w7 := (f12.2 _ (by omega)).trans w7) | (have w7 := e12)
  first | (have w8 := (f12.2 _ (by omega)).trans w8) | (have w8 := e12)
  first | (have w9 := (f12.2 _ (by omega)).trans w9) | (have w9 := e12)
  first | (have w10 := (f12.2 _ (by omega)).trans w10) | (have w10 := e12)
  first | (have w11 := (f12.2 _ (by omega)).trans w11) | (have w11 := e12)
  first | (have w12 := (f12.2 _ (by omega)).trans w12) | (have w12 := e12)
  first | (have w13 := (f12.2 _ (by omega)).trans w13) | (have w13 := e12)
  first | (have w14 := (f12.2 _ (by omega)).trans w14) | (have w14 := e12)
  first | (have w15 := (f12.2 _ (by omega)).trans w15) | (have w15 := e12)
  have F12 := (Fr.rfl (h := h) (a := q) (n := 16)).then f12 (by omega) (by omega)
  refine A.vret d6_mixes_15 ?_
  exact k _ ⟨_, _, _, _, _, _, _, _, _, _, _, _, _, _, _, _, _, _, _, _, _, _, _, w0, w1, w2, w3, w4, w5, w6, w7, w8, w9, w10, w11, w12, w13, w14, w15, hB, hP, hT⟩ F12
