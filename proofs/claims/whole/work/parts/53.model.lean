/-! ===== the reference: what is shown ===== -/
theorem bOr0 (x : Int) : bOr x 0 = (Int32.ofInt x).toInt := by
  unfold bOr
  rw [show Int32.ofInt 0 = 0 by decide, Int32.or_zero]
theorem bOr_z {x y : Int} : bOr (bOr x y) 0 = bOr x y := by
  rw [bOr0]; unfold bOr; rw [Int32.ofInt_toInt]
/-- the reference's sum of the options that are not locked -/
noncomputable def rOpen (S : SC) (v fl : Int) : Nat → Int
  | 0 => 0
  | k + 1 => bOr (rOpen S v fl k) (pif (cOpen S v k fl) (bShl 1 k) 0)
theorem rOpen_sum {S : SC} {v fl : Int} : ∀ n : Nat, rOpen S v fl n = oSum S v fl n := by
  intro n
  induction n with
  | zero => rfl
  | succ n ih =>
    by_cases c : cOpen S v n fl
    · rw [show rOpen S v fl (n + 1) = bOr (rOpen S v fl n) (bShl 1 n) from congrArg _ (pif_t c), ih]
      exact (pif_t c).symm
    · rw [show rOpen S v fl (n + 1) = bOr (rOpen S v fl n) 0 from congrArg _ (pif_f c), ih]
      rw [show oSum S v fl (n + 1) = oSum S v fl n from pif_f c]
      clear ih
      cases n with
      | zero => show bOr 0 0 = 0; decide
      | succ n =>
        clear c
        induction n with
        | zero =>
          by_cases d : cOpen S v (0 : Nat) fl
          · rw [show oSum S v fl (0 + 1) = _ from pif_t d, bOr_z]
          · rw [show oSum S v fl (0 + 1) = _ from pif_f d]; show bOr 0 0 = 0; decide
        | succ n ih =>
          by_cases d : cOpen S v (n + 1 : Nat) fl
          · rw [show oSum S v fl (n + 1 + 1) = _ from pif_t d, bOr_z]
          · rw [show oSum S v fl (n + 1 + 1) = _ from pif_f d]; exact ih
theorem oSum_more {S : SC} {v fl : Int} {k : Nat} (h : ∀ j : Nat, k ≤ j → ¬ cOpen S v j fl) : ∀ n : Nat, k ≤ n → oSum S v fl n = oSum S v fl k := by
  intro n hn
  induction n with
  | zero => have : k = 0 := by omega
            rw [this]
  | succ n ih =>
    by_cases e : k = n + 1
    · rw [e]
    · rw [show oSum S v fl (n + 1) = oSum S v fl n from pif_f (h n (by omega))]; exact ih (by omega)
noncomputable def shRR (S : SC) (m : MO) (w : Int) : Int := if w = 0 then m.1 else if w = 1 then cSK S m.1 else if w = 2 then (if cSK S m.1 = 0 then cNum S m.1 0 else -11) else if w = 3 then cSN S m.1 else if w = 4 then m.2.1 else if w = 5 then cOS S m.1 m.2.1 else -12
def poRR (m : MO) (p f : Int) : Int := if 0 ≤ p ∧ p < 3 then (if f ≠ 0 then m.2.2.2 p else m.2.2.1 p) else -12
def noRR (S : SC) (v w : Int) : Int := if (0 ≤ v ∧ v < S.1) ∧ 0 ≤ w ∧ w ≤ 3 then (if w = 0 then cKind S v else cNum S v (w - 1)) else -12
def opRR (S : SC) (v o w : Int) : Int := if cKind S v = 6 ∧ 0 ≤ o ∧ 0 ≤ w ∧ w ≤ 2 then cPart S v o w else -12
theorem sn_of {S : SC} {B : Int → Int} {v : Int} (hB : rScr B S) (h0 : 0 ≤ v) (hs : cSK S v = 0 ∨ cSK S v = 1) {x : Int} (hx : (cSK S v = 0 → x = B (12 * v + 2)) ∧ (cSK S v = 1 → x = B (12 * v + 1))) : x = cSN S v := by
  have hk : cKind S v = 0 ∨ cKind S v = 6 := hs.elim (fun z => Or.inl (sk_line z)) (fun z => Or.inr (sk_choice z))
  have hl := kd_lt (S := S) (v := v) (by omega)
  have g := hB.2 v h0 hl.2.1
  have e : cSN S v = _ := (if_neg (by omega)).trans (if_pos hl)
  rw [e]
  rcases hs with z | z
  · rw [if_pos (sk_line z), hx.1 z]; exact g.n1
  · rw [if_neg (by rw [sk_choice z]; decide), hx.2 z]; exact g.n0
theorem row1 {Mo : Int → Int} {p k : Int} {m : MO} (h : rowM Mo p m) (k0 : 0 ≤ k) (k1 : k < 3) : Mo (p + (2 + k)) = m.2.2.1 k ∧ Mo (p + (5 + k)) = m.2.2.2 k := by
  rw [← Int.add_assoc, ← Int.add_assoc]; exact h.2.2 k k0 k1
set_option maxRecDepth 100000 in
set_option maxHeartbeats 4000000 in
theorem s6_open {d : Nat} {h : AH} {R : RP} {q : Nat} {S : SC} {P : PL} {T : TX} (hM : mAt h q S P T) (hk6 : cKind S (nowM P).1 = 6) (k : R (some (vI (cOS S (nowM P).1 (nowM P).2.1))) h) : AM m6_open (d + 2) h [vR q] R := by
  refine AM.of (L := [some (vR q), none, none, none]) ok_6_open (by decide) (fun G => Nat.le_of_ble_eq_true rfl) rfl ?_
  obtain ⟨rd, fi, co, ah, se, ps, fa, fl, ch, hx, B, Rd, Mo, Sv, Iv, V, F, Re, Ch, Fm, By, Ie, Ef, Eb, w0, w1, w2, w3, w4, w5, w6, w7, w8, w9, w10, w11, w12, w13, w14, w15, hB, hP, hT⟩ := hM
  have hB1 := hB.1
  obtain ⟨⟨hr, hm, hsn⟩, ⟨hf0, hf1⟩, hc0, hc1⟩ := plR_now hP
  have n0 := row0 hr
  have hsk := sk_shown hm
  have hm1 := hm.1
  have hco := hP.2.1
  have hpr := hP.1.2
  have hkl := kd_lt (S := S) (v := (nowM P).1) (by rw [hk6]; decide)
  have g := hB.2 _ hkl.1 hkl.2.1
  obtain ⟨ga, gb, gc⟩ := g.r6 hk6
  have gn := g.n0
  have loop : ∀ (nf : Nat) (c : Nat) (hi : (c : Int) ≤ cOpts S (nowM P).1) (hn : 4 - c < nf), AW m6_open (d + 2) (mC m6_open, mS m6_open) 10 [some (vR q), some (vI (nowM P).1), some (vI (rOpen S (nowM P).1 (nowM P).2.1 c)), some (vI c)] [] h R := by
    intro nf
    induction nf with
    | zero => intro c  hi hn; omega
    | succ nf ih =>
      intro c  hi hn
      refine A.il4_3 d6_open_10 ?_
      refine A.al4_0 d6_open_11 ?_
      refine A.il4_1 d6_open_12 ?_
      refine A.iconst d6_open_13 ?_
      refine A.v2 d6_open_14 (s6_of w0 w1 hB (by omega) (by omega) (by omega) (by omega) (kS ?_)) (hc := w0)
      refine A.ic_ge d6_open_17 (fun c17 => ?_) (fun c17 => ?_)
      · refine A.il4_2 d6_open_50 ?_
        refine A.iret d6_open_51 ?_
        exact rI k (by unfold cOS; rw [if_pos hk6, rOpen_sum]; exact (oSum_more (fun j hj z => by have := z.2.1; omega) 4 (by omega)).symm)
      · refine A.il4_2 d6_open_20 ?_
        refine A.al4_0 d6_open_21 ?_
        refine A.il4_1 d6_open_22 ?_
        refine A.il4_3 d6_open_23 ?_
        refine A.al4_0 d6_open_24 ?_
        refine A.iconst d6_open_25 ?_
        refine A.v1 d6_open_26 (s6_present (B := B) w0 w3 hf0 hf1 hc0 hc1 (by omega) (by omega) (kS ?_)) (hc := w0)
        rw [hr.2.1]
        refine A.v3 d6_open_29 (s6_isLocked w0 w1 hB (by omega) (by omega) hk6 (by omega) (by omega) (kS ?_)) (hc := w0)
        refine A.bz_eq d6_open_32 (fun c32 => ?_) (fun c32 => ?_)
        · refine A.iconst d6_open_39 ?_
          refine A.il4_3 d6_open_40 ?_
          refine A.ishl d6_open_41 ?_
          refine A.ior d6_open_42 ?_
          refine A.is4_2 d6_open_43 ?_
          refine A.ii4_3 d6_open_44 ?_
          refine A.goto d6_open_47 ?_
          have e1 := ih (c + 1) (by omega) (by omega)
          first | (rw [show rOpen S (nowM P).1 (nowM P).2.1 (c + 1) = bOr (rOpen S (nowM P).1 (nowM P).2.1 c) (bShl 1 c) from congrArg _ (pif_t (Classical.not_not.1 c32))] at e1; exact e1) | (rw [show rOpen S (nowM P).1 (nowM P).2.1 (c + 1) = bOr (rOpen S (nowM P).1 (nowM P).2.1 c) 0 from congrArg _ (pif_f c32)] at e1; exact e1)
        · refine A.iconst d6_open_35 ?_
          refine A.goto d6_open_36 ?_
          refine A.ior d6_open_42 ?_
          refine A.is4_2 d6_open_43 ?_
          refine A.ii4_3 d6_open_44 ?_
          refine A.goto d6_open_47 ?_
          have e1 := ih (c + 1) (by omega) (by omega)
          first | (rw [show rOpen S (nowM P).1 (nowM P).2.1 (c + 1) = bOr (rOpen S (nowM P).1 (nowM P).2.1 c) (bShl 1 c) from congrArg _ (pif_t (Classical.not_not.1 c32))] at e1; exact e1) | (rw [show rOpen S (nowM P).1 (nowM P).2.1 (c + 1) = bOr (rOpen S (nowM P).1 (nowM P).2.1 c) 0 from congrArg _ (pif_f c32)] at e1; exact e1)
  refine A.al4_0 d6_open_0 ?_
  refine A.iconst d6_open_1 ?_
  refine A.v1 d6_open_2 (s6_present (B := B) w0 w3 hf0 hf1 hc0 hc1 (by omega) (by omega) (kS ?_)) (hc := w0)
  rw [n0]
  refine A.is4_1 d6_open_5 ?_
  refine A.iconst d6_open_6 ?_
  refine A.is4_2 d6_open_7 ?_
  refine A.iconst d6_open_8 ?_
  refine A.is4_3 d6_open_9 ?_
  exact loop 5 0 (by omega) (by omega)
set_option maxRecDepth 100000 in
set_option maxHeartbeats 4000000 in
theorem s6_shown {d : Nat} {h : AH} {R : RP} {w : Int} {q : Nat} {S : SC} {P : PL} {T : TX} (hM : mAt h q S P T) (k : R (some (vI (shRR S (nowM P) w))) h) : AM m6_shown (d + 3) h [vR q, vI w] R := by
  refine AM.of (L := [some (vR q), some (vI w), none, none]) ok_6_shown (by decide) (fun G => Nat.le_of_ble_eq_true rfl) rfl ?_
  obtain ⟨rd, fi, co, ah, se, ps, fa, fl, ch, hx, B, Rd, Mo, Sv, Iv, V, F, Re, Ch, Fm, By, Ie, Ef, Eb, w0, w1, w2, w3, w4, w5, w6, w7, w8, w9, w10, w11, w12, w13, w14, w15, hB, hP, hT⟩ := hM
  have hB1 := hB.1
  obtain ⟨⟨hr, hm, hsn⟩, ⟨hf0, hf1⟩, hc0, hc1⟩ := plR_now hP
  have n0 := row0 hr
  have hsk := sk_shown hm
  have hm1 := hm.1
  have hco := hP.2.1
  have hpr := hP.1.2
  have hM2 : mAt h q S P T := ⟨_, _, _, _, _, _, _, _, _, _, _, _, _, _, _, _, _, _, _, _, _, _, _, _, w0, w1, w2, w3, w4, w5, w6, w7, w8, w9, w10, w11, w12, w13, w14, w15, hB, hP, hT⟩
  have skr : cSK S (nowM P).1 = 0 ∨ cSK S (nowM P).1 = 1 ∨ cSK S (nowM P).1 = 2 := by unfold cSK; (repeat' split) <;> omega
  have k0l : cSK S (nowM P).1 = 0 → (nowM P).1 < S.1 ∧ (nowM P).1 < 29 := fun z => by have := kd_lt (S := S) (v := (nowM P).1) (by rw [sk_line z]; decide); omega
  have k1l : cSK S (nowM P).1 = 1 → (nowM P).1 < S.1 ∧ (nowM P).1 < 29 := fun z => by have := kd_lt (S := S) (v := (nowM P).1) (by rw [sk_choice z]; decide); omega
  refine A.al4_0 d6_shown_0 ?_
  refine A.iconst d6_shown_1 ?_
  refine A.v1 d6_shown_2 (s6_present (B := B) w0 w3 hf0 hf1 hc0 hc1 (by omega) (by omega) (kS ?_)) (hc := w0)
  rw [n0]
  refine A.is4_2 d6_shown_5 ?_
  refine A.al4_0 d6_shown_6 ?_
  refine A.il4_2 d6_shown_7 ?_
  refine A.v1 d6_shown_8 (s6_shownKind w0 w1 hB (by omega) (kS ?_)) (hc := w0)
  rw [hsk]
  refine A.is4_3 d6_shown_11 ?_
  refine A.il4_1 d6_shown_12 ?_
  refine A.tsw6 d6_shown_13 (fun c13 => ?_) (fun c13 => ?_) (fun c13 => ?_) (fun c13 => ?_) (fun c13 => ?_) (fun c13 => ?_) (fun c13 => ?_)
  · refine A.il4_2 d6_shown_52 ?_
    refine A.iret d6_shown_53 ?_
    exact rI k (by unfold shRR; rw [if_pos (by omega)])
  · refine A.il4_3 d6_shown_54 ?_
    refine A.iret d6_shown_55 ?_
    exact rI k (by unfold shRR; rw [if_neg (by omega), if_pos (by omega)])
  · refine A.il4_3 d6_shown_56 ?_
    refine A.if_ne d6_shown_57 (fun c57 => ?_) (fun c57 => ?_)
    · refine A.bipush d6_shown_69 ?_
      refine A.iret d6_shown_71 ?_
      first | (have hkl := kd_lt (S := S) (v := (nowM P).1) (by rw [sk_line c57]; decide)
               have g := hB.2 _ hkl.1 hkl.2.1
               exact rI k (by unfold shRR; rw [if_neg (by omega), if_neg (by omega), if_pos (by omega), if_pos c57]; exact g.n0)) | exact rI k (by unfold shRR; rw [if_neg (by omega), if_neg (by omega), if_pos (by omega), if_neg c57])
    · refine A.al4_0 d6_shown_60 ?_
      refine A.il4_2 d6_shown_61 ?_
      refine A.iconst d6_shown_62 ?_
      refine A.v2 d6_shown_63 (s6_of w0 w1 hB (by omega) (by omega) (by omega) (by omega) (kS ?_)) (hc := w0)
      refine A.goto d6_shown_66 ?_
      refine A.iret d6_shown_71 ?_
      first | (have hkl := kd_lt (S := S) (v := (nowM P).1) (by rw [sk_line c57]; decide)
               have g := hB.2 _ hkl.1 hkl.2.1
               exact rI k (by unfold shRR; rw [if_neg (by omega), if_neg (by omega), if_pos (by omega), if_pos c57]; exact g.n0)) | exact rI k (by unfold shRR; rw [if_neg (by omega), if_neg (by omega), if_pos (by omega), if_neg c57])
  · refine A.il4_3 d6_shown_72 ?_
    refine A.iconst d6_shown_73 ?_
    refine A.ic_ne d6_shown_74 (fun c74 => ?_) (fun c74 => ?_)
    · refine A.al4_0 d6_shown_85 ?_
      refine A.il4_2 d6_shown_86 ?_
      refine A.il4_3 d6_shown_87 ?_
      refine A.if_ne d6_shown_88 (fun c88 => ?_) (fun c88 => ?_)
      · refine A.iconst d6_shown_95 ?_
        refine A.v2 d6_shown_96 (s6_of w0 w1 hB (by omega) (by omega) (by omega) (by omega) (kS ?_)) (hc := w0)
        refine A.iret d6_shown_99 ?_
        first | exact rI k (by unfold shRR; rw [if_neg (by omega), if_neg (by omega), if_neg (by omega), if_pos (by omega)]; exact sn_of hB hm1.1 (by omega) ⟨fun z => by first | rfl | (exfalso; omega), fun z => by first | rfl | (exfalso; omega)⟩) | exact rI k (by unfold shRR; rw [if_neg (by omega), if_neg (by omega), if_neg (by omega), if_pos (by omega)])
      · refine A.iconst d6_shown_91 ?_
        refine A.goto d6_shown_92 ?_
        refine A.v2 d6_shown_96 (s6_of w0 w1 hB (by omega) (by omega) (by omega) (by omega) (kS ?_)) (hc := w0)
        refine A.iret d6_shown_99 ?_
        first | exact rI k (by unfold shRR; rw [if_neg (by omega), if_neg (by omega), if_neg (by omega), if_pos (by omega)]; exact sn_of hB hm1.1 (by omega) ⟨fun z => by first | rfl | (exfalso; omega), fun z => by first | rfl | (exfalso; omega)⟩) | exact rI k (by unfold shRR; rw [if_neg (by omega), if_neg (by omega), if_neg (by omega), if_pos (by omega)])
    · refine A.al4_0 d6_shown_77 ?_
      refine A.il4_2 d6_shown_78 ?_
      refine A.v1 d6_shown_79 (s6_endOf w0 w1 hB (by omega) (fun z => (fun (y : cSK S (nowM P).1 = 0) => by omega) (if_pos z)) (kS ?_)) (hc := w0)
      refine A.goto d6_shown_82 ?_
      refine A.iret d6_shown_99 ?_
      first | exact rI k (by unfold shRR; rw [if_neg (by omega), if_neg (by omega), if_neg (by omega), if_pos (by omega)]; exact sn_of hB hm1.1 (by omega) ⟨fun z => by first | rfl | (exfalso; omega), fun z => by first | rfl | (exfalso; omega)⟩) | exact rI k (by unfold shRR; rw [if_neg (by omega), if_neg (by omega), if_neg (by omega), if_pos (by omega)])
  · refine A.al4_0 d6_shown_100 ?_
    refine A.iconst d6_shown_101 ?_
    refine A.v1 d6_shown_102 (s6_present (B := B) w0 w3 hf0 hf1 hc0 hc1 (by omega) (by omega) (kS ?_)) (hc := w0)
    rw [hr.2.1]
    refine A.iret d6_shown_105 ?_
    exact rI k (by unfold shRR; rw [if_neg (by omega), if_neg (by omega), if_neg (by omega), if_neg (by omega), if_pos (by omega)])
  · refine A.il4_3 d6_shown_106 ?_
    refine A.iconst d6_shown_107 ?_
    refine A.ic_ne d6_shown_108 (fun c108 => ?_) (fun c108 => ?_)
    · refine A.bipush d6_shown_118 ?_
      refine A.iret d6_shown_120 ?_
      first | exact rI k (by unfold shRR; rw [if_neg (by omega), if_neg (by omega), if_neg (by omega), if_neg (by omega), if_neg (by omega), if_pos (by omega)]; exact (if_neg (fun y => c108 (by unfold cSK; rw [if_neg (by omega), if_pos y])) : cOS S (nowM P).1 (nowM P).2.1 = _).symm) | exact rI k (by unfold shRR; rw [if_neg (by omega), if_neg (by omega), if_neg (by omega), if_neg (by omega), if_neg (by omega), if_pos (by omega)])
    · refine A.al4_0 d6_shown_111 ?_
      refine A.v0 d6_shown_112 (s6_open hM2 (sk_choice c108) (kS ?_)) (hc := w0)
      refine A.goto d6_shown_115 ?_
      refine A.iret d6_shown_120 ?_
      first | exact rI k (by unfold shRR; rw [if_neg (by omega), if_neg (by omega), if_neg (by omega), if_neg (by omega), if_neg (by omega), if_pos (by omega)]; exact (if_neg (fun y => c108 (by unfold cSK; rw [if_neg (by omega), if_pos y])) : cOS S (nowM P).1 (nowM P).2.1 = _).symm) | exact rI k (by unfold shRR; rw [if_neg (by omega), if_neg (by omega), if_neg (by omega), if_neg (by omega), if_neg (by omega), if_pos (by omega)])
  · refine A.bipush d6_shown_121 ?_
    refine A.iret d6_shown_123 ?_
    exact rI k (by unfold shRR; rw [if_neg (by omega), if_neg (by omega), if_neg (by omega), if_neg (by omega), if_neg (by omega), if_neg (by omega)])
set_option maxRecDepth 100000 in
set_option maxHeartbeats 4000000 in
theorem s6_portrait {d : Nat} {h : AH} {R : RP} {p f : Int} {q : Nat} {S : SC} {P : PL} {T : TX} (hM : mAt h q S P T) (k : R (some (vI (poRR (nowM P) p f))) h) : AM m6_portrait (d + 2) h [vR q, vI p, vI f] R := by
  refine AM.of (L := [some (vR q), some (vI p), some (vI f)]) ok_6_portrait (by decide) (fun G => Nat.le_of_ble_eq_true rfl) rfl ?_
  obtain ⟨rd, fi, co, ah, se, ps, fa, fl, ch, hx, B, Rd, Mo, Sv, Iv, V, F, Re, Ch, Fm, By, Ie, Ef, Eb, w0, w1, w2, w3, w4, w5, w6, w7, w8, w9, w10, w11, w12, w13, w14, w15, hB, hP, hT⟩ := hM
  have hB1 := hB.1
  obtain ⟨⟨hr, hm, hsn⟩, ⟨hf0, hf1⟩, hc0, hc1⟩ := plR_now hP
  have n0 := row0 hr
  have hsk := sk_shown hm
  have hm1 := hm.1
  have hco := hP.2.1
  have hpr := hP.1.2
  refine A.il3_1 d6_portrait_0 ?_
  refine A.iconst d6_portrait_1 ?_
  refine A.iconst d6_portrait_2 ?_
  refine A.s3 d6_portrait_3 (s6_in (kS ?_))
  refine A.bz_eq d6_portrait_6 (fun c6 => ?_) (fun c6 => ?_)
  · refine A.bipush d6_portrait_27 ?_
    refine A.iret d6_portrait_29 ?_
    first
      | exact rI k (if_neg (by omega)).symm
      | exact rI k ((row1 hr (by omega) (by omega)).2.trans ((if_pos (by omega)).trans (if_pos (by omega)) : poRR (nowM P) p f = _).symm)
      | exact rI k ((row1 hr (by omega) (by omega)).1.trans ((if_pos (by omega)).trans (if_neg (by omega)) : poRR (nowM P) p f = _).symm)
  · refine A.al3_0 d6_portrait_9 ?_
    refine A.il3_2 d6_portrait_10 ?_
    refine A.if_eq d6_portrait_11 (fun c11 => ?_) (fun c11 => ?_)
    · refine A.iconst d6_portrait_18 ?_
      refine A.il3_1 d6_portrait_19 ?_
      refine A.iadd d6_portrait_20 ?_
      refine A.v1 d6_portrait_21 (s6_present (B := B) w0 w3 hf0 hf1 hc0 hc1 (by omega) (by omega) (kS ?_)) (hc := w0)
      refine A.goto d6_portrait_24 ?_
      refine A.iret d6_portrait_29 ?_
      first
        | exact rI k (if_neg (by omega)).symm
        | exact rI k ((row1 hr (by omega) (by omega)).2.trans ((if_pos (by omega)).trans (if_pos (by omega)) : poRR (nowM P) p f = _).symm)
        | exact rI k ((row1 hr (by omega) (by omega)).1.trans ((if_pos (by omega)).trans (if_neg (by omega)) : poRR (nowM P) p f = _).symm)
    · refine A.iconst d6_portrait_14 ?_
      refine A.goto d6_portrait_15 ?_
      refine A.il3_1 d6_portrait_19 ?_
      refine A.iadd d6_portrait_20 ?_
      refine A.v1 d6_portrait_21 (s6_present (B := B) w0 w3 hf0 hf1 hc0 hc1 (by omega) (by omega) (kS ?_)) (hc := w0)
      refine A.goto d6_portrait_24 ?_
      refine A.iret d6_portrait_29 ?_
      first
        | exact rI k (if_neg (by omega)).symm
        | exact rI k ((row1 hr (by omega) (by omega)).2.trans ((if_pos (by omega)).trans (if_pos (by omega)) : poRR (nowM P) p f = _).symm)
        | exact rI k ((row1 hr (by omega) (by omega)).1.trans ((if_pos (by omega)).trans (if_neg (by omega)) : poRR (nowM P) p f = _).symm)
set_option maxRecDepth 100000 in
set_option maxHeartbeats 4000000 in
theorem s6_isNode {d : Nat} {h : AH} {R : RP} {v : Int} {q : Nat} {S : SC} {P : PL} {T : TX} (hM : mAt h q S P T) (k : R (some (vI (bi (0 ≤ v ∧ v ≤ S.1 - 1)))) h) : AM m6_isNode (d + 1) h [vR q, vI v] R := by
  refine AM.of (L := [some (vR q), some (vI v)]) ok_6_isNode (by decide) (fun G => Nat.le_of_ble_eq_true rfl) rfl ?_
  obtain ⟨rd, fi, co, ah, se, ps, fa, fl, ch, hx, B, Rd, Mo, Sv, Iv, V, F, Re, Ch, Fm, By, Ie, Ef, Eb, w0, w1, w2, w3, w4, w5, w6, w7, w8, w9, w10, w11, w12, w13, w14, w15, hB, hP, hT⟩ := hM
  have hB1 := hB.1
  obtain ⟨⟨hr, hm, hsn⟩, ⟨hf0, hf1⟩, hc0, hc1⟩ := plR_now hP
  have n0 := row0 hr
  have hsk := sk_shown hm
  have hm1 := hm.1
  have hco := hP.2.1
  have hpr := hP.1.2
  refine A.il2_1 d6_isNode_0 ?_
  refine A.iconst d6_isNode_1 ?_
  refine A.al2_0 d6_isNode_2 ?_
  refine A.getf d6_isNode_3 ?_ (hc := w0)
  refine A.iconst d6_isNode_6 ?_
  refine A.isub d6_isNode_7 ?_
  refine A.s3 d6_isNode_8 (s6_in (kS ?_))
  refine A.zret d6_isNode_11 ?_
  exact k
set_option maxRecDepth 100000 in
set_option maxHeartbeats 4000000 in
theorem s6_node {d : Nat} {h : AH} {R : RP} {v w : Int} {q : Nat} {S : SC} {P : PL} {T : TX} (hM : mAt h q S P T) (k : R (some (vI (noRR S v w))) h) : AM m6_node (d + 2) h [vR q, vI v, vI w] R := by
  refine AM.of (L := [some (vR q), some (vI v), some (vI w)]) ok_6_node (by decide) (fun G => Nat.le_of_ble_eq_true rfl) rfl ?_
  obtain ⟨rd, fi, co, ah, se, ps, fa, fl, ch, hx, B, Rd, Mo, Sv, Iv, V, F, Re, Ch, Fm, By, Ie, Ef, Eb, w0, w1, w2, w3, w4, w5, w6, w7, w8, w9, w10, w11, w12, w13, w14, w15, hB, hP, hT⟩ := hM
  have hB1 := hB.1
  obtain ⟨⟨hr, hm, hsn⟩, ⟨hf0, hf1⟩, hc0, hc1⟩ := plR_now hP
  have n0 := row0 hr
  have hsk := sk_shown hm
  have hm1 := hm.1
  have hco := hP.2.1
  have hpr := hP.1.2
  have hM2 : mAt h q S P T := ⟨_, _, _, _, _, _, _, _, _, _, _, _, _, _, _, _, _, _, _, _, _, _, _, _, w0, w1, w2, w3, w4, w5, w6, w7, w8, w9, w10, w11, w12, w13, w14, w15, hB, hP, hT⟩
  refine A.al3_0 d6_node_0 ?_
  refine A.il3_1 d6_node_1 ?_
  refine A.v1 d6_node_2 (s6_isNode hM2 (kS ?_)) (hc := w0)
  refine A.bz_eq d6_node_5 (fun c5 => ?_) (fun c5 => ?_)
  · refine A.bipush d6_node_26 ?_
    refine A.iret d6_node_28 ?_
    first
      | exact rI k (if_neg (by omega)).symm
      | (have g := hB.2 v (by omega) (by omega)
         rcases (by omega : w = 0 ∨ w = 1 ∨ w = 2 ∨ w = 3) with z | z | z | z
         · subst z; exact rI k ((congrArg B (Int.add_zero _)).trans (g.kd.trans ((if_pos (by omega)).trans (if_pos rfl) : noRR S v 0 = _).symm))
         · subst z; exact rI k (g.n0.trans ((if_pos (by omega)).trans (if_neg (by omega)) : noRR S v 1 = _).symm)
         · subst z; exact rI k (g.n1.trans ((if_pos (by omega)).trans (if_neg (by omega)) : noRR S v 2 = _).symm)
         · subst z; exact rI k (g.n2.trans ((if_pos (by omega)).trans (if_neg (by omega)) : noRR S v 3 = _).symm))
  · refine A.il3_2 d6_node_8 ?_
    refine A.iconst d6_node_9 ?_
    refine A.iconst d6_node_10 ?_
    refine A.s3 d6_node_11 (s6_in (kS ?_))
    refine A.bz_eq d6_node_14 (fun c14 => ?_) (fun c14 => ?_)
    · refine A.bipush d6_node_26 ?_
      refine A.iret d6_node_28 ?_
      first
        | exact rI k (if_neg (by omega)).symm
        | (have g := hB.2 v (by omega) (by omega)
           rcases (by omega : w = 0 ∨ w = 1 ∨ w = 2 ∨ w = 3) with z | z | z | z
           · subst z; exact rI k ((congrArg B (Int.add_zero _)).trans (g.kd.trans ((if_pos (by omega)).trans (if_pos rfl) : noRR S v 0 = _).symm))
           · subst z; exact rI k (g.n0.trans ((if_pos (by omega)).trans (if_neg (by omega)) : noRR S v 1 = _).symm)
           · subst z; exact rI k (g.n1.trans ((if_pos (by omega)).trans (if_neg (by omega)) : noRR S v 2 = _).symm)
           · subst z; exact rI k (g.n2.trans ((if_pos (by omega)).trans (if_neg (by omega)) : noRR S v 3 = _).symm))
    · refine A.al3_0 d6_node_17 ?_
      refine A.il3_1 d6_node_18 ?_
      refine A.il3_2 d6_node_19 ?_
      refine A.v2 d6_node_20 (s6_of w0 w1 hB (by omega) (by omega) (by omega) (by omega) (kS ?_)) (hc := w0)
      refine A.goto d6_node_23 ?_
      refine A.iret d6_node_28 ?_
      first
        | exact rI k (if_neg (by omega)).symm
        | (have g := hB.2 v (by omega) (by omega)
           rcases (by omega : w = 0 ∨ w = 1 ∨ w = 2 ∨ w = 3) with z | z | z | z
           · subst z; exact rI k ((congrArg B (Int.add_zero _)).trans (g.kd.trans ((if_pos (by omega)).trans (if_pos rfl) : noRR S v 0 = _).symm))
           · subst z; exact rI k (g.n0.trans ((if_pos (by omega)).trans (if_neg (by omega)) : noRR S v 1 = _).symm)
           · subst z; exact rI k (g.n1.trans ((if_pos (by omega)).trans (if_neg (by omega)) : noRR S v 2 = _).symm)
           · subst z; exact rI k (g.n2.trans ((if_pos (by omega)).trans (if_neg (by omega)) : noRR S v 3 = _).symm))
