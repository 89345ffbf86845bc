/-! ===== Text: parts of nodes, into the draft ===== -/
theorem scI_num {S : SC} (h : scI S) (v : Int) : scI (cAddNum S v) := by
  unfold cAddNum
  by_cases e : (0 ≤ S.1 - 1 ∧ S.1 - 1 < S.1 ∧ S.1 - 1 < 29) ∧ S.2.2.1 (S.1 - 1) < 3
  · rw [if_pos e]
    refine ⟨h.1, h.2.1, fun w h0 h1 => ?_⟩
    have q := h.2.2 w h0 h1
    show (0 ≤ fset _ _ _ w ∧ fset _ _ _ w ≤ 3) ∧ (0 ≤ S.2.2.2.2.1 w ∧ S.2.2.2.2.1 w ≤ 4)
    unfold fset
    by_cases z : w = S.1 - 1
    · rw [if_pos z]; subst z; omega
    · rw [if_neg z]; exact q
  · rw [if_neg e]; exact h
theorem scI_opt {S : SC} (h : scI S) (t l f : Int) : scI (cAddOpt S t l f) := by
  unfold cAddOpt
  by_cases e : (0 ≤ S.1 - 1 ∧ S.1 - 1 < S.1 ∧ S.1 - 1 < 29) ∧ S.2.2.2.2.1 (S.1 - 1) < 4
  · rw [if_pos e]
    refine ⟨h.1, h.2.1, fun w h0 h1 => ?_⟩
    have q := h.2.2 w h0 h1
    show (0 ≤ S.2.2.1 w ∧ S.2.2.1 w ≤ 3) ∧ (0 ≤ fset _ _ _ w ∧ fset _ _ _ w ≤ 4)
    unfold fset
    by_cases z : w = S.1 - 1
    · rw [if_pos z]; subst z; omega
    · rw [if_neg z]; exact q
  · rw [if_neg e]; exact h
theorem scI_node {S : SC} (h : scI S) (k : Int) : scI (cAddNode S k) := by
  unfold cAddNode
  by_cases e : S.1 < 29
  · rw [if_pos e]
    refine ⟨by have := h.1; show 0 ≤ S.1 + 1; omega, by show S.1 + 1 ≤ 29; omega, fun w h0 h1 => ?_⟩
    have h1 : w < S.1 + 1 := h1
    show (0 ≤ fset _ _ _ w ∧ fset _ _ _ w ≤ 3) ∧ (0 ≤ fset _ _ _ w ∧ fset _ _ _ w ≤ 4)
    unfold fset
    by_cases z : w = S.1
    · rw [if_pos z, if_pos z]; omega
    · rw [if_neg z, if_neg z]; exact h.2.2 w h0 (by omega)
  · rw [if_neg e]; exact h
theorem scI_pif {P : Prop} {S S' : SC} (h : scI S) (h' : scI S') : scI (pif P S' S) := by
  rcases Classical.em P with e | e
  · rw [pif_t e]; exact h'
  · rw [pif_f e]; exact h
theorem isd_lt {T : TX} {p : Int} (h : isd T p) : 0 ≤ p ∧ p < T.1 := tc_lt (by have := h.1; omega)
theorem dgAt_le {T : TX} {m p : Int} (h : p ≤ T.1) : p ≤ dgAt T m p ∧ dgAt T m p ≤ T.1 := by
  unfold dgAt
  by_cases e : 48 ≤ tc T p ∧ tc T p ≤ 48 + m
  · rw [if_pos e]; have := tc_lt (T := T) (p := p) (by omega); omega
  · rw [if_neg e]; omega
theorem nmE_le {T : TX} {p : Int} (h : isd T p) : p ≤ nmE T p ∧ nmE T p ≤ T.1 := by
  unfold nmE
  have h1 := isd_lt h
  rcases Classical.em (isd T (p + 1)) with e | e
  · rw [pif_t e]; have := isd_lt e; omega
  · rw [pif_f e]; omega
theorem nmAt_le {T : TX} {m p : Int} (h : p ≤ T.1) : p ≤ nmAt T m p ∧ nmAt T m p ≤ T.1 := by
  unfold nmAt
  rcases Classical.em (isd T p ∧ nmV T p ≤ m) with e | e
  · rw [pif_t e]; exact nmE_le e.1
  · rw [pif_f e]; omega
def pmOk (T : TX) (p : Int) : Prop := tc T p = 43 ∨ tc T p = 45
/-- an option, from a place behind the blanks: where its lock's sign would stand, whether it does, where the flag stands; whether it fits, where the reading stands then, what it is -/
noncomputable def opQ (T : TX) (p : Int) : Int := sk T (nmAt T 29 p)
def opL (T : TX) (p : Int) : Prop := tc T (opQ T p) = 63 ∨ tc T (opQ T p) = 33
noncomputable def opD (T : TX) (p : Int) : Int := sk T (opQ T p + 1)
def opOk (T : TX) (p : Int) : Prop := nmOk T 29 p ∧ (opL T p → dgOk T 5 (opD T p))
noncomputable def opAt (T : TX) (p : Int) : Int := pif (nmOk T 29 p) (pif (opL T p) (dgAt T 5 (opD T p)) (opQ T p)) (nmAt T 29 p)
noncomputable def opV (T : TX) (p : Int) : Int × Int × Int := pif (opL T p) (nmV T p, if tc T (opQ T p) = 63 then 1 else 2, tc T (opD T p) - 48) (nmV T p, 0, -11)
theorem opQ_le {T : TX} {p : Int} (h : p ≤ T.1) : p ≤ opQ T p ∧ opQ T p ≤ T.1 := by
  have h1 := nmAt_le (m := 29) h
  have h2 := sk_le (T := T) (nmAt T 29 p)
  exact ⟨by unfold opQ; omega, sk_len h1.2⟩
theorem opD_le {T : TX} {p : Int} (h : p ≤ T.1) (hl : opL T p) : p ≤ opD T p ∧ opD T p ≤ T.1 := by
  have h1 := opQ_le h
  have h2 := sk_le (T := T) (opQ T p + 1)
  have h3 : opQ T p < T.1 := (tc_lt (T := T) (p := opQ T p) (by unfold opL at hl; omega)).2
  exact ⟨by unfold opD; omega, sk_len (by omega)⟩
theorem opAt_le {T : TX} {p : Int} (h : p ≤ T.1) : p ≤ opAt T p ∧ opAt T p ≤ T.1 := by
  unfold opAt
  rcases Classical.em (nmOk T 29 p) with e | e
  · rw [pif_t e]
    rcases Classical.em (opL T p) with e2 | e2
    · rw [pif_t e2]; have h1 := opD_le h e2; have h2 := dgAt_le (m := 5) h1.2; omega
    · rw [pif_f e2]; exact opQ_le h
  · rw [pif_f e]; exact nmAt_le h
/-- options, up to so many: whether they fit, where the reading stands then, what they are -/
noncomputable def osR (T : TX) : Nat → Int → Prop × Int × List (Int × Int × Int)
  | 0, a => (False, sk T a, [])
  | k + 1, a => pif (opOk T (sk T a)) (pif (tc T (sk T (opAt T (sk T a))) = 44) ((osR T k (sk T (opAt T (sk T a)) + 1)).1, (osR T k (sk T (opAt T (sk T a)) + 1)).2.1, opV T (sk T a) :: (osR T k (sk T (opAt T (sk T a)) + 1)).2.2) (True, sk T (opAt T (sk T a)), [opV T (sk T a)])) (False, opAt T (sk T a), [])
def addOs (S : SC) (l : List (Int × Int × Int)) : SC := l.foldl (fun S o => cAddOpt S o.1 o.2.1 o.2.2) S
theorem scI_os : ∀ (l : List (Int × Int × Int)) {S : SC}, scI S → scI (addOs S l) := by
  intro l
  induction l with
  | nil => intro S h; exact h
  | cons o l ih => intro S h; exact ih (scI_opt h _ _ _)
set_option maxRecDepth 100000 in
set_option maxHeartbeats 4000000 in
theorem s4_addVoice {d : Nat} {h : AH} {R : RP} {t s : Nat} {T : TX} {a n : Int} (hX : txAt h t T s a n) (hT : txI T) (ha : 0 ≤ a) (ha2 : a ≤ T.1) {S : SC} (hS : scAt h s S) (hI : scI S) (hd : s + 6 ≤ t ∨ t + 2 ≤ s) (k : ∀ h', txAt h' t T s (pif (vcOk T (sk T a)) (sk T a + 1) (sk T a)) n → scAt h' s (pif (vcOk T (sk T a)) (cAddNum S (tc T (sk T a) - 97)) S) → Fr2 h h' t 1 s 6 → R (some (vI (bi (vcOk T (sk T a))))) h') : AM m4_addVoice (d + 2) h [vR t] R := by
  refine AM.of (L := [some (vR t), none]) ok_4_addVoice (by decide) (fun G => Nat.le_of_ble_eq_true rfl) rfl ?_
  obtain ⟨x0, x1⟩ := hX
  refine A.al2_0 d4_addVoice_0 ?_
  refine A.v0 d4_addVoice_1 (s4_skipBlanks ⟨x0, x1⟩ hT ha ha2 (fun h1 hX1 f1 => kN ?_)) (hc := x0)
  obtain ⟨x0, x1⟩ := hX1
  have hS := hS.fr f1 (by omega)
  have hb0 := sk_le (T := T) a
  have hb1 := sk_len ha2
  have hh := hv_tc hT (sk T a)
  have hT2 := hT.2.1
  have htr := tc_rng hT (sk T a)
  refine A.al2_0 d4_addVoice_4 ?_
  refine A.v0 d4_addVoice_5 (s4_here ⟨x0, x1⟩ hT (kS ?_)) (hc := x0)
  refine A.bipush d4_addVoice_8 ?_
  refine A.isub d4_addVoice_10 ?_
  refine A.is2_1 d4_addVoice_11 ?_
  refine A.il2_1 d4_addVoice_12 ?_
  refine A.if_lt d4_addVoice_13 (fun c13 => ?_) (fun c13 => ?_)
  · refine A.iconst d4_addVoice_22 ?_
    refine A.zret d4_addVoice_23 ?_
    have e1 : ¬ vcOk T (sk T a) := by unfold vcOk; omega
    exact rF (k _ (by rw [pif_f e1]; exact ⟨x0, x1⟩) (by rw [pif_f e1]; exact hS) (f1.two1 (by omega) (by omega))) e1
  · refine A.il2_1 d4_addVoice_16 ?_
    refine A.bipush d4_addVoice_17 ?_
    refine A.ic_lt d4_addVoice_19 (fun c19 => ?_) (fun c19 => ?_)
    · refine A.al2_0 d4_addVoice_24 ?_
      refine A.getf d4_addVoice_25 ?_ (hc := x0)
      refine A.il2_1 d4_addVoice_28 ?_
      refine A.v1 d4_addVoice_29 (s3_addNumber hS hI (v := hv T (sk T a) - 97) (fun h29 hS29 f29 => kN ?_)) (hc := hS.1)
      have x0 := f29.get x0 (by omega)
      have x1 := f29.get x1 (by omega)
      have hS := hS29
      refine A.al2_0 d4_addVoice_32 ?_
      refine A.dup d4_addVoice_33 ?_
      refine A.getf d4_addVoice_34 ?_ (hc := x0)
      refine A.iconst d4_addVoice_37 ?_
      refine A.iadd d4_addVoice_38 ?_
      refine A.putf d4_addVoice_39 (fun h39 e39 f39 => ?_) (hc := x0) (hk := blt_ok rfl)
      first | (have x0 := (f39.2 _ (by omega)).trans x0) | (have x0 := e39)
      first | (have x1 := (f39.2 _ (by omega)).trans x1) | (have x1 := e39)
      have hS := hS.fr f39 (by omega)
      refine A.iconst d4_addVoice_42 ?_
      refine A.zret d4_addVoice_43 ?_
      have e1 : vcOk T (sk T a) := by unfold vcOk; omega
      have e2 : tc T (sk T a) - 97 = hv T (sk T a) - 97 := by omega
      exact rT (k _ (by rw [pif_t e1]; exact ⟨x0, x1⟩) (by rw [pif_t e1, e2]; exact hS) (((f1.two1 (by omega) (by omega)).trans (f29.two2 (by omega) (by omega))).trans (f39.two1 (by omega) (by omega)))) e1
    · refine A.iconst d4_addVoice_22 ?_
      refine A.zret d4_addVoice_23 ?_
      have e1 : ¬ vcOk T (sk T a) := by unfold vcOk; omega
      exact rF (k _ (by rw [pif_f e1]; exact ⟨x0, x1⟩) (by rw [pif_f e1]; exact hS) (f1.two1 (by omega) (by omega))) e1
set_option maxRecDepth 100000 in
set_option maxHeartbeats 4000000 in
theorem s4_addDigit {d : Nat} {h : AH} {R : RP} {m : Int} {t s : Nat} {T : TX} {a n : Int} (hX : txAt h t T s a n) (hT : txI T) (ha : 0 ≤ a) (ha2 : a ≤ T.1) {S : SC} (hS : scAt h s S) (hI : scI S) (hd : s + 6 ≤ t ∨ t + 2 ≤ s) (hm : 0 ≤ m ∧ m ≤ 9) (k : ∀ h' n', txAt h' t T s (dgAt T m (sk T a)) n' → scAt h' s (pif (dgOk T m (sk T a)) (cAddNum S (tc T (sk T a) - 48)) S) → Fr2 h h' t 1 s 6 → R (some (vI (bi (dgOk T m (sk T a))))) h') : AM m4_addDigit (d + 3) h [vR t, vI m] R := by
  refine AM.of (L := [some (vR t), some (vI m)]) ok_4_addDigit (by decide) (fun G => Nat.le_of_ble_eq_true rfl) rfl ?_
  obtain ⟨x0, x1⟩ := hX
  refine A.al2_0 d4_addDigit_0 ?_
  refine A.il2_1 d4_addDigit_1 ?_
  refine A.v1 d4_addDigit_2 (s4_takeDigit ⟨x0, x1⟩ hT ha ha2 hm (fun h2 n2 hX2 hn2 f2 => kS ?_)) (hc := x0)
  obtain ⟨x0, x1⟩ := hX2
  have hS := hS.fr f2 (by omega)
  refine A.bz_ne d4_addDigit_5 (fun c5 => ?_) (fun c5 => ?_)
  · refine A.al2_0 d4_addDigit_10 ?_
    refine A.getf d4_addDigit_11 ?_ (hc := x0)
    refine A.al2_0 d4_addDigit_14 ?_
    refine A.getf d4_addDigit_15 ?_ (hc := x0)
    refine A.v1 d4_addDigit_18 (s3_addNumber hS hI (v := n2) (fun h18 hS18 f18 => kN ?_)) (hc := hS.1)
    have x0 := f18.get x0 (by omega)
    have x1 := f18.get x1 (by omega)
    have hS := hS18
    refine A.iconst d4_addDigit_21 ?_
    refine A.zret d4_addDigit_22 ?_
    exact rT (k _ _ ⟨x0, x1⟩ (by rw [pif_t c5, ← hn2 c5]; exact hS) ((f2.two1 (by omega) (by omega)).trans (f18.two2 (by omega) (by omega)))) c5
  · refine A.iconst d4_addDigit_8 ?_
    refine A.zret d4_addDigit_9 ?_
    exact rF (k _ _ ⟨x0, x1⟩ (by rw [pif_f c5]; exact hS) (f2.two1 (by omega) (by omega))) c5
set_option maxRecDepth 100000 in
set_option maxHeartbeats 4000000 in
theorem s4_addNumber {d : Nat} {h : AH} {R : RP} {m : Int} {t s : Nat} {T : TX} {a n : Int} (hX : txAt h t T s a n) (hT : txI T) (ha : 0 ≤ a) (ha2 : a ≤ T.1) {S : SC} (hS : scAt h s S) (hI : scI S) (hd : s + 6 ≤ t ∨ t + 2 ≤ s) (hm : 0 ≤ m ∧ m ≤ 99) (k : ∀ h' n', txAt h' t T s (nmAt T m (sk T a)) n' → scAt h' s (pif (nmOk T m (sk T a)) (cAddNum S (nmV T (sk T a))) S) → Fr2 h h' t 1 s 6 → R (some (vI (bi (nmOk T m (sk T a))))) h') : AM m4_addNumber (d + 3) h [vR t, vI m] R := by
  refine AM.of (L := [some (vR t), some (vI m)]) ok_4_addNumber (by decide) (fun G => Nat.le_of_ble_eq_true rfl) rfl ?_
  obtain ⟨x0, x1⟩ := hX
  refine A.al2_0 d4_addNumber_0 ?_
  refine A.il2_1 d4_addNumber_1 ?_
  refine A.v1 d4_addNumber_2 (s4_takeNumber ⟨x0, x1⟩ hT ha ha2 hm (fun h2 n2 hX2 hn2 f2 => kS ?_)) (hc := x0)
  obtain ⟨x0, x1⟩ := hX2
  have hS := hS.fr f2 (by omega)
  refine A.bz_ne d4_addNumber_5 (fun c5 => ?_) (fun c5 => ?_)
  · refine A.al2_0 d4_addNumber_10 ?_
    refine A.getf d4_addNumber_11 ?_ (hc := x0)
    refine A.al2_0 d4_addNumber_14 ?_
    refine A.getf d4_addNumber_15 ?_ (hc := x0)
    refine A.v1 d4_addNumber_18 (s3_addNumber hS hI (v := n2) (fun h18 hS18 f18 => kN ?_)) (hc := hS.1)
    have x0 := f18.get x0 (by omega)
    have x1 := f18.get x1 (by omega)
    have hS := hS18
    refine A.iconst d4_addNumber_21 ?_
    refine A.zret d4_addNumber_22 ?_
    exact rT (k _ _ ⟨x0, x1⟩ (by rw [pif_t c5, ← hn2 c5]; exact hS) ((f2.two1 (by omega) (by omega)).trans (f18.two2 (by omega) (by omega)))) c5
  · refine A.iconst d4_addNumber_8 ?_
    refine A.zret d4_addNumber_9 ?_
    exact rF (k _ _ ⟨x0, x1⟩ (by rw [pif_f c5]; exact hS) (f2.two1 (by omega) (by omega))) c5
set_option maxRecDepth 100000 in
set_option maxHeartbeats 4000000 in
theorem s4_addPlusOrMinus {d : Nat} {h : AH} {R : RP} {t s : Nat} {T : TX} {a n : Int} (hX : txAt h t T s a n) (hT : txI T) (ha : 0 ≤ a) (ha2 : a ≤ T.1) {S : SC} (hS : scAt h s S) (hI : scI S) (hd : s + 6 ≤ t ∨ t + 2 ≤ s) (k : ∀ h', txAt h' t T s (pif (pmOk T (sk T a)) (sk T a + 1) (sk T a)) n → scAt h' s (pif (pmOk T (sk T a)) (cAddNum S (if tc T (sk T a) = 43 then 1 else 0)) S) → Fr2 h h' t 1 s 6 → R (some (vI (bi (pmOk T (sk T a))))) h') : AM m4_addPlusOrMinus (d + 3) h [vR t] R := by
  refine AM.of (L := [some (vR t), none]) ok_4_addPlusOrMinus (by decide) (fun G => Nat.le_of_ble_eq_true rfl) rfl ?_
  obtain ⟨x0, x1⟩ := hX
  refine A.al2_0 d4_addPlusOrMinus_0 ?_
  refine A.bipush d4_addPlusOrMinus_1 ?_
  refine A.v1 d4_addPlusOrMinus_3 (s4_takeSign (c := 43) ⟨x0, x1⟩ hT ha ha2 (by omega) (fun h3 hX3 f3 => kS ?_)) (hc := x0)
  obtain ⟨x0, x1⟩ := hX3
  have hS := hS.fr f3 (by omega)
  have hb0 := sk_le (T := T) a
  have hb1 := sk_len ha2
  have hss := sk_sk hT ha
  refine A.is2_1 d4_addPlusOrMinus_6 ?_
  refine A.il2_1 d4_addPlusOrMinus_7 ?_
  refine A.bz_ne d4_addPlusOrMinus_8 (fun c8 => ?_) (fun c8 => ?_)
  · refine A.al2_0 d4_addPlusOrMinus_22 ?_
    refine A.getf d4_addPlusOrMinus_23 ?_ (hc := x0)
    refine A.il2_1 d4_addPlusOrMinus_26 ?_
    refine A.bz_eq d4_addPlusOrMinus_27 (fun c27 => ?_) (fun c27 => ?_)
    · refine A.iconst d4_addPlusOrMinus_34 ?_
      refine A.v1 d4_addPlusOrMinus_35 (s3_addNumber hS hI (fun h35 hS35 f35 => kN ?_)) (hc := hS.1)
      have x0 := f35.get x0 (by omega)
      have x1 := f35.get x1 (by omega)
      have hS := hS35
      refine A.iconst d4_addPlusOrMinus_38 ?_
      refine A.zret d4_addPlusOrMinus_39 ?_
      have e1 : pmOk T (sk T a) := by unfold pmOk; omega
      first | exact absurd c8 c27 | exact absurd c27 c8 | (rw [pif_t c8] at x0; exact rT (k _ (by rw [pif_t e1]; exact ⟨x0, x1⟩) (by rw [pif_t e1, if_pos c8]; exact hS) ((f3.two1 (by omega) (by omega)).trans (f35.two2 (by omega) (by omega)))) e1) | (rw [pif_t c17] at x0; exact rT (k _ (by rw [pif_t e1]; exact ⟨x0, x1⟩) (by rw [pif_t e1, if_neg c8]; exact hS) (((f3.two1 (by omega) (by omega)).trans (f14.two1 (by omega) (by omega))).trans (f35.two2 (by omega) (by omega)))) e1)
    · refine A.iconst d4_addPlusOrMinus_30 ?_
      refine A.goto d4_addPlusOrMinus_31 ?_
      refine A.v1 d4_addPlusOrMinus_35 (s3_addNumber hS hI (fun h35 hS35 f35 => kN ?_)) (hc := hS.1)
      have x0 := f35.get x0 (by omega)
      have x1 := f35.get x1 (by omega)
      have hS := hS35
      refine A.iconst d4_addPlusOrMinus_38 ?_
      refine A.zret d4_addPlusOrMinus_39 ?_
      have e1 : pmOk T (sk T a) := by unfold pmOk; omega
      first | exact absurd c8 c27 | exact absurd c27 c8 | (rw [pif_t c8] at x0; exact rT (k _ (by rw [pif_t e1]; exact ⟨x0, x1⟩) (by rw [pif_t e1, if_pos c8]; exact hS) ((f3.two1 (by omega) (by omega)).trans (f35.two2 (by omega) (by omega)))) e1) | (rw [pif_t c17] at x0; exact rT (k _ (by rw [pif_t e1]; exact ⟨x0, x1⟩) (by rw [pif_t e1, if_neg c8]; exact hS) (((f3.two1 (by omega) (by omega)).trans (f14.two1 (by omega) (by omega))).trans (f35.two2 (by omega) (by omega)))) e1)
  · rw [pif_f c8] at x0
    refine A.al2_0 d4_addPlusOrMinus_11 ?_
    refine A.bipush d4_addPlusOrMinus_12 ?_
    refine A.v1 d4_addPlusOrMinus_14 (s4_takeSign (c := 45) ⟨x0, x1⟩ hT (by omega) hb1 (by omega) (fun h14 hX14 f14 => kS ?_)) (hc := x0)
    obtain ⟨x0, x1⟩ := hX14
    have hS := hS.fr f14 (by omega)
    rw [hss] at x0
    rw [hss]
    refine A.bz_ne d4_addPlusOrMinus_17 (fun c17 => ?_) (fun c17 => ?_)
    · refine A.al2_0 d4_addPlusOrMinus_22 ?_
      refine A.getf d4_addPlusOrMinus_23 ?_ (hc := x0)
      refine A.il2_1 d4_addPlusOrMinus_26 ?_
      refine A.bz_eq d4_addPlusOrMinus_27 (fun c27 => ?_) (fun c27 => ?_)
      · refine A.iconst d4_addPlusOrMinus_34 ?_
        refine A.v1 d4_addPlusOrMinus_35 (s3_addNumber hS hI (fun h35 hS35 f35 => kN ?_)) (hc := hS.1)
        have x0 := f35.get x0 (by omega)
        have x1 := f35.get x1 (by omega)
        have hS := hS35
        refine A.iconst d4_addPlusOrMinus_38 ?_
        refine A.zret d4_addPlusOrMinus_39 ?_
        have e1 : pmOk T (sk T a) := by unfold pmOk; omega
        first | exact absurd c8 c27 | exact absurd c27 c8 | (rw [pif_t c8] at x0; exact rT (k _ (by rw [pif_t e1]; exact ⟨x0, x1⟩) (by rw [pif_t e1, if_pos c8]; exact hS) ((f3.two1 (by omega) (by omega)).trans (f35.two2 (by omega) (by omega)))) e1) | (rw [pif_t c17] at x0; exact rT (k _ (by rw [pif_t e1]; exact ⟨x0, x1⟩) (by rw [pif_t e1, if_neg c8]; exact hS) (((f3.two1 (by omega) (by omega)).trans (f14.two1 (by omega) (by omega))).trans (f35.two2 (by omega) (by omega)))) e1)
      · refine A.iconst d4_addPlusOrMinus_30 ?_
        refine A.goto d4_addPlusOrMinus_31 ?_
        refine A.v1 d4_addPlusOrMinus_35 (s3_addNumber hS hI (fun h35 hS35 f35 => kN ?_)) (hc := hS.1)
        have x0 := f35.get x0 (by omega)
        have x1 := f35.get x1 (by omega)
        have hS := hS35
        refine A.iconst d4_addPlusOrMinus_38 ?_
        refine A.zret d4_addPlusOrMinus_39 ?_
        have e1 : pmOk T (sk T a) := by unfold pmOk; omega
        first | exact absurd c8 c27 | exact absurd c27 c8 | (rw [pif_t c8] at x0; exact rT (k _ (by rw [pif_t e1]; exact ⟨x0, x1⟩) (by rw [pif_t e1, if_pos c8]; exact hS) ((f3.two1 (by omega) (by omega)).trans (f35.two2 (by omega) (by omega)))) e1) | (rw [pif_t c17] at x0; exact rT (k _ (by rw [pif_t e1]; exact ⟨x0, x1⟩) (by rw [pif_t e1, if_neg c8]; exact hS) (((f3.two1 (by omega) (by omega)).trans (f14.two1 (by omega) (by omega))).trans (f35.two2 (by omega) (by omega)))) e1)
    · refine A.iconst d4_addPlusOrMinus_20 ?_
      refine A.zret d4_addPlusOrMinus_21 ?_
      have e1 : ¬ pmOk T (sk T a) := by unfold pmOk; omega
      rw [pif_f c17] at x0
      exact rF (k _ (by rw [pif_f e1]; exact ⟨x0, x1⟩) (by rw [pif_f e1]; exact hS) ((f3.two1 (by omega) (by omega)).trans (f14.two1 (by omega) (by omega)))) e1
