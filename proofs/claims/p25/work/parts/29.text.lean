/-! ===== Text: tokens ===== -/
set_option maxRecDepth 100000 in
set_option maxHeartbeats 4000000 in
theorem s4_takeSign {d : Nat} {h : AH} {R : RP} {c : Int} {t s : Nat} {T : TX} {a n : Int} (hX : txAt h t T s a n) (hT : txI T) (ha : 0 ≤ a) (ha2 : a ≤ T.1) (hc : 1 ≤ c) (k : ∀ h', txAt h' t T s (pif (tc T (sk T a) = c) (sk T a + 1) (sk T a)) n → Fr h h' t 1 → R (some (vI (bi (tc T (sk T a) = c)))) h') : AM m4_takeSign (d + 2) h [vR t, vI c] R := by
  refine AM.of (L := [some (vR t), some (vI c)]) ok_4_takeSign (by decide) (fun G => Nat.le_of_ble_eq_true rfl) rfl ?_
  obtain ⟨x0, x1⟩ := hX
  refine A.al2_0 d4_takeSign_0 ?_
  refine A.v0 d4_takeSign_1 (s4_skipBlanks ⟨x0, x1⟩ hT ha ha2 (fun h1 hX1 f1 => kN ?_)) (hc := x0)
  obtain ⟨x0, x1⟩ := hX1
  have hb0 := sk_le (T := T) a
  have hb1 := sk_len ha2
  have hh := hv_tc hT (sk T a)
  have hT2 := hT.2.1
  have htr := tc_rng hT (sk T a)
  have htr2 := tc_rng hT (sk T a + 1)
  refine A.al2_0 d4_takeSign_4 ?_
  refine A.v0 d4_takeSign_5 (s4_here ⟨x0, x1⟩ hT (kS ?_)) (hc := x0)
  refine A.il2_1 d4_takeSign_8 ?_
  refine A.ic_eq d4_takeSign_9 (fun c9 => ?_) (fun c9 => ?_)
  · refine A.al2_0 d4_takeSign_14 ?_
    refine A.dup d4_takeSign_15 ?_
    refine A.getf d4_takeSign_16 ?_ (hc := x0)
    refine A.iconst d4_takeSign_19 ?_
    refine A.iadd d4_takeSign_20 ?_
    refine A.putf d4_takeSign_21 (fun h21 e21 f21 => ?_) (hc := x0) (hk := blt_ok rfl)
    first | (have x0 := (f21.2 _ (by omega)).trans x0) | (have x0 := e21)
    first | (have x1 := (f21.2 _ (by omega)).trans x1) | (have x1 := e21)
    have F21 := f1.then f21 (by omega) (by omega)
    refine A.iconst d4_takeSign_24 ?_
    refine A.zret d4_takeSign_25 ?_
    first | exact rT (k _ (by rw [pif_t (by omega)]; exact ⟨x0, x1⟩) F21) (by omega) | exact rF (k _ (by rw [pif_f (by omega)]; exact ⟨x0, x1⟩) F21) (by omega)
  · refine A.iconst d4_takeSign_12 ?_
    refine A.zret d4_takeSign_13 ?_
    first | exact rT (k _ (by rw [pif_t (by omega)]; exact ⟨x0, x1⟩) f1) (by omega) | exact rF (k _ (by rw [pif_f (by omega)]; exact ⟨x0, x1⟩) f1) (by omega)
set_option maxRecDepth 100000 in
set_option maxHeartbeats 4000000 in
theorem s4_takeDigit {d : Nat} {h : AH} {R : RP} {m : Int} {t s : Nat} {T : TX} {a n : Int} (hX : txAt h t T s a n) (hT : txI T) (ha : 0 ≤ a) (ha2 : a ≤ T.1) (hm : 0 ≤ m ∧ m ≤ 9) (k : ∀ h' n', txAt h' t T s (dgAt T m (sk T a)) n' → (dgOk T m (sk T a) → n' = tc T (sk T a) - 48) → Fr h h' t 1 → R (some (vI (bi (dgOk T m (sk T a))))) h') : AM m4_takeDigit (d + 2) h [vR t, vI m] R := by
  refine AM.of (L := [some (vR t), some (vI m)]) ok_4_takeDigit (by decide) (fun G => Nat.le_of_ble_eq_true rfl) rfl ?_
  obtain ⟨x0, x1⟩ := hX
  refine A.al2_0 d4_takeDigit_0 ?_
  refine A.v0 d4_takeDigit_1 (s4_skipBlanks ⟨x0, x1⟩ hT ha ha2 (fun h1 hX1 f1 => kN ?_)) (hc := x0)
  obtain ⟨x0, x1⟩ := hX1
  have hb0 := sk_le (T := T) a
  have hb1 := sk_len ha2
  have hh := hv_tc hT (sk T a)
  have hT2 := hT.2.1
  have htr := tc_rng hT (sk T a)
  have htr2 := tc_rng hT (sk T a + 1)
  refine A.al2_0 d4_takeDigit_4 ?_
  refine A.al2_0 d4_takeDigit_5 ?_
  refine A.v0 d4_takeDigit_6 (s4_here ⟨x0, x1⟩ hT (kS ?_)) (hc := x0)
  refine A.bipush d4_takeDigit_9 ?_
  refine A.isub d4_takeDigit_11 ?_
  refine A.putf d4_takeDigit_12 (fun h12 e12 f12 => ?_) (hc := x0) (hk := blt_ok rfl)
  first | (have x0 := (f12.2 _ (by omega)).trans x0) | (have x0 := e12)
  first | (have x1 := (f12.2 _ (by omega)).trans x1) | (have x1 := e12)
  have F12 := f1.then f12 (by omega) (by omega)
  refine A.al2_0 d4_takeDigit_15 ?_
  refine A.getf d4_takeDigit_16 ?_ (hc := x0)
  refine A.if_lt d4_takeDigit_19 (fun c19 => ?_) (fun c19 => ?_)
  · refine A.iconst d4_takeDigit_30 ?_
    refine A.zret d4_takeDigit_31 ?_
    exact rF (k _ _ (by unfold dgAt; rw [if_neg (by omega)]; exact ⟨x0, x1⟩) (fun q => by unfold dgOk at q; omega) F12) (by unfold dgOk; omega)
  · refine A.al2_0 d4_takeDigit_22 ?_
    refine A.getf d4_takeDigit_23 ?_ (hc := x0)
    refine A.il2_1 d4_takeDigit_26 ?_
    refine A.ic_le d4_takeDigit_27 (fun c27 => ?_) (fun c27 => ?_)
    · refine A.al2_0 d4_takeDigit_32 ?_
      refine A.dup d4_takeDigit_33 ?_
      refine A.getf d4_takeDigit_34 ?_ (hc := x0)
      refine A.iconst d4_takeDigit_37 ?_
      refine A.iadd d4_takeDigit_38 ?_
      refine A.putf d4_takeDigit_39 (fun h39 e39 f39 => ?_) (hc := x0) (hk := blt_ok rfl)
      first | (have x0 := (f39.2 _ (by omega)).trans x0) | (have x0 := e39)
      first | (have x1 := (f39.2 _ (by omega)).trans x1) | (have x1 := e39)
      have F39 := F12.then f39 (by omega) (by omega)
      refine A.al2_0 d4_takeDigit_42 ?_
      refine A.v0 d4_takeDigit_43 (s4_isAtDigit ⟨x0, x1⟩ hT (kS ?_)) (hc := x0)
      refine A.bz_ne d4_takeDigit_46 (fun c46 => ?_) (fun c46 => ?_)
      · refine A.iconst d4_takeDigit_53 ?_
        refine A.zret d4_takeDigit_54 ?_
        have e1 : dgAt T m (sk T a) = sk T a + 1 := if_pos (by omega)
        have e2 : hv T (sk T a) = tc T (sk T a) := by omega
        first | exact rF (k _ _ (by rw [e1]; exact ⟨x0, x1⟩) (fun q => absurd c46 q.2) F39) (fun q => q.2 c46) | exact rT (k _ _ (by rw [e1]; exact ⟨x0, x1⟩) (fun q => by rw [← e2]) F39) ⟨by omega, c46⟩
      · refine A.iconst d4_takeDigit_49 ?_
        refine A.goto d4_takeDigit_50 ?_
        refine A.zret d4_takeDigit_54 ?_
        have e1 : dgAt T m (sk T a) = sk T a + 1 := if_pos (by omega)
        have e2 : hv T (sk T a) = tc T (sk T a) := by omega
        first | exact rF (k _ _ (by rw [e1]; exact ⟨x0, x1⟩) (fun q => absurd c46 q.2) F39) (fun q => q.2 c46) | exact rT (k _ _ (by rw [e1]; exact ⟨x0, x1⟩) (fun q => by rw [← e2]) F39) ⟨by omega, c46⟩
    · refine A.iconst d4_takeDigit_30 ?_
      refine A.zret d4_takeDigit_31 ?_
      exact rF (k _ _ (by unfold dgAt; rw [if_neg (by omega)]; exact ⟨x0, x1⟩) (fun q => by unfold dgOk at q; omega) F12) (by unfold dgOk; omega)
set_option maxRecDepth 100000 in
set_option maxHeartbeats 4000000 in
theorem s4_takeNumber {d : Nat} {h : AH} {R : RP} {m : Int} {t s : Nat} {T : TX} {a n : Int} (hX : txAt h t T s a n) (hT : txI T) (ha : 0 ≤ a) (ha2 : a ≤ T.1) (hm : 0 ≤ m ∧ m ≤ 99) (k : ∀ h' n', txAt h' t T s (nmAt T m (sk T a)) n' → (nmOk T m (sk T a) → n' = nmV T (sk T a)) → Fr h h' t 1 → R (some (vI (bi (nmOk T m (sk T a))))) h') : AM m4_takeNumber (d + 2) h [vR t, vI m] R := by
  refine AM.of (L := [some (vR t), some (vI m), none]) ok_4_takeNumber (by decide) (fun G => Nat.le_of_ble_eq_true rfl) rfl ?_
  obtain ⟨x0, x1⟩ := hX
  refine A.al3_0 d4_takeNumber_0 ?_
  refine A.v0 d4_takeNumber_1 (s4_skipBlanks ⟨x0, x1⟩ hT ha ha2 (fun h1 hX1 f1 => kN ?_)) (hc := x0)
  obtain ⟨x0, x1⟩ := hX1
  have hb0 := sk_le (T := T) a
  have hb1 := sk_len ha2
  have hh := hv_tc hT (sk T a)
  have hT2 := hT.2.1
  have htr := tc_rng hT (sk T a)
  have htr2 := tc_rng hT (sk T a + 1)
  refine A.al3_0 d4_takeNumber_4 ?_
  refine A.getf d4_takeNumber_5 ?_ (hc := x0)
  refine A.is3_2 d4_takeNumber_8 ?_
  refine A.al3_0 d4_takeNumber_9 ?_
  refine A.v0 d4_takeNumber_10 (s4_isAtDigit ⟨x0, x1⟩ hT (kS ?_)) (hc := x0)
  refine A.bz_ne d4_takeNumber_13 (fun c13 => ?_) (fun c13 => ?_)
  · have hd13 := c13
    unfold isd at hd13
    have hh2 := hv_tc hT (sk T a + 1)
    refine A.al3_0 d4_takeNumber_18 ?_
    refine A.al3_0 d4_takeNumber_19 ?_
    refine A.v0 d4_takeNumber_20 (s4_here ⟨x0, x1⟩ hT (kS ?_)) (hc := x0)
    refine A.bipush d4_takeNumber_23 ?_
    refine A.isub d4_takeNumber_25 ?_
    refine A.putf d4_takeNumber_26 (fun h26 e26 f26 => ?_) (hc := x0) (hk := blt_ok rfl)
    first | (have x0 := (f26.2 _ (by omega)).trans x0) | (have x0 := e26)
    first | (have x1 := (f26.2 _ (by omega)).trans x1) | (have x1 := e26)
    have F26 := f1.then f26 (by omega) (by omega)
    refine A.al3_0 d4_takeNumber_29 ?_
    refine A.dup d4_takeNumber_30 ?_
    refine A.getf d4_takeNumber_31 ?_ (hc := x0)
    refine A.iconst d4_takeNumber_34 ?_
    refine A.iadd d4_takeNumber_35 ?_
    refine A.putf d4_takeNumber_36 (fun h36 e36 f36 => ?_) (hc := x0) (hk := blt_ok rfl)
    first | (have x0 := (f36.2 _ (by omega)).trans x0) | (have x0 := e36)
    first | (have x1 := (f36.2 _ (by omega)).trans x1) | (have x1 := e36)
    have F36 := F26.then f36 (by omega) (by omega)
    refine A.al3_0 d4_takeNumber_39 ?_
    refine A.v0 d4_takeNumber_40 (s4_isAtDigit ⟨x0, x1⟩ hT (kS ?_)) (hc := x0)
    refine A.bz_eq d4_takeNumber_43 (fun c43 => ?_) (fun c43 => ?_)
    · have eE : nmE T (sk T a) = sk T a + 1 := pif_f c43
      have eV : nmV T (sk T a) = hv T (sk T a) - 48 := (pif_f c43).trans (by omega)
      refine A.al3_0 d4_takeNumber_75 ?_
      refine A.getf d4_takeNumber_76 ?_ (hc := x0)
      refine A.il3_1 d4_takeNumber_79 ?_
      refine A.ic_le d4_takeNumber_80 (fun c80 => ?_) (fun c80 => ?_)
      · refine A.al3_0 d4_takeNumber_90 ?_
        refine A.v0 d4_takeNumber_91 (s4_isAtDigit ⟨x0, x1⟩ hT (kS ?_)) (hc := x0)
        refine A.bz_ne d4_takeNumber_94 (fun c94 => ?_) (fun c94 => ?_)
        · refine A.iconst d4_takeNumber_101 ?_
          refine A.zret d4_takeNumber_102 ?_
          have e0 : nmAt T m (sk T a) = nmE T (sk T a) := pif_t ⟨c13, by omega⟩
          rw [← eE] at c94
          first | exact rF (k _ _ (by rw [e0, eE]; exact ⟨x0, x1⟩) (fun q => absurd c94 q.2) F36) (fun q => q.2 c94) | exact rT (k _ _ (by rw [e0, eE]; exact ⟨x0, x1⟩) (fun q => eV.symm) F36) ⟨⟨c13, by omega⟩, c94⟩
        · refine A.iconst d4_takeNumber_97 ?_
          refine A.goto d4_takeNumber_98 ?_
          refine A.zret d4_takeNumber_102 ?_
          have e0 : nmAt T m (sk T a) = nmE T (sk T a) := pif_t ⟨c13, by omega⟩
          rw [← eE] at c94
          first | exact rF (k _ _ (by rw [e0, eE]; exact ⟨x0, x1⟩) (fun q => absurd c94 q.2) F36) (fun q => q.2 c94) | exact rT (k _ _ (by rw [e0, eE]; exact ⟨x0, x1⟩) (fun q => eV.symm) F36) ⟨⟨c13, by omega⟩, c94⟩
      · refine A.al3_0 d4_takeNumber_83 ?_
        refine A.il3_2 d4_takeNumber_84 ?_
        refine A.putf d4_takeNumber_85 (fun h85 e85 f85 => ?_) (hc := x0) (hk := blt_ok rfl)
        first | (have x0 := (f85.2 _ (by omega)).trans x0) | (have x0 := e85)
        first | (have x1 := (f85.2 _ (by omega)).trans x1) | (have x1 := e85)
        have F85 := F36.then f85 (by omega) (by omega)
        refine A.iconst d4_takeNumber_88 ?_
        refine A.zret d4_takeNumber_89 ?_
        exact rF (k _ _ (by unfold nmAt; rw [pif_f (fun q => by have := q.2; omega)]; exact ⟨x0, x1⟩) (fun q => by have := q.1.2; omega) F85) (fun q => by have := q.1.2; omega)
    · have hd43 := c43
      unfold isd at hd43
      have eE : nmE T (sk T a) = sk T a + 1 + 1 := (pif_t c43).trans (by omega)
      have eV : nmV T (sk T a) = 10 * (hv T (sk T a) - 48) + hv T (sk T a + 1) - 48 := (pif_t c43).trans (by omega)
      refine A.al3_0 d4_takeNumber_46 ?_
      refine A.bipush d4_takeNumber_47 ?_
      refine A.al3_0 d4_takeNumber_49 ?_
      refine A.getf d4_takeNumber_50 ?_ (hc := x0)
      refine A.imul d4_takeNumber_53 ?_
      refine A.al3_0 d4_takeNumber_54 ?_
      refine A.v0 d4_takeNumber_55 (s4_here ⟨x0, x1⟩ hT (kS ?_)) (hc := x0)
      refine A.iadd d4_takeNumber_58 ?_
      refine A.bipush d4_takeNumber_59 ?_
      refine A.isub d4_takeNumber_61 ?_
      refine A.putf d4_takeNumber_62 (fun h62 e62 f62 => ?_) (hc := x0) (hk := blt_ok rfl)
      first | (have x0 := (f62.2 _ (by omega)).trans x0) | (have x0 := e62)
      first | (have x1 := (f62.2 _ (by omega)).trans x1) | (have x1 := e62)
      have F62 := F36.then f62 (by omega) (by omega)
      refine A.al3_0 d4_takeNumber_65 ?_
      refine A.dup d4_takeNumber_66 ?_
      refine A.getf d4_takeNumber_67 ?_ (hc := x0)
      refine A.iconst d4_takeNumber_70 ?_
      refine A.iadd d4_takeNumber_71 ?_
      refine A.putf d4_takeNumber_72 (fun h72 e72 f72 => ?_) (hc := x0) (hk := blt_ok rfl)
      first | (have x0 := (f72.2 _ (by omega)).trans x0) | (have x0 := e72)
      first | (have x1 := (f72.2 _ (by omega)).trans x1) | (have x1 := e72)
      have F72 := F62.then f72 (by omega) (by omega)
      refine A.al3_0 d4_takeNumber_75 ?_
      refine A.getf d4_takeNumber_76 ?_ (hc := x0)
      refine A.il3_1 d4_takeNumber_79 ?_
      refine A.ic_le d4_takeNumber_80 (fun c80 => ?_) (fun c80 => ?_)
      · refine A.al3_0 d4_takeNumber_90 ?_
        refine A.v0 d4_takeNumber_91 (s4_isAtDigit ⟨x0, x1⟩ hT (kS ?_)) (hc := x0)
        refine A.bz_ne d4_takeNumber_94 (fun c94 => ?_) (fun c94 => ?_)
        · refine A.iconst d4_takeNumber_101 ?_
          refine A.zret d4_takeNumber_102 ?_
          have e0 : nmAt T m (sk T a) = nmE T (sk T a) := pif_t ⟨c13, by omega⟩
          rw [← eE] at c94
          first | exact rF (k _ _ (by rw [e0, eE]; exact ⟨x0, x1⟩) (fun q => absurd c94 q.2) F72) (fun q => q.2 c94) | exact rT (k _ _ (by rw [e0, eE]; exact ⟨x0, x1⟩) (fun q => eV.symm) F72) ⟨⟨c13, by omega⟩, c94⟩
        · refine A.iconst d4_takeNumber_97 ?_
          refine A.goto d4_takeNumber_98 ?_
          refine A.zret d4_takeNumber_102 ?_
          have e0 : nmAt T m (sk T a) = nmE T (sk T a) := pif_t ⟨c13, by omega⟩
          rw [← eE] at c94
          first | exact rF (k _ _ (by rw [e0, eE]; exact ⟨x0, x1⟩) (fun q => absurd c94 q.2) F72) (fun q => q.2 c94) | exact rT (k _ _ (by rw [e0, eE]; exact ⟨x0, x1⟩) (fun q => eV.symm) F72) ⟨⟨c13, by omega⟩, c94⟩
      · refine A.al3_0 d4_takeNumber_83 ?_
        refine A.il3_2 d4_takeNumber_84 ?_
        refine A.putf d4_takeNumber_85 (fun h85 e85 f85 => ?_) (hc := x0) (hk := blt_ok rfl)
        first | (have x0 := (f85.2 _ (by omega)).trans x0) | (have x0 := e85)
        first | (have x1 := (f85.2 _ (by omega)).trans x1) | (have x1 := e85)
        have F85 := F72.then f85 (by omega) (by omega)
        refine A.iconst d4_takeNumber_88 ?_
        refine A.zret d4_takeNumber_89 ?_
        exact rF (k _ _ (by unfold nmAt; rw [pif_f (fun q => by have := q.2; omega)]; exact ⟨x0, x1⟩) (fun q => by have := q.1.2; omega) F85) (fun q => by have := q.1.2; omega)
  · refine A.iconst d4_takeNumber_16 ?_
    refine A.zret d4_takeNumber_17 ?_
    exact rF (k _ _ (by unfold nmAt; rw [pif_f (fun q => c13 q.1)]; exact ⟨x0, x1⟩) (fun q => absurd q.1.1 c13) f1) (fun q => c13 q.1.1)
