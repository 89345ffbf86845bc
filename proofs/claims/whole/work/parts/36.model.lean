/-! ===== the reference: its object; its parser's tokens ===== -/
/-- the reference's object: nodes, reads, first, count, ahead, seen, textLength, at, fault, flags, choices, hash -/
abbrev mobj (q : Nat) (n rd fi co ah se tl ps fa fl ch : Int) (hx : Int64) : AC := kO 6 [vR (q + 1), vI n, vR (q + 2), vI rd, vR (q + 3), vI fi, vI co, vI ah, vR (q + 4), vR (q + 5), vI se, vR (q + 6), vI tl, vI ps, vI fa, vI fl, vR (q + 7), vR (q + 8), vR (q + 9), vR (q + 10), vR (q + 11), vR (q + 12), vI ch, vR (q + 13), vR (q + 14), vR (q + 15), vL hx]
set_option maxRecDepth 100000 in
set_option maxHeartbeats 4000000 in
theorem s6_in {d : Nat} {h : AH} {R : RP} {v a b : Int} (k : R (some (vI (bi (a ≤ v ∧ v ≤ b)))) h) : AM m6_in (d) h [vI v, vI a, vI b] R := by
  refine AM.of (L := [some (vI v), some (vI a), some (vI b)]) ok_6_in (by decide) (fun G => Nat.le_of_ble_eq_true rfl) rfl ?_
  refine A.il3_0 d6_in_0 ?_
  refine A.il3_1 d6_in_1 ?_
  refine A.ic_lt d6_in_2 (fun c2 => ?_) (fun c2 => ?_)
  · refine A.iconst d6_in_14 ?_
    refine A.zret d6_in_15 ?_
    first | exact rT k (by omega) | exact rF k (by omega)
  · refine A.il3_0 d6_in_5 ?_
    refine A.il3_2 d6_in_6 ?_
    refine A.ic_gt d6_in_7 (fun c7 => ?_) (fun c7 => ?_)
    · refine A.iconst d6_in_14 ?_
      refine A.zret d6_in_15 ?_
      first | exact rT k (by omega) | exact rF k (by omega)
    · refine A.iconst d6_in_10 ?_
      refine A.goto d6_in_11 ?_
      refine A.zret d6_in_15 ?_
      first | exact rT k (by omega) | exact rF k (by omega)
set_option maxRecDepth 100000 in
set_option maxHeartbeats 4000000 in
theorem s6_next {d : Nat} {h : AH} {R : RP} {q : Nat} {n rd fi co ah se ps fa fl ch : Int} {hx : Int64} {T : TX} (c0 : h.2 q = some (mobj q n rd fi co ah se T.1 ps fa fl ch hx)) (c6 : h.2 (q + 6) = some (kA 0 100 T.2)) (hT : txI T) (hp : 0 ≤ ps) (k : R (some (vI (tc T ps))) h) : AM m6_next (d) h [vR q] R := by
  refine AM.of (L := [some (vR q)]) ok_6_next (by decide) (fun G => Nat.le_of_ble_eq_true rfl) rfl ?_
  have hT2 := hT.2.1
  refine A.al1_0 d6_next_0 ?_
  refine A.getf d6_next_1 ?_ (hc := c0)
  refine A.al1_0 d6_next_4 ?_
  refine A.getf d6_next_5 ?_ (hc := c0)
  refine A.ic_ge d6_next_8 (fun c8 => ?_) (fun c8 => ?_)
  · refine A.iconst d6_next_23 ?_
    refine A.iret d6_next_24 ?_
    exact rI k (by unfold tc; first | (rw [if_pos (by omega)]; done) | (rw [if_neg (by omega)]; done))
  · refine A.al1_0 d6_next_11 ?_
    refine A.getf d6_next_12 ?_ (hc := c0)
    refine A.al1_0 d6_next_15 ?_
    refine A.getf d6_next_16 ?_ (hc := c0)
    refine A.iald d6_next_19 ?_ (hc := c6)
    refine A.goto d6_next_20 ?_
    refine A.iret d6_next_24 ?_
    exact rI k (by unfold tc; first | (rw [if_pos (by omega)]; done) | (rw [if_neg (by omega)]; done))
set_option maxRecDepth 100000 in
set_option maxHeartbeats 4000000 in
theorem s6_isDigit {d : Nat} {h : AH} {R : RP} {q : Nat} {n rd fi co ah se ps fa fl ch : Int} {hx : Int64} {T : TX} (c0 : h.2 q = some (mobj q n rd fi co ah se T.1 ps fa fl ch hx)) (c6 : h.2 (q + 6) = some (kA 0 100 T.2)) (hT : txI T) (hp : 0 ≤ ps) (k : R (some (vI (bi (isd T ps)))) h) : AM m6_isDigit (d + 1) h [vR q] R := by
  refine AM.of (L := [some (vR q)]) ok_6_isDigit (by decide) (fun G => Nat.le_of_ble_eq_true rfl) rfl ?_
  refine A.al1_0 d6_isDigit_0 ?_
  refine A.v0 d6_isDigit_1 (s6_next c0 c6 hT (by omega) (kS ?_)) (hc := c0)
  refine A.bipush d6_isDigit_4 ?_
  refine A.bipush d6_isDigit_6 ?_
  refine A.s3 d6_isDigit_8 (s6_in (kS ?_))
  refine A.zret d6_isDigit_11 ?_
  exact rI k (by unfold isd; rfl)
set_option maxRecDepth 100000 in
set_option maxHeartbeats 4000000 in
theorem s6_blanks {d : Nat} {h : AH} {R : RP} {q : Nat} {n rd fi co ah se ps fa fl ch : Int} {hx : Int64} {T : TX} (c0 : h.2 q = some (mobj q n rd fi co ah se T.1 ps fa fl ch hx)) (c6 : h.2 (q + 6) = some (kA 0 100 T.2)) (hT : txI T) (hp : 0 ≤ ps) (hp2 : ps ≤ T.1) (k : ∀ h', h'.2 q = some (mobj q n rd fi co ah se T.1 (sk T ps) fa fl ch hx) → Fr h h' q 1 → R none h') : AM m6_blanks (d + 1) h [vR q] R := by
  refine AM.of (L := [some (vR q)]) ok_6_blanks (by decide) (fun G => Nat.le_of_ble_eq_true rfl) rfl ?_
  have loop : ∀ (nf : Nat) (i : Nat) (b : Int) (h1 : AH) (hi : b = ps + i) (hb : b ≤ T.1) (c0 : h1.2 q = some (mobj q n rd fi co ah se T.1 b fa fl ch hx)) (c6 : h1.2 (q + 6) = some (kA 0 100 T.2)) (hF : Fr h h1 q 1) (hs : sk T ps = skN T (101 - i) b) (hn : 101 - i < nf), AW m6_blanks (d + 1) (mC m6_blanks, mS m6_blanks) 0 [some (vR q)] [] h1 R := by
    intro nf
    induction nf with
    | zero => intro i  b  h1  hi hb c0 c6 hF hs hn; omega
    | succ nf ih =>
      intro i  b  h1  hi hb c0 c6 hF hs hn
      have hh := hv_tc hT b
      have hT2 := hT.2.1
      refine A.al1_0 d6_blanks_0 ?_
      refine A.v0 d6_blanks_1 (s6_next c0 c6 hT (by omega) (kS ?_)) (hc := c0)
      refine A.bipush d6_blanks_4 ?_
      refine A.ic_ne d6_blanks_6 (fun cc => ?_) (fun cc => ?_)
      · refine A.vret d6_blanks_22 ?_
        rw [skN_stop cc] at hs
        exact k _ (by rw [hs]; exact c0) hF
      · refine A.al1_0 d6_blanks_9 ?_
        refine A.dup d6_blanks_10 ?_
        refine A.getf d6_blanks_11 ?_ (hc := c0)
        refine A.iconst d6_blanks_14 ?_
        refine A.iadd d6_blanks_15 ?_
        refine A.putf d6_blanks_16 (fun h16 e16 f16 => ?_) (hc := c0) (hk := blt_ok rfl)
        first | (have c0 := (f16.2 _ (by omega)).trans c0) | (have c0 := e16)
        first | (have c6 := (f16.2 _ (by omega)).trans c6) | (have c6 := e16)
        have F16 := f16.wide (a := q) (n := 1) (by omega) (by omega)
        refine A.goto d6_blanks_19 ?_
        refine ih (i + 1) (b + 1) _ (by omega) (by omega) c0 c6 (hF.then F16 (by omega) (by omega)) ?_ (by omega)
        obtain ⟨j, hj⟩ : ∃ j, 101 - i = j + 1 := ⟨101 - i - 1, by omega⟩
        rw [hs, hj, show 101 - (i + 1) = j by omega]
        exact if_pos cc
  exact loop 102 0 ps h (by omega) hp2 c0 c6 Fr.rfl rfl (by omega)
set_option maxRecDepth 100000 in
set_option maxHeartbeats 4000000 in
theorem s6_fails {d : Nat} {h : AH} {R : RP} {w : Int} {q : Nat} {n rd fi co ah se ps fa fl ch : Int} {hx : Int64} {T : TX} (c0 : h.2 q = some (mobj q n rd fi co ah se T.1 ps fa fl ch hx)) (c6 : h.2 (q + 6) = some (kA 0 100 T.2)) (hT : txI T) (k : ∀ h', h'.2 q = some (mobj q n rd fi co ah se T.1 ps (pif (fa = -11) w fa) fl ch hx) → Fr h h' q 1 → R none h') : AM m6_fails (d) h [vR q, vI w] R := by
  refine AM.of (L := [some (vR q), some (vI w)]) ok_6_fails (by decide) (fun G => Nat.le_of_ble_eq_true rfl) rfl ?_
  refine A.al2_0 d6_fails_0 ?_
  refine A.al2_0 d6_fails_1 ?_
  refine A.getf d6_fails_2 ?_ (hc := c0)
  refine A.bipush d6_fails_5 ?_
  refine A.ic_ne d6_fails_7 (fun c7 => ?_) (fun c7 => ?_)
  · refine A.al2_0 d6_fails_14 ?_
    refine A.getf d6_fails_15 ?_ (hc := c0)
    refine A.putf d6_fails_18 (fun h18 e18 f18 => ?_) (hc := c0) (hk := blt_ok rfl)
    first | (have c0 := (f18.2 _ (by omega)).trans c0) | (have c0 := e18)
    first | (have c6 := (f18.2 _ (by omega)).trans c6) | (have c6 := e18)
    have F18 := f18.wide (a := q) (n := 1) (by omega) (by omega)
    refine A.vret d6_fails_21 ?_
    exact k _ (by first | (rw [pif_t (by omega)]; exact c0) | (rw [pif_f (by omega)]; exact c0)) F18
  · refine A.il2_1 d6_fails_10 ?_
    refine A.goto d6_fails_11 ?_
    refine A.putf d6_fails_18 (fun h18 e18 f18 => ?_) (hc := c0) (hk := blt_ok rfl)
    first | (have c0 := (f18.2 _ (by omega)).trans c0) | (have c0 := e18)
    first | (have c6 := (f18.2 _ (by omega)).trans c6) | (have c6 := e18)
    have F18 := f18.wide (a := q) (n := 1) (by omega) (by omega)
    refine A.vret d6_fails_21 ?_
    exact k _ (by first | (rw [pif_t (by omega)]; exact c0) | (rw [pif_f (by omega)]; exact c0)) F18
set_option maxRecDepth 100000 in
set_option maxHeartbeats 4000000 in
theorem s6_take {d : Nat} {h : AH} {R : RP} {P : Prop} {q : Nat} {n rd fi co ah se ps fa fl ch : Int} {hx : Int64} {T : TX} (c0 : h.2 q = some (mobj q n rd fi co ah se T.1 ps fa fl ch hx)) (c6 : h.2 (q + 6) = some (kA 0 100 T.2)) (hT : txI T) (hp : 0 ≤ ps) (hp2 : ps ≤ T.1) (hfit : P → tc T ps ≠ -1) (k : ∀ h' ps' fa', h'.2 q = some (mobj q n rd fi co ah se T.1 ps' fa' fl ch hx) → 0 ≤ ps' → ps' ≤ T.1 → (fa = -11 → (P → fa' = -11 ∧ ps' = sk T (ps + 1)) ∧ (¬ P → fa' = ps ∧ ps' = ps)) → (fa ≠ -11 → fa' = fa) → Fr h h' q 1 → R (some (vI (tc T ps))) h') : AM m6_take (d + 2) h [vR q, vI (bi P)] R := by
  refine AM.of (L := [some (vR q), some (vI (bi P)), none]) ok_6_take (by decide) (fun G => Nat.le_of_ble_eq_true rfl) rfl ?_
  refine A.al3_0 d6_take_0 ?_
  refine A.v0 d6_take_1 (s6_next c0 c6 hT (by omega) (kS ?_)) (hc := c0)
  refine A.is3_2 d6_take_4 ?_
  refine A.al3_0 d6_take_5 ?_
  refine A.getf d6_take_6 ?_ (hc := c0)
  refine A.bipush d6_take_9 ?_
  refine A.ic_ne d6_take_11 (fun c11 => ?_) (fun c11 => ?_)
  · refine A.al3_0 d6_take_35 ?_
    refine A.al3_0 d6_take_36 ?_
    refine A.getf d6_take_37 ?_ (hc := c0)
    refine A.v1 d6_take_40 (s6_fails c0 c6 hT (fun h40 e40 f40 => kN ?_)) (hc := c0)
    have c0 := e40
    have c6 := f40.get c6 (by omega)
    refine A.il3_2 d6_take_43 ?_
    refine A.iret d6_take_44 ?_
    first | exact k _ _ _ c0 (by omega) hs1 (fun _ => ⟨fun _ => ⟨by omega, rfl⟩, fun z => absurd c15 z⟩) (fun z => absurd c11 z) ((f25.wide (a := q) (n := 1) (by omega) (by omega)).then f29 (by omega) (by omega)) | exact k _ _ _ c0 hp hp2 (fun _ => ⟨fun z => absurd z c15, fun _ => ⟨pif_t c11, rfl⟩⟩) (fun z => absurd c11 z) (f40.wide (a := q) (n := 1) (by omega) (by omega)) | exact k _ _ _ c0 hp hp2 (fun z => absurd z c11) (fun _ => pif_f c11) (f40.wide (a := q) (n := 1) (by omega) (by omega))
  · refine A.il3_1 d6_take_14 ?_
    refine A.bz_eq d6_take_15 (fun c15 => ?_) (fun c15 => ?_)
    · refine A.al3_0 d6_take_35 ?_
      refine A.al3_0 d6_take_36 ?_
      refine A.getf d6_take_37 ?_ (hc := c0)
      refine A.v1 d6_take_40 (s6_fails c0 c6 hT (fun h40 e40 f40 => kN ?_)) (hc := c0)
      have c0 := e40
      have c6 := f40.get c6 (by omega)
      refine A.il3_2 d6_take_43 ?_
      refine A.iret d6_take_44 ?_
      first | exact k _ _ _ c0 (by omega) hs1 (fun _ => ⟨fun _ => ⟨by omega, rfl⟩, fun z => absurd c15 z⟩) (fun z => absurd c11 z) ((f25.wide (a := q) (n := 1) (by omega) (by omega)).then f29 (by omega) (by omega)) | exact k _ _ _ c0 hp hp2 (fun _ => ⟨fun z => absurd z c15, fun _ => ⟨pif_t c11, rfl⟩⟩) (fun z => absurd c11 z) (f40.wide (a := q) (n := 1) (by omega) (by omega)) | exact k _ _ _ c0 hp hp2 (fun z => absurd z c11) (fun _ => pif_f c11) (f40.wide (a := q) (n := 1) (by omega) (by omega))
    · have htr := tc_rng hT ps
      have htl := tc_lt (T := T) (p := ps) (by have := hfit c15; omega)
      have hs0 := sk_le (T := T) (ps + 1)
      have hs1 := sk_len (T := T) (p := ps + 1) (by omega)
      have hT2 := hT.2.1
      refine A.al3_0 d6_take_18 ?_
      refine A.dup d6_take_19 ?_
      refine A.getf d6_take_20 ?_ (hc := c0)
      refine A.iconst d6_take_23 ?_
      refine A.iadd d6_take_24 ?_
      refine A.putf d6_take_25 (fun h25 e25 f25 => ?_) (hc := c0) (hk := blt_ok rfl)
      first | (have c0 := (f25.2 _ (by omega)).trans c0) | (have c0 := e25)
      first | (have c6 := (f25.2 _ (by omega)).trans c6) | (have c6 := e25)
      have F25 := f25.wide (a := q) (n := 1) (by omega) (by omega)
      refine A.al3_0 d6_take_28 ?_
      refine A.v0 d6_take_29 (s6_blanks c0 c6 hT (by omega) (by omega) (fun h29 e29 f29 => kN ?_)) (hc := c0)
      have c0 := e29
      have c6 := f29.get c6 (by omega)
      refine A.goto d6_take_32 ?_
      refine A.il3_2 d6_take_43 ?_
      refine A.iret d6_take_44 ?_
      first | exact k _ _ _ c0 (by omega) hs1 (fun _ => ⟨fun _ => ⟨by omega, rfl⟩, fun z => absurd c15 z⟩) (fun z => absurd c11 z) ((f25.wide (a := q) (n := 1) (by omega) (by omega)).then f29 (by omega) (by omega)) | exact k _ _ _ c0 hp hp2 (fun _ => ⟨fun z => absurd z c15, fun _ => ⟨pif_t c11, rfl⟩⟩) (fun z => absurd c11 z) (f40.wide (a := q) (n := 1) (by omega) (by omega)) | exact k _ _ _ c0 hp hp2 (fun z => absurd z c11) (fun _ => pif_f c11) (f40.wide (a := q) (n := 1) (by omega) (by omega))
set_option maxRecDepth 100000 in
set_option maxHeartbeats 4000000 in
theorem s6_voice {d : Nat} {h : AH} {R : RP} {q : Nat} {n rd fi co ah se ps fa fl ch : Int} {hx : Int64} {T : TX} (c0 : h.2 q = some (mobj q n rd fi co ah se T.1 ps fa fl ch hx)) (c6 : h.2 (q + 6) = some (kA 0 100 T.2)) (hT : txI T) (hp : 0 ≤ ps) (hp2 : ps ≤ T.1) (k : ∀ h' ps' fa', h'.2 q = some (mobj q n rd fi co ah se T.1 ps' fa' fl ch hx) → 0 ≤ ps' → ps' ≤ T.1 → (fa = -11 → (vcOk T ps → fa' = -11 ∧ ps' = sk T (ps + 1)) ∧ (¬ vcOk T ps → fa' = ps ∧ ps' = ps)) → (fa ≠ -11 → fa' = fa) → Fr h h' q 1 → R (some (vI (tc T ps - 97))) h') : AM m6_voice (d + 3) h [vR q] R := by
  refine AM.of (L := [some (vR q)]) ok_6_voice (by decide) (fun G => Nat.le_of_ble_eq_true rfl) rfl ?_
  have htr := tc_rng hT ps
  refine A.al1_0 d6_voice_0 ?_
  refine A.al1_0 d6_voice_1 ?_
  refine A.v0 d6_voice_2 (s6_next c0 c6 hT (by omega) (kS ?_)) (hc := c0)
  refine A.bipush d6_voice_5 ?_
  refine A.bipush d6_voice_7 ?_
  refine A.s3 d6_voice_9 (s6_in (kS ?_))
  refine A.v1 d6_voice_12 (s6_take (P := 97 ≤ tc T ps ∧ tc T ps ≤ 102) c0 c6 hT hp hp2 (fun z => by omega) (fun h12 ps' fa' e12 b12 d12 i12 j12 f12 => kS ?_)) (hc := c0)
  refine A.bipush d6_voice_15 ?_
  refine A.isub d6_voice_17 ?_
  refine A.iret d6_voice_18 ?_
  exact k _ _ _ e12 b12 d12 (fun z => i12 z) j12 f12
