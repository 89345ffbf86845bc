/-! ===== the reference: numbers, kinds ===== -/
set_option maxRecDepth 100000 in
set_option maxHeartbeats 4000000 in
theorem s6_digit {d : Nat} {h : AH} {R : RP} {m : Int} {q : Nat} {n rd fi co ah se ps fa fl ch : Int} {hx : Int64} {T : TX} (c0 : h.2 q = some (mobj q n rd fi co ah se T.1 ps fa fl ch hx)) (c6 : h.2 (q + 6) = some (kA 0 100 T.2)) (hT : txI T) (hp : 0 ≤ ps) (hp2 : ps ≤ T.1) (hm : 0 ≤ m ∧ m ≤ 9) (k : ∀ h' ps' fa' v, h'.2 q = some (mobj q n rd fi co ah se T.1 ps' fa' fl ch hx) → 0 ≤ ps' → ps' ≤ T.1 → (-1000 ≤ v ∧ v ≤ 1000) → (fa = -11 → (dgOk T m ps → fa' = -11 ∧ ps' = sk T (dgAt T m ps) ∧ v = tc T ps - 48) ∧ (¬ dgOk T m ps → fa' = dgAt T m ps)) → (fa ≠ -11 → fa' = fa) → Fr h h' q 1 → R (some (vI v)) h') : AM m6_digit (d + 2) h [vR q, vI m] R := by
  refine AM.of (L := [some (vR q), some (vI m), none]) ok_6_digit (by decide) (fun G => Nat.le_of_ble_eq_true rfl) rfl ?_
  have htr := tc_rng hT ps
  have hT2 := hT.2.1
  refine A.al3_0 d6_digit_0 ?_
  refine A.v0 d6_digit_1 (s6_next c0 c6 hT (by omega) (kS ?_)) (hc := c0)
  refine A.bipush d6_digit_4 ?_
  refine A.isub d6_digit_6 ?_
  refine A.is3_2 d6_digit_7 ?_
  refine A.al3_0 d6_digit_8 ?_
  refine A.getf d6_digit_9 ?_ (hc := c0)
  refine A.bipush d6_digit_12 ?_
  refine A.ic_ne d6_digit_14 (fun c14 => ?_) (fun c14 => ?_)
  · refine A.al3_0 d6_digit_26 ?_
    refine A.al3_0 d6_digit_27 ?_
    refine A.getf d6_digit_28 ?_ (hc := c0)
    refine A.v1 d6_digit_31 (s6_fails c0 c6 hT (fun h31 e31 f31 => kN ?_)) (hc := c0)
    have c0 := e31
    have c6 := f31.get c6 (by omega)
    refine A.iconst d6_digit_34 ?_
    refine A.iret d6_digit_35 ?_
    first | exact k _ _ _ _ c0 hp hp2 (by omega) (fun z => absurd z c14) (fun _ => pif_f c14) (f31.wide (a := q) (n := 1) (by omega) (by omega)) | exact k _ _ _ _ c0 hp hp2 (by omega) (fun _ => ⟨fun z => by unfold dgOk at z; omega, fun _ => (pif_t c14).trans (by unfold dgAt; rw [if_neg (by omega)])⟩) (fun z => absurd c14 z) (f31.wide (a := q) (n := 1) (by omega) (by omega))
  · refine A.il3_2 d6_digit_17 ?_
    refine A.iconst d6_digit_18 ?_
    refine A.il3_1 d6_digit_19 ?_
    refine A.s3 d6_digit_20 (s6_in (kS ?_))
    refine A.bz_ne d6_digit_23 (fun c23 => ?_) (fun c23 => ?_)
    · have htl := tc_lt (T := T) (p := ps) (by omega)
      have hs0 := sk_le (T := T) (ps + 1)
      have hs1 := sk_len (T := T) (p := ps + 1) (by omega)
      refine A.al3_0 d6_digit_36 ?_
      refine A.dup d6_digit_37 ?_
      refine A.getf d6_digit_38 ?_ (hc := c0)
      refine A.iconst d6_digit_41 ?_
      refine A.iadd d6_digit_42 ?_
      refine A.putf d6_digit_43 (fun h43 e43 f43 => ?_) (hc := c0) (hk := blt_ok rfl)
      first | (have c0 := (f43.2 _ (by omega)).trans c0) | (have c0 := e43)
      first | (have c6 := (f43.2 _ (by omega)).trans c6) | (have c6 := e43)
      have F43 := f43.wide (a := q) (n := 1) (by omega) (by omega)
      refine A.al3_0 d6_digit_46 ?_
      refine A.v0 d6_digit_47 (s6_isDigit c0 c6 hT (by omega) (kS ?_)) (hc := c0)
      refine A.bz_eq d6_digit_50 (fun c50 => ?_) (fun c50 => ?_)
      · refine A.al3_0 d6_digit_61 ?_
        refine A.v0 d6_digit_62 (s6_blanks c0 c6 hT (by omega) (by omega) (fun h62 e62 f62 => kN ?_)) (hc := c0)
        have c0 := e62
        have c6 := f62.get c6 (by omega)
        refine A.il3_2 d6_digit_65 ?_
        refine A.iret d6_digit_66 ?_
        have e1 : dgAt T m ps = ps + 1 := if_pos (by omega)
        first | exact k _ _ _ _ c0 (by omega) hs1 (by omega) (fun _ => ⟨fun _ => ⟨c14, by rw [e1], rfl⟩, fun z => absurd ⟨by omega, c50⟩ z⟩) (fun z => absurd c14 z) ((f43.wide (a := q) (n := 1) (by omega) (by omega)).then f62 (by omega) (by omega)) | exact k _ _ _ _ c0 (by omega) hs1 (by omega) (fun _ => ⟨fun z => absurd c50 z.2, fun _ => (pif_t c14).trans e1.symm⟩) (fun z => absurd c14 z) (((f43.wide (a := q) (n := 1) (by omega) (by omega)).then f58 (by omega) (by omega)).then f62 (by omega) (by omega))
      · refine A.al3_0 d6_digit_53 ?_
        refine A.al3_0 d6_digit_54 ?_
        refine A.getf d6_digit_55 ?_ (hc := c0)
        refine A.v1 d6_digit_58 (s6_fails c0 c6 hT (fun h58 e58 f58 => kN ?_)) (hc := c0)
        have c0 := e58
        have c6 := f58.get c6 (by omega)
        refine A.al3_0 d6_digit_61 ?_
        refine A.v0 d6_digit_62 (s6_blanks c0 c6 hT (by omega) (by omega) (fun h62 e62 f62 => kN ?_)) (hc := c0)
        have c0 := e62
        have c6 := f62.get c6 (by omega)
        refine A.il3_2 d6_digit_65 ?_
        refine A.iret d6_digit_66 ?_
        have e1 : dgAt T m ps = ps + 1 := if_pos (by omega)
        first | exact k _ _ _ _ c0 (by omega) hs1 (by omega) (fun _ => ⟨fun _ => ⟨c14, by rw [e1], rfl⟩, fun z => absurd ⟨by omega, c50⟩ z⟩) (fun z => absurd c14 z) ((f43.wide (a := q) (n := 1) (by omega) (by omega)).then f62 (by omega) (by omega)) | exact k _ _ _ _ c0 (by omega) hs1 (by omega) (fun _ => ⟨fun z => absurd c50 z.2, fun _ => (pif_t c14).trans e1.symm⟩) (fun z => absurd c14 z) (((f43.wide (a := q) (n := 1) (by omega) (by omega)).then f58 (by omega) (by omega)).then f62 (by omega) (by omega))
    · refine A.al3_0 d6_digit_26 ?_
      refine A.al3_0 d6_digit_27 ?_
      refine A.getf d6_digit_28 ?_ (hc := c0)
      refine A.v1 d6_digit_31 (s6_fails c0 c6 hT (fun h31 e31 f31 => kN ?_)) (hc := c0)
      have c0 := e31
      have c6 := f31.get c6 (by omega)
      refine A.iconst d6_digit_34 ?_
      refine A.iret d6_digit_35 ?_
      first | exact k _ _ _ _ c0 hp hp2 (by omega) (fun z => absurd z c14) (fun _ => pif_f c14) (f31.wide (a := q) (n := 1) (by omega) (by omega)) | exact k _ _ _ _ c0 hp hp2 (by omega) (fun _ => ⟨fun z => by unfold dgOk at z; omega, fun _ => (pif_t c14).trans (by unfold dgAt; rw [if_neg (by omega)])⟩) (fun z => absurd c14 z) (f31.wide (a := q) (n := 1) (by omega) (by omega))
set_option maxRecDepth 100000 in
set_option maxHeartbeats 4000000 in
theorem s6_number {d : Nat} {h : AH} {R : RP} {m : Int} {q : Nat} {n rd fi co ah se ps fa fl ch : Int} {hx : Int64} {T : TX} (c0 : h.2 q = some (mobj q n rd fi co ah se T.1 ps fa fl ch hx)) (c6 : h.2 (q + 6) = some (kA 0 100 T.2)) (hT : txI T) (hp : 0 ≤ ps) (hp2 : ps ≤ T.1) (hm : 0 ≤ m ∧ m ≤ 99) (k : ∀ h' ps' fa' v, h'.2 q = some (mobj q n rd fi co ah se T.1 ps' fa' fl ch hx) → 0 ≤ ps' → ps' ≤ T.1 → (-1000 ≤ v ∧ v ≤ 1000) → (fa = -11 → (nmOk T m ps → fa' = -11 ∧ ps' = sk T (nmAt T m ps) ∧ v = nmV T ps) ∧ (¬ nmOk T m ps → fa' = nmAt T m ps)) → (fa ≠ -11 → fa' = fa) → Fr h h' q 1 → R (some (vI v)) h') : AM m6_number (d + 2) h [vR q, vI m] R := by
  refine AM.of (L := [some (vR q), some (vI m), none, none]) ok_6_number (by decide) (fun G => Nat.le_of_ble_eq_true rfl) rfl ?_
  have exA : ∀ (ps2 v2 : Int) (h1 : AH) (qv : -1000 ≤ v2 ∧ v2 ≤ 1000) (c0 : h1.2 q = some (mobj q n rd fi co ah se T.1 ps2 fa fl ch hx)) (c6 : h1.2 (q + 6) = some (kA 0 100 T.2)) (hF : Fr h h1 q 1) (ha : fa ≠ -11) (hq : ps2 = ps), AW m6_number (d + 2) (mC m6_number, mS m6_number) 59 [some (vR q), some (vI m), some (vI ps), some (vI v2)] [] h1 R := by
    intro ps2 v2  h1  qv c0 c6 hF ha hq
    have hs0 := sk_le (T := T) ps2
    have hs1 := sk_len (T := T) (p := ps2) (by omega)
    have hT2 := hT.2.1
    refine A.al4_0 d6_number_59 ?_
    refine A.getf d6_number_60 ?_ (hc := c0)
    refine A.il4_2 d6_number_63 ?_
    refine A.ic_eq d6_number_64 (fun c64 => ?_) (fun c64 => ?_)
    · refine A.al4_0 d6_number_72 ?_
      refine A.il4_2 d6_number_73 ?_
      refine A.v1 d6_number_74 (s6_fails c0 c6 hT (fun h74 e74 f74 => kN ?_)) (hc := c0)
      have c0 := e74
      have c6 := f74.get c6 (by omega)
      refine A.al4_0 d6_number_77 ?_
      refine A.v0 d6_number_78 (s6_isDigit c0 c6 hT (by omega) (kS ?_)) (hc := c0)
      refine A.bz_eq d6_number_81 (fun c81 => ?_) (fun c81 => ?_)
      · refine A.al4_0 d6_number_92 ?_
        refine A.v0 d6_number_93 (s6_blanks c0 c6 hT (by omega) (by omega) (fun h93 e93 f93 => kN ?_)) (hc := c0)
        have c0 := e93
        have c6 := f93.get c6 (by omega)
        refine A.il4_3 d6_number_96 ?_
        refine A.iret d6_number_97 ?_
        first
          | exact k _ _ _ _ c0 (by omega) hs1 qv (fun e => absurd e ha) (fun _ => pif_f ha) ((hF.then f74 (by omega) (by omega)).then f93 (by omega) (by omega))
          | exact k _ _ _ _ c0 (by omega) hs1 qv (fun e => absurd e ha) (fun _ => by rw [pif_f ha]; exact pif_f ha) (((hF.then f74 (by omega) (by omega)).then f89 (by omega) (by omega)).then f93 (by omega) (by omega))
          | (exfalso; omega)
      · refine A.al4_0 d6_number_84 ?_
        refine A.al4_0 d6_number_85 ?_
        refine A.getf d6_number_86 ?_ (hc := c0)
        refine A.v1 d6_number_89 (s6_fails c0 c6 hT (fun h89 e89 f89 => kN ?_)) (hc := c0)
        have c0 := e89
        have c6 := f89.get c6 (by omega)
        refine A.al4_0 d6_number_92 ?_
        refine A.v0 d6_number_93 (s6_blanks c0 c6 hT (by omega) (by omega) (fun h93 e93 f93 => kN ?_)) (hc := c0)
        have c0 := e93
        have c6 := f93.get c6 (by omega)
        refine A.il4_3 d6_number_96 ?_
        refine A.iret d6_number_97 ?_
        first
          | exact k _ _ _ _ c0 (by omega) hs1 qv (fun e => absurd e ha) (fun _ => pif_f ha) ((hF.then f74 (by omega) (by omega)).then f93 (by omega) (by omega))
          | exact k _ _ _ _ c0 (by omega) hs1 qv (fun e => absurd e ha) (fun _ => by rw [pif_f ha]; exact pif_f ha) (((hF.then f74 (by omega) (by omega)).then f89 (by omega) (by omega)).then f93 (by omega) (by omega))
          | (exfalso; omega)
    · refine A.il4_3 d6_number_67 ?_
      refine A.il4_1 d6_number_68 ?_
      refine A.ic_le d6_number_69 (fun c69 => ?_) (fun c69 => ?_)
      · refine A.al4_0 d6_number_77 ?_
        refine A.v0 d6_number_78 (s6_isDigit c0 c6 hT (by omega) (kS ?_)) (hc := c0)
        refine A.bz_eq d6_number_81 (fun c81 => ?_) (fun c81 => ?_)
        · refine A.al4_0 d6_number_92 ?_
          refine A.v0 d6_number_93 (s6_blanks c0 c6 hT (by omega) (by omega) (fun h93 e93 f93 => kN ?_)) (hc := c0)
          have c0 := e93
          have c6 := f93.get c6 (by omega)
          refine A.il4_3 d6_number_96 ?_
          refine A.iret d6_number_97 ?_
          first
            | exact k _ _ _ _ c0 (by omega) hs1 qv (fun e => absurd e ha) (fun _ => pif_f ha) ((hF.then f74 (by omega) (by omega)).then f93 (by omega) (by omega))
            | exact k _ _ _ _ c0 (by omega) hs1 qv (fun e => absurd e ha) (fun _ => by rw [pif_f ha]; exact pif_f ha) (((hF.then f74 (by omega) (by omega)).then f89 (by omega) (by omega)).then f93 (by omega) (by omega))
            | (exfalso; omega)
        · refine A.al4_0 d6_number_84 ?_
          refine A.al4_0 d6_number_85 ?_
          refine A.getf d6_number_86 ?_ (hc := c0)
          refine A.v1 d6_number_89 (s6_fails c0 c6 hT (fun h89 e89 f89 => kN ?_)) (hc := c0)
          have c0 := e89
          have c6 := f89.get c6 (by omega)
          refine A.al4_0 d6_number_92 ?_
          refine A.v0 d6_number_93 (s6_blanks c0 c6 hT (by omega) (by omega) (fun h93 e93 f93 => kN ?_)) (hc := c0)
          have c0 := e93
          have c6 := f93.get c6 (by omega)
          refine A.il4_3 d6_number_96 ?_
          refine A.iret d6_number_97 ?_
          first
            | exact k _ _ _ _ c0 (by omega) hs1 qv (fun e => absurd e ha) (fun _ => pif_f ha) ((hF.then f74 (by omega) (by omega)).then f93 (by omega) (by omega))
            | exact k _ _ _ _ c0 (by omega) hs1 qv (fun e => absurd e ha) (fun _ => by rw [pif_f ha]; exact pif_f ha) (((hF.then f74 (by omega) (by omega)).then f89 (by omega) (by omega)).then f93 (by omega) (by omega))
            | (exfalso; omega)
      · refine A.al4_0 d6_number_72 ?_
        refine A.il4_2 d6_number_73 ?_
        refine A.v1 d6_number_74 (s6_fails c0 c6 hT (fun h74 e74 f74 => kN ?_)) (hc := c0)
        have c0 := e74
        have c6 := f74.get c6 (by omega)
        refine A.al4_0 d6_number_77 ?_
        refine A.v0 d6_number_78 (s6_isDigit c0 c6 hT (by omega) (kS ?_)) (hc := c0)
        refine A.bz_eq d6_number_81 (fun c81 => ?_) (fun c81 => ?_)
        · refine A.al4_0 d6_number_92 ?_
          refine A.v0 d6_number_93 (s6_blanks c0 c6 hT (by omega) (by omega) (fun h93 e93 f93 => kN ?_)) (hc := c0)
          have c0 := e93
          have c6 := f93.get c6 (by omega)
          refine A.il4_3 d6_number_96 ?_
          refine A.iret d6_number_97 ?_
          first
            | exact k _ _ _ _ c0 (by omega) hs1 qv (fun e => absurd e ha) (fun _ => pif_f ha) ((hF.then f74 (by omega) (by omega)).then f93 (by omega) (by omega))
            | exact k _ _ _ _ c0 (by omega) hs1 qv (fun e => absurd e ha) (fun _ => by rw [pif_f ha]; exact pif_f ha) (((hF.then f74 (by omega) (by omega)).then f89 (by omega) (by omega)).then f93 (by omega) (by omega))
            | (exfalso; omega)
        · refine A.al4_0 d6_number_84 ?_
          refine A.al4_0 d6_number_85 ?_
          refine A.getf d6_number_86 ?_ (hc := c0)
          refine A.v1 d6_number_89 (s6_fails c0 c6 hT (fun h89 e89 f89 => kN ?_)) (hc := c0)
          have c0 := e89
          have c6 := f89.get c6 (by omega)
          refine A.al4_0 d6_number_92 ?_
          refine A.v0 d6_number_93 (s6_blanks c0 c6 hT (by omega) (by omega) (fun h93 e93 f93 => kN ?_)) (hc := c0)
          have c0 := e93
          have c6 := f93.get c6 (by omega)
          refine A.il4_3 d6_number_96 ?_
          refine A.iret d6_number_97 ?_
          first
            | exact k _ _ _ _ c0 (by omega) hs1 qv (fun e => absurd e ha) (fun _ => pif_f ha) ((hF.then f74 (by omega) (by omega)).then f93 (by omega) (by omega))
            | exact k _ _ _ _ c0 (by omega) hs1 qv (fun e => absurd e ha) (fun _ => by rw [pif_f ha]; exact pif_f ha) (((hF.then f74 (by omega) (by omega)).then f89 (by omega) (by omega)).then f93 (by omega) (by omega))
            | (exfalso; omega)
  have exB : ∀ (ps2 v2 : Int) (h1 : AH) (qv : -1000 ≤ v2 ∧ v2 ≤ 1000) (c0 : h1.2 q = some (mobj q n rd fi co ah se T.1 ps2 fa fl ch hx)) (c6 : h1.2 (q + 6) = some (kA 0 100 T.2)) (hF : Fr h h1 q 1) (ha : fa = -11) (hd : ¬ isd T ps) (hq : ps2 = ps), AW m6_number (d + 2) (mC m6_number, mS m6_number) 59 [some (vR q), some (vI m), some (vI ps), some (vI v2)] [] h1 R := by
    intro ps2 v2  h1  qv c0 c6 hF ha hd hq
    have hs0 := sk_le (T := T) ps2
    have hs1 := sk_len (T := T) (p := ps2) (by omega)
    have hT2 := hT.2.1
    refine A.al4_0 d6_number_59 ?_
    refine A.getf d6_number_60 ?_ (hc := c0)
    refine A.il4_2 d6_number_63 ?_
    refine A.ic_eq d6_number_64 (fun c64 => ?_) (fun c64 => ?_)
    · refine A.al4_0 d6_number_72 ?_
      refine A.il4_2 d6_number_73 ?_
      refine A.v1 d6_number_74 (s6_fails c0 c6 hT (fun h74 e74 f74 => kN ?_)) (hc := c0)
      have c0 := e74
      have c6 := f74.get c6 (by omega)
      refine A.al4_0 d6_number_77 ?_
      refine A.v0 d6_number_78 (s6_isDigit c0 c6 hT (by omega) (kS ?_)) (hc := c0)
      refine A.bz_eq d6_number_81 (fun c81 => ?_) (fun c81 => ?_)
      · refine A.al4_0 d6_number_92 ?_
        refine A.v0 d6_number_93 (s6_blanks c0 c6 hT (by omega) (by omega) (fun h93 e93 f93 => kN ?_)) (hc := c0)
        have c0 := e93
        have c6 := f93.get c6 (by omega)
        refine A.il4_3 d6_number_96 ?_
        refine A.iret d6_number_97 ?_
        first
          | exact k _ _ _ _ c0 (by omega) hs1 qv (fun _ => ⟨fun u => absurd u.1.1 hd, fun _ => (pif_t ha).trans (pif_f (fun u => hd u.1)).symm⟩) (fun z => absurd ha z) ((hF.then f74 (by omega) (by omega)).then f93 (by omega) (by omega))
          | (exfalso; omega)
          | exact absurd (by rw [← hq]; exact c81) hd
      · refine A.al4_0 d6_number_84 ?_
        refine A.al4_0 d6_number_85 ?_
        refine A.getf d6_number_86 ?_ (hc := c0)
        refine A.v1 d6_number_89 (s6_fails c0 c6 hT (fun h89 e89 f89 => kN ?_)) (hc := c0)
        have c0 := e89
        have c6 := f89.get c6 (by omega)
        refine A.al4_0 d6_number_92 ?_
        refine A.v0 d6_number_93 (s6_blanks c0 c6 hT (by omega) (by omega) (fun h93 e93 f93 => kN ?_)) (hc := c0)
        have c0 := e93
        have c6 := f93.get c6 (by omega)
        refine A.il4_3 d6_number_96 ?_
        refine A.iret d6_number_97 ?_
        first
          | exact k _ _ _ _ c0 (by omega) hs1 qv (fun _ => ⟨fun u => absurd u.1.1 hd, fun _ => (pif_t ha).trans (pif_f (fun u => hd u.1)).symm⟩) (fun z => absurd ha z) ((hF.then f74 (by omega) (by omega)).then f93 (by omega) (by omega))
          | (exfalso; omega)
          | exact absurd (by rw [← hq]; exact c81) hd
    · refine A.il4_3 d6_number_67 ?_
      refine A.il4_1 d6_number_68 ?_
      refine A.ic_le d6_number_69 (fun c69 => ?_) (fun c69 => ?_)
      · refine A.al4_0 d6_number_77 ?_
        refine A.v0 d6_number_78 (s6_isDigit c0 c6 hT (by omega) (kS ?_)) (hc := c0)
        refine A.bz_eq d6_number_81 (fun c81 => ?_) (fun c81 => ?_)
        · refine A.al4_0 d6_number_92 ?_
          refine A.v0 d6_number_93 (s6_blanks c0 c6 hT (by omega) (by omega) (fun h93 e93 f93 => kN ?_)) (hc := c0)
          have c0 := e93
          have c6 := f93.get c6 (by omega)
          refine A.il4_3 d6_number_96 ?_
          refine A.iret d6_number_97 ?_
          first
            | exact k _ _ _ _ c0 (by omega) hs1 qv (fun _ => ⟨fun u => absurd u.1.1 hd, fun _ => (pif_t ha).trans (pif_f (fun u => hd u.1)).symm⟩) (fun z => absurd ha z) ((hF.then f74 (by omega) (by omega)).then f93 (by omega) (by omega))
            | (exfalso; omega)
            | exact absurd (by rw [← hq]; exact c81) hd
        · refine A.al4_0 d6_number_84 ?_
          refine A.al4_0 d6_number_85 ?_
          refine A.getf d6_number_86 ?_ (hc := c0)
          refine A.v1 d6_number_89 (s6_fails c0 c6 hT (fun h89 e89 f89 => kN ?_)) (hc := c0)
          have c0 := e89
          have c6 := f89.get c6 (by omega)
          refine A.al4_0 d6_number_92 ?_
          refine A.v0 d6_number_93 (s6_blanks c0 c6 hT (by omega) (by omega) (fun h93 e93 f93 => kN ?_)) (hc := c0)
          have c0 := e93
          have c6 := f93.get c6 (by omega)
          refine A.il4_3 d6_number_96 ?_
          refine A.iret d6_number_97 ?_
          first
            | exact k _ _ _ _ c0 (by omega) hs1 qv (fun _ => ⟨fun u => absurd u.1.1 hd, fun _ => (pif_t ha).trans (pif_f (fun u => hd u.1)).symm⟩) (fun z => absurd ha z) ((hF.then f74 (by omega) (by omega)).then f93 (by omega) (by omega))
            | (exfalso; omega)
            | exact absurd (by rw [← hq]; exact c81) hd
      · refine A.al4_0 d6_number_72 ?_
        refine A.il4_2 d6_number_73 ?_
        refine A.v1 d6_number_74 (s6_fails c0 c6 hT (fun h74 e74 f74 => kN ?_)) (hc := c0)
        have c0 := e74
        have c6 := f74.get c6 (by omega)
        refine A.al4_0 d6_number_77 ?_
        refine A.v0 d6_number_78 (s6_isDigit c0 c6 hT (by omega) (kS ?_)) (hc := c0)
        refine A.bz_eq d6_number_81 (fun c81 => ?_) (fun c81 => ?_)
        · refine A.al4_0 d6_number_92 ?_
          refine A.v0 d6_number_93 (s6_blanks c0 c6 hT (by omega) (by omega) (fun h93 e93 f93 => kN ?_)) (hc := c0)
          have c0 := e93
          have c6 := f93.get c6 (by omega)
          refine A.il4_3 d6_number_96 ?_
          refine A.iret d6_number_97 ?_
          first
            | exact k _ _ _ _ c0 (by omega) hs1 qv (fun _ => ⟨fun u => absurd u.1.1 hd, fun _ => (pif_t ha).trans (pif_f (fun u => hd u.1)).symm⟩) (fun z => absurd ha z) ((hF.then f74 (by omega) (by omega)).then f93 (by omega) (by omega))
            | (exfalso; omega)
            | exact absurd (by rw [← hq]; exact c81) hd
        · refine A.al4_0 d6_number_84 ?_
          refine A.al4_0 d6_number_85 ?_
          refine A.getf d6_number_86 ?_ (hc := c0)
          refine A.v1 d6_number_89 (s6_fails c0 c6 hT (fun h89 e89 f89 => kN ?_)) (hc := c0)
          have c0 := e89
          have c6 := f89.get c6 (by omega)
          refine A.al4_0 d6_number_92 ?_
          refine A.v0 d6_number_93 (s6_blanks c0 c6 hT (by omega) (by omega) (fun h93 e93 f93 => kN ?_)) (hc := c0)
          have c0 := e93
          have c6 := f93.get c6 (by omega)
          refine A.il4_3 d6_number_96 ?_
          refine A.iret d6_number_97 ?_
          first
            | exact k _ _ _ _ c0 (by omega) hs1 qv (fun _ => ⟨fun u => absurd u.1.1 hd, fun _ => (pif_t ha).trans (pif_f (fun u => hd u.1)).symm⟩) (fun z => absurd ha z) ((hF.then f74 (by omega) (by omega)).then f93 (by omega) (by omega))
            | (exfalso; omega)
            | exact absurd (by rw [← hq]; exact c81) hd
  have exC : ∀ (ps2 v2 : Int) (h1 : AH) (qv : -1000 ≤ v2 ∧ v2 ≤ 1000) (c0 : h1.2 q = some (mobj q n rd fi co ah se T.1 ps2 fa fl ch hx)) (c6 : h1.2 (q + 6) = some (kA 0 100 T.2)) (hF : Fr h h1 q 1) (ha : fa = -11) (hd : isd T ps) (hq : ps2 = nmE T ps) (hw : v2 = nmV T ps) (hl : ps < ps2) (hl2 : ps2 ≤ T.1), AW m6_number (d + 2) (mC m6_number, mS m6_number) 59 [some (vR q), some (vI m), some (vI ps), some (vI v2)] [] h1 R := by
    intro ps2 v2  h1  qv c0 c6 hF ha hd hq hw hl hl2
    have hs0 := sk_le (T := T) ps2
    have hs1 := sk_len (T := T) (p := ps2) (by omega)
    have hT2 := hT.2.1
    have hna : nmV T ps ≤ m → nmAt T m ps = ps2 := fun z => (pif_t ⟨hd, z⟩).trans hq.symm
    have hnb : ¬ nmV T ps ≤ m → nmAt T m ps = ps := fun z => pif_f (fun u => z u.2)
    refine A.al4_0 d6_number_59 ?_
    refine A.getf d6_number_60 ?_ (hc := c0)
    refine A.il4_2 d6_number_63 ?_
    refine A.ic_eq d6_number_64 (fun c64 => ?_) (fun c64 => ?_)
    · refine A.al4_0 d6_number_72 ?_
      refine A.il4_2 d6_number_73 ?_
      refine A.v1 d6_number_74 (s6_fails c0 c6 hT (fun h74 e74 f74 => kN ?_)) (hc := c0)
      have c0 := e74
      have c6 := f74.get c6 (by omega)
      refine A.al4_0 d6_number_77 ?_
      refine A.v0 d6_number_78 (s6_isDigit c0 c6 hT (by omega) (kS ?_)) (hc := c0)
      refine A.bz_eq d6_number_81 (fun c81 => ?_) (fun c81 => ?_)
      · refine A.al4_0 d6_number_92 ?_
        refine A.v0 d6_number_93 (s6_blanks c0 c6 hT (by omega) (by omega) (fun h93 e93 f93 => kN ?_)) (hc := c0)
        have c0 := e93
        have c6 := f93.get c6 (by omega)
        refine A.il4_3 d6_number_96 ?_
        refine A.iret d6_number_97 ?_
        first
          | (exfalso; omega)
          | (have hz : nmV T ps ≤ m := by omega
             have hna := hna hz
             first
               | exact k _ _ _ _ c0 (by omega) hs1 qv (fun _ => ⟨fun u => absurd (by rw [← hq]; exact c81) u.2, fun _ => (pif_t ha).trans hna.symm⟩) (fun z => absurd ha z) ((hF.then f89 (by omega) (by omega)).then f93 (by omega) (by omega))
               | exact k _ _ _ _ c0 (by omega) hs1 qv (fun _ => ⟨fun _ => ⟨ha, by rw [hna], hw⟩, fun u => absurd ⟨⟨hd, hz⟩, by rw [← hq]; exact c81⟩ u⟩) (fun z => absurd ha z) (hF.then f93 (by omega) (by omega)))
          | (have hz : ¬ nmV T ps ≤ m := by omega
             have hnb := hnb hz
             first
               | exact k _ _ _ _ c0 (by omega) hs1 qv (fun _ => ⟨fun u => absurd u.1.2 hz, fun _ => by rw [pif_t ha, pif_f (by omega)]; exact hnb.symm⟩) (fun z => absurd ha z) (((hF.then f74 (by omega) (by omega)).then f89 (by omega) (by omega)).then f93 (by omega) (by omega))
               | exact k _ _ _ _ c0 (by omega) hs1 qv (fun _ => ⟨fun u => absurd u.1.2 hz, fun _ => (pif_t ha).trans hnb.symm⟩) (fun z => absurd ha z) ((hF.then f74 (by omega) (by omega)).then f93 (by omega) (by omega)))
      · refine A.al4_0 d6_number_84 ?_
        refine A.al4_0 d6_number_85 ?_
        refine A.getf d6_number_86 ?_ (hc := c0)
        refine A.v1 d6_number_89 (s6_fails c0 c6 hT (fun h89 e89 f89 => kN ?_)) (hc := c0)
        have c0 := e89
        have c6 := f89.get c6 (by omega)
        refine A.al4_0 d6_number_92 ?_
        refine A.v0 d6_number_93 (s6_blanks c0 c6 hT (by omega) (by omega) (fun h93 e93 f93 => kN ?_)) (hc := c0)
        have c0 := e93
        have c6 := f93.get c6 (by omega)
        refine A.il4_3 d6_number_96 ?_
        refine A.iret d6_number_97 ?_
        first
          | (exfalso; omega)
          | (have hz : nmV T ps ≤ m := by omega
             have hna := hna hz
             first
               | exact k _ _ _ _ c0 (by omega) hs1 qv (fun _ => ⟨fun u => absurd (by rw [← hq]; exact c81) u.2, fun _ => (pif_t ha).trans hna.symm⟩) (fun z => absurd ha z) ((hF.then f89 (by omega) (by omega)).then f93 (by omega) (by omega))
               | exact k _ _ _ _ c0 (by omega) hs1 qv (fun _ => ⟨fun _ => ⟨ha, by rw [hna], hw⟩, fun u => absurd ⟨⟨hd, hz⟩, by rw [← hq]; exact c81⟩ u⟩) (fun z => absurd ha z) (hF.then f93 (by omega) (by omega)))
          | (have hz : ¬ nmV T ps ≤ m := by omega
             have hnb := hnb hz
             first
               | exact k _ _ _ _ c0 (by omega) hs1 qv (fun _ => ⟨fun u => absurd u.1.2 hz, fun _ => by rw [pif_t ha, pif_f (by omega)]; exact hnb.symm⟩) (fun z => absurd ha z) (((hF.then f74 (by omega) (by omega)).then f89 (by omega) (by omega)).then f93 (by omega) (by omega))
               | exact k _ _ _ _ c0 (by omega) hs1 qv (fun _ => ⟨fun u => absurd u.1.2 hz, fun _ => (pif_t ha).trans hnb.symm⟩) (fun z => absurd ha z) ((hF.then f74 (by omega) (by omega)).then f93 (by omega) (by omega)))
    · refine A.il4_3 d6_number_67 ?_
      refine A.il4_1 d6_number_68 ?_
      refine A.ic_le d6_number_69 (fun c69 => ?_) (fun c69 => ?_)
      · refine A.al4_0 d6_number_77 ?_
        refine A.v0 d6_number_78 (s6_isDigit c0 c6 hT (by omega) (kS ?_)) (hc := c0)
        refine A.bz_eq d6_number_81 (fun c81 => ?_) (fun c81 => ?_)
        · refine A.al4_0 d6_number_92 ?_
          refine A.v0 d6_number_93 (s6_blanks c0 c6 hT (by omega) (by omega) (fun h93 e93 f93 => kN ?_)) (hc := c0)
          have c0 := e93
          have c6 := f93.get c6 (by omega)
          refine A.il4_3 d6_number_96 ?_
          refine A.iret d6_number_97 ?_
          first
            | (exfalso; omega)
            | (have hz : nmV T ps ≤ m := by omega
               have hna := hna hz
               first
                 | exact k _ _ _ _ c0 (by omega) hs1 qv (fun _ => ⟨fun u => absurd (by rw [← hq]; exact c81) u.2, fun _ => (pif_t ha).trans hna.symm⟩) (fun z => absurd ha z) ((hF.then f89 (by omega) (by omega)).then f93 (by omega) (by omega))
                 | exact k _ _ _ _ c0 (by omega) hs1 qv (fun _ => ⟨fun _ => ⟨ha, by rw [hna], hw⟩, fun u => absurd ⟨⟨hd, hz⟩, by rw [← hq]; exact c81⟩ u⟩) (fun z => absurd ha z) (hF.then f93 (by omega) (by omega)))
            | (have hz : ¬ nmV T ps ≤ m := by omega
               have hnb := hnb hz
               first
                 | exact k _ _ _ _ c0 (by omega) hs1 qv (fun _ => ⟨fun u => absurd u.1.2 hz, fun _ => by rw [pif_t ha, pif_f (by omega)]; exact hnb.symm⟩) (fun z => absurd ha z) (((hF.then f74 (by omega) (by omega)).then f89 (by omega) (by omega)).then f93 (by omega) (by omega))
                 | exact k _ _ _ _ c0 (by omega) hs1 qv (fun _ => ⟨fun u => absurd u.1.2 hz, fun _ => (pif_t ha).trans hnb.symm⟩) (fun z => absurd ha z) ((hF.then f74 (by omega) (by omega)).then f93 (by omega) (by omega)))
        · refine A.al4_0 d6_number_84 ?_
          refine A.al4_0 d6_number_85 ?_
          refine A.getf d6_number_86 ?_ (hc := c0)
          refine A.v1 d6_number_89 (s6_fails c0 c6 hT (fun h89 e89 f89 => kN ?_)) (hc := c0)
          have c0 := e89
          have c6 := f89.get c6 (by omega)
          refine A.al4_0 d6_number_92 ?_
          refine A.v0 d6_number_93 (s6_blanks c0 c6 hT (by omega) (by omega) (fun h93 e93 f93 => kN ?_)) (hc := c0)
          have c0 := e93
          have c6 := f93.get c6 (by omega)
          refine A.il4_3 d6_number_96 ?_
          refine A.iret d6_number_97 ?_
          first
            | (exfalso; omega)
            | (have hz : nmV T ps ≤ m := by omega
               have hna := hna hz
               first
                 | exact k _ _ _ _ c0 (by omega) hs1 qv (fun _ => ⟨fun u => absurd (by rw [← hq]; exact c81) u.2, fun _ => (pif_t ha).trans hna.symm⟩) (fun z => absurd ha z) ((hF.then f89 (by omega) (by omega)).then f93 (by omega) (by omega))
                 | exact k _ _ _ _ c0 (by omega) hs1 qv (fun _ => ⟨fun _ => ⟨ha, by rw [hna], hw⟩, fun u => absurd ⟨⟨hd, hz⟩, by rw [← hq]; exact c81⟩ u⟩) (fun z => absurd ha z) (hF.then f93 (by omega) (by omega)))
            | (have hz : ¬ nmV T ps ≤ m := by omega
               have hnb := hnb hz
               first
                 | exact k _ _ _ _ c0 (by omega) hs1 qv (fun _ => ⟨fun u => absurd u.1.2 hz, fun _ => by rw [pif_t ha, pif_f (by omega)]; exact hnb.symm⟩) (fun z => absurd ha z) (((hF.then f74 (by omega) (by omega)).then f89 (by omega) (by omega)).then f93 (by omega) (by omega))
                 | exact k _ _ _ _ c0 (by omega) hs1 qv (fun _ => ⟨fun u => absurd u.1.2 hz, fun _ => (pif_t ha).trans hnb.symm⟩) (fun z => absurd ha z) ((hF.then f74 (by omega) (by omega)).then f93 (by omega) (by omega)))
      · refine A.al4_0 d6_number_72 ?_
        refine A.il4_2 d6_number_73 ?_
        refine A.v1 d6_number_74 (s6_fails c0 c6 hT (fun h74 e74 f74 => kN ?_)) (hc := c0)
        have c0 := e74
        have c6 := f74.get c6 (by omega)
        refine A.al4_0 d6_number_77 ?_
        refine A.v0 d6_number_78 (s6_isDigit c0 c6 hT (by omega) (kS ?_)) (hc := c0)
        refine A.bz_eq d6_number_81 (fun c81 => ?_) (fun c81 => ?_)
        · refine A.al4_0 d6_number_92 ?_
          refine A.v0 d6_number_93 (s6_blanks c0 c6 hT (by omega) (by omega) (fun h93 e93 f93 => kN ?_)) (hc := c0)
          have c0 := e93
          have c6 := f93.get c6 (by omega)
          refine A.il4_3 d6_number_96 ?_
          refine A.iret d6_number_97 ?_
          first
            | (exfalso; omega)
            | (have hz : nmV T ps ≤ m := by omega
               have hna := hna hz
               first
                 | exact k _ _ _ _ c0 (by omega) hs1 qv (fun _ => ⟨fun u => absurd (by rw [← hq]; exact c81) u.2, fun _ => (pif_t ha).trans hna.symm⟩) (fun z => absurd ha z) ((hF.then f89 (by omega) (by omega)).then f93 (by omega) (by omega))
                 | exact k _ _ _ _ c0 (by omega) hs1 qv (fun _ => ⟨fun _ => ⟨ha, by rw [hna], hw⟩, fun u => absurd ⟨⟨hd, hz⟩, by rw [← hq]; exact c81⟩ u⟩) (fun z => absurd ha z) (hF.then f93 (by omega) (by omega)))
            | (have hz : ¬ nmV T ps ≤ m := by omega
               have hnb := hnb hz
               first
                 | exact k _ _ _ _ c0 (by omega) hs1 qv (fun _ => ⟨fun u => absurd u.1.2 hz, fun _ => by rw [pif_t ha, pif_f (by omega)]; exact hnb.symm⟩) (fun z => absurd ha z) (((hF.then f74 (by omega) (by omega)).then f89 (by omega) (by omega)).then f93 (by omega) (by omega))
                 | exact k _ _ _ _ c0 (by omega) hs1 qv (fun _ => ⟨fun u => absurd u.1.2 hz, fun _ => (pif_t ha).trans hnb.symm⟩) (fun z => absurd ha z) ((hF.then f74 (by omega) (by omega)).then f93 (by omega) (by omega)))
        · refine A.al4_0 d6_number_84 ?_
          refine A.al4_0 d6_number_85 ?_
          refine A.getf d6_number_86 ?_ (hc := c0)
          refine A.v1 d6_number_89 (s6_fails c0 c6 hT (fun h89 e89 f89 => kN ?_)) (hc := c0)
          have c0 := e89
          have c6 := f89.get c6 (by omega)
          refine A.al4_0 d6_number_92 ?_
          refine A.v0 d6_number_93 (s6_blanks c0 c6 hT (by omega) (by omega) (fun h93 e93 f93 => kN ?_)) (hc := c0)
          have c0 := e93
          have c6 := f93.get c6 (by omega)
          refine A.il4_3 d6_number_96 ?_
          refine A.iret d6_number_97 ?_
          first
            | (exfalso; omega)
            | (have hz : nmV T ps ≤ m := by omega
               have hna := hna hz
               first
                 | exact k _ _ _ _ c0 (by omega) hs1 qv (fun _ => ⟨fun u => absurd (by rw [← hq]; exact c81) u.2, fun _ => (pif_t ha).trans hna.symm⟩) (fun z => absurd ha z) ((hF.then f89 (by omega) (by omega)).then f93 (by omega) (by omega))
                 | exact k _ _ _ _ c0 (by omega) hs1 qv (fun _ => ⟨fun _ => ⟨ha, by rw [hna], hw⟩, fun u => absurd ⟨⟨hd, hz⟩, by rw [← hq]; exact c81⟩ u⟩) (fun z => absurd ha z) (hF.then f93 (by omega) (by omega)))
            | (have hz : ¬ nmV T ps ≤ m := by omega
               have hnb := hnb hz
               first
                 | exact k _ _ _ _ c0 (by omega) hs1 qv (fun _ => ⟨fun u => absurd u.1.2 hz, fun _ => by rw [pif_t ha, pif_f (by omega)]; exact hnb.symm⟩) (fun z => absurd ha z) (((hF.then f74 (by omega) (by omega)).then f89 (by omega) (by omega)).then f93 (by omega) (by omega))
                 | exact k _ _ _ _ c0 (by omega) hs1 qv (fun _ => ⟨fun u => absurd u.1.2 hz, fun _ => (pif_t ha).trans hnb.symm⟩) (fun z => absurd ha z) ((hF.then f74 (by omega) (by omega)).then f93 (by omega) (by omega)))
  have l2 : ∀ (ps2 v2 : Int) (h1 : AH) (qv : -1000 ≤ v2 ∧ v2 ≤ 1000) (c0 : h1.2 q = some (mobj q n rd fi co ah se T.1 ps2 fa fl ch hx)) (c6 : h1.2 (q + 6) = some (kA 0 100 T.2)) (hF : Fr h h1 q 1) (ha : fa = -11) (hd : isd T ps) (hd1 : isd T (ps + 1)) (hq : ps2 = ps + 2) (hw : v2 = nmV T ps), AW m6_number (d + 2) (mC m6_number, mS m6_number) 7 [some (vR q), some (vI m), some (vI ps), some (vI v2)] [] h1 R := by
    intro ps2 v2  h1  qv c0 c6 hF ha hd hd1 hq hw
    have htl := tc_lt (T := T) (p := ps) (by have q := hd; unfold isd at q; omega)
    have hdu := hd
    unfold isd at hdu
    have htr := tc_rng hT ps
    have htr1 := tc_rng hT (ps + 1)
    have htr2 := tc_rng hT ps2
    have hT2 := hT.2.1
    have htl1 := tc_lt (T := T) (p := ps + 1) (by have q := hd1; unfold isd at q; omega)
    refine A.al4_0 d6_number_7 ?_
    refine A.getf d6_number_8 ?_ (hc := c0)
    refine A.bipush d6_number_11 ?_
    refine A.ic_ne d6_number_13 (fun c13 => ?_) (fun c13 => ?_)
    · first | exact exC _ _ _ qv c0 c6 hF ha hd (by rw [hq]; exact (pif_t hd1).symm) hw (by omega) (by omega) | (exfalso; omega)
    · refine A.al4_0 d6_number_16 ?_
      refine A.getf d6_number_17 ?_ (hc := c0)
      refine A.il4_2 d6_number_20 ?_
      refine A.iconst d6_number_21 ?_
      refine A.iadd d6_number_22 ?_
      refine A.ic_ge d6_number_23 (fun c23 => ?_) (fun c23 => ?_)
      · first | exact exC _ _ _ qv c0 c6 hF ha hd (by rw [hq]; exact (pif_t hd1).symm) hw (by omega) (by omega) | (exfalso; omega)
      · refine A.al4_0 d6_number_26 ?_
        refine A.v0 d6_number_27 (s6_isDigit c0 c6 hT (by omega) (kS ?_)) (hc := c0)
        refine A.bz_eq d6_number_30 (fun c30 => ?_) (fun c30 => ?_)
        · first | exact exC _ _ _ qv c0 c6 hF ha hd (by rw [hq]; exact (pif_t hd1).symm) hw (by omega) (by omega) | (exfalso; omega)
        · refine A.bipush d6_number_33 ?_
          refine A.il4_3 d6_number_35 ?_
          refine A.imul d6_number_36 ?_
          refine A.al4_0 d6_number_37 ?_
          refine A.v0 d6_number_38 (s6_next c0 c6 hT (by omega) (kS ?_)) (hc := c0)
          refine A.iadd d6_number_41 ?_
          refine A.bipush d6_number_42 ?_
          refine A.isub d6_number_44 ?_
          refine A.is4_3 d6_number_45 ?_
          refine A.al4_0 d6_number_46 ?_
          refine A.dup d6_number_47 ?_
          refine A.getf d6_number_48 ?_ (hc := c0)
          refine A.iconst d6_number_51 ?_
          refine A.iadd d6_number_52 ?_
          refine A.putf d6_number_53 (fun h53 e53 f53 => ?_) (hc := c0) (hk := blt_ok rfl)
          first | (have c0 := (f53.2 _ (by omega)).trans c0) | (have c0 := e53)
          first | (have c6 := (f53.2 _ (by omega)).trans c6) | (have c6 := e53)
          have F53 := f53.wide (a := q) (n := 1) (by omega) (by omega)
          refine A.goto d6_number_56 ?_
          exfalso; omega
  have l1 : ∀ (ps2 v2 : Int) (h1 : AH) (qv : -1000 ≤ v2 ∧ v2 ≤ 1000) (c0 : h1.2 q = some (mobj q n rd fi co ah se T.1 ps2 fa fl ch hx)) (c6 : h1.2 (q + 6) = some (kA 0 100 T.2)) (hF : Fr h h1 q 1) (ha : fa = -11) (hd : isd T ps) (hq : ps2 = ps + 1) (hw : v2 = tc T ps - 48), AW m6_number (d + 2) (mC m6_number, mS m6_number) 7 [some (vR q), some (vI m), some (vI ps), some (vI v2)] [] h1 R := by
    intro ps2 v2  h1  qv c0 c6 hF ha hd hq hw
    have htl := tc_lt (T := T) (p := ps) (by have q := hd; unfold isd at q; omega)
    have hdu := hd
    unfold isd at hdu
    have htr := tc_rng hT ps
    have htr1 := tc_rng hT (ps + 1)
    have htr2 := tc_rng hT ps2
    have hT2 := hT.2.1
    refine A.al4_0 d6_number_7 ?_
    refine A.getf d6_number_8 ?_ (hc := c0)
    refine A.bipush d6_number_11 ?_
    refine A.ic_ne d6_number_13 (fun c13 => ?_) (fun c13 => ?_)
    · first | (exfalso; omega) | (rw [hq] at c30; exact exC _ _ _ qv c0 c6 hF ha hd (by rw [hq]; exact (pif_f c30).symm) (by rw [hw]; exact (pif_f c30).symm) (by omega) (by omega))
    · refine A.al4_0 d6_number_16 ?_
      refine A.getf d6_number_17 ?_ (hc := c0)
      refine A.il4_2 d6_number_20 ?_
      refine A.iconst d6_number_21 ?_
      refine A.iadd d6_number_22 ?_
      refine A.ic_ge d6_number_23 (fun c23 => ?_) (fun c23 => ?_)
      · first | (exfalso; omega) | (rw [hq] at c30; exact exC _ _ _ qv c0 c6 hF ha hd (by rw [hq]; exact (pif_f c30).symm) (by rw [hw]; exact (pif_f c30).symm) (by omega) (by omega))
      · refine A.al4_0 d6_number_26 ?_
        refine A.v0 d6_number_27 (s6_isDigit c0 c6 hT (by omega) (kS ?_)) (hc := c0)
        refine A.bz_eq d6_number_30 (fun c30 => ?_) (fun c30 => ?_)
        · first | (exfalso; omega) | (rw [hq] at c30; exact exC _ _ _ qv c0 c6 hF ha hd (by rw [hq]; exact (pif_f c30).symm) (by rw [hw]; exact (pif_f c30).symm) (by omega) (by omega))
        · have hdv := c30
          unfold isd at hdv
          rw [hq] at hdv
          refine A.bipush d6_number_33 ?_
          refine A.il4_3 d6_number_35 ?_
          refine A.imul d6_number_36 ?_
          refine A.al4_0 d6_number_37 ?_
          refine A.v0 d6_number_38 (s6_next c0 c6 hT (by omega) (kS ?_)) (hc := c0)
          refine A.iadd d6_number_41 ?_
          refine A.bipush d6_number_42 ?_
          refine A.isub d6_number_44 ?_
          refine A.is4_3 d6_number_45 ?_
          refine A.al4_0 d6_number_46 ?_
          refine A.dup d6_number_47 ?_
          refine A.getf d6_number_48 ?_ (hc := c0)
          refine A.iconst d6_number_51 ?_
          refine A.iadd d6_number_52 ?_
          refine A.putf d6_number_53 (fun h53 e53 f53 => ?_) (hc := c0) (hk := blt_ok rfl)
          first | (have c0 := (f53.2 _ (by omega)).trans c0) | (have c0 := e53)
          first | (have c6 := (f53.2 _ (by omega)).trans c6) | (have c6 := e53)
          have F53 := f53.wide (a := q) (n := 1) (by omega) (by omega)
          refine A.goto d6_number_56 ?_
          rw [hq] at c30
          exact l2 _ _ _ (by rw [hw, hq]; omega) c0 c6 (hF.then F53 (by omega) (by omega)) ha hd c30 (by omega) (by rw [hw, hq]; exact Eq.trans (by omega) (pif_t c30).symm)
  have l0 : ∀ (ps2 v2 : Int) (h1 : AH) (qv : -1000 ≤ v2 ∧ v2 ≤ 1000) (c0 : h1.2 q = some (mobj q n rd fi co ah se T.1 ps2 fa fl ch hx)) (c6 : h1.2 (q + 6) = some (kA 0 100 T.2)) (hF : Fr h h1 q 1) (hq : ps2 = ps) (hw : v2 = 0), AW m6_number (d + 2) (mC m6_number, mS m6_number) 7 [some (vR q), some (vI m), some (vI ps), some (vI v2)] [] h1 R := by
    intro ps2 v2  h1  qv c0 c6 hF hq hw
    have htr := tc_rng hT ps
    have htr2 := tc_rng hT ps2
    have hT2 := hT.2.1
    refine A.al4_0 d6_number_7 ?_
    refine A.getf d6_number_8 ?_ (hc := c0)
    refine A.bipush d6_number_11 ?_
    refine A.ic_ne d6_number_13 (fun c13 => ?_) (fun c13 => ?_)
    · first | exact exA _ _ _ qv c0 c6 hF c13 hq | (exfalso; omega) | (rw [hq] at c30; exact exB _ _ _ qv c0 c6 hF c13 c30 hq)
    · refine A.al4_0 d6_number_16 ?_
      refine A.getf d6_number_17 ?_ (hc := c0)
      refine A.il4_2 d6_number_20 ?_
      refine A.iconst d6_number_21 ?_
      refine A.iadd d6_number_22 ?_
      refine A.ic_ge d6_number_23 (fun c23 => ?_) (fun c23 => ?_)
      · first | exact exA _ _ _ qv c0 c6 hF c13 hq | (exfalso; omega) | (rw [hq] at c30; exact exB _ _ _ qv c0 c6 hF c13 c30 hq)
      · refine A.al4_0 d6_number_26 ?_
        refine A.v0 d6_number_27 (s6_isDigit c0 c6 hT (by omega) (kS ?_)) (hc := c0)
        refine A.bz_eq d6_number_30 (fun c30 => ?_) (fun c30 => ?_)
        · first | exact exA _ _ _ qv c0 c6 hF c13 hq | (exfalso; omega) | (rw [hq] at c30; exact exB _ _ _ qv c0 c6 hF c13 c30 hq)
        · have hdv := c30
          unfold isd at hdv
          rw [hq] at hdv
          refine A.bipush d6_number_33 ?_
          refine A.il4_3 d6_number_35 ?_
          refine A.imul d6_number_36 ?_
          refine A.al4_0 d6_number_37 ?_
          refine A.v0 d6_number_38 (s6_next c0 c6 hT (by omega) (kS ?_)) (hc := c0)
          refine A.iadd d6_number_41 ?_
          refine A.bipush d6_number_42 ?_
          refine A.isub d6_number_44 ?_
          refine A.is4_3 d6_number_45 ?_
          refine A.al4_0 d6_number_46 ?_
          refine A.dup d6_number_47 ?_
          refine A.getf d6_number_48 ?_ (hc := c0)
          refine A.iconst d6_number_51 ?_
          refine A.iadd d6_number_52 ?_
          refine A.putf d6_number_53 (fun h53 e53 f53 => ?_) (hc := c0) (hk := blt_ok rfl)
          first | (have c0 := (f53.2 _ (by omega)).trans c0) | (have c0 := e53)
          first | (have c6 := (f53.2 _ (by omega)).trans c6) | (have c6 := e53)
          have F53 := f53.wide (a := q) (n := 1) (by omega) (by omega)
          refine A.goto d6_number_56 ?_
          rw [hq] at c30
          exact l1 _ _ _ (by rw [hw, hq]; omega) c0 c6 (hF.then F53 (by omega) (by omega)) c13 c30 (by omega) (by rw [hw, hq]; omega)
  refine A.al4_0 d6_number_0 ?_
  refine A.getf d6_number_1 ?_ (hc := c0)
  refine A.is4_2 d6_number_4 ?_
  refine A.iconst d6_number_5 ?_
  refine A.is4_3 d6_number_6 ?_
  exact l0 ps 0 h (by omega) c0 c6 Fr.rfl rfl rfl
def rKind (c : Int) : Int := if kIdx c = -1 then -11 else kIdx c
set_option maxRecDepth 100000 in
set_option maxHeartbeats 4000000 in
theorem s6_kindOf {d : Nat} {h : AH} {R : RP} {c : Int} (k : R (some (vI (rKind c))) h) : AM m6_kindOf (d) h [vI c] R := by
  refine AM.of (L := [some (vI c)]) ok_6_kindOf (by decide) (fun G => Nat.le_of_ble_eq_true rfl) rfl ?_
  refine A.il1_0 d6_kindOf_0 ?_
  refine A.tsw18 d6_kindOf_1 (fun c1 => ?_) (fun c1 => ?_) (fun c1 => ?_) (fun c1 => ?_) (fun c1 => ?_) (fun c1 => ?_) (fun c1 => ?_) (fun c1 => ?_) (fun c1 => ?_) (fun c1 => ?_) (fun c1 => ?_) (fun c1 => ?_) (fun c1 => ?_) (fun c1 => ?_) (fun c1 => ?_) (fun c1 => ?_) (fun c1 => ?_) (fun c1 => ?_) (fun c1 => ?_)
  · refine A.bipush d6_kindOf_100 ?_
    refine A.iret d6_kindOf_102 ?_
    exact rI k (by unfold rKind kIdx; (repeat' split) <;> omega)
  · refine A.bipush d6_kindOf_106 ?_
    refine A.iret d6_kindOf_108 ?_
    exact rI k (by unfold rKind kIdx; (repeat' split) <;> omega)
  · refine A.bipush d6_kindOf_103 ?_
    refine A.iret d6_kindOf_105 ?_
    exact rI k (by unfold rKind kIdx; (repeat' split) <;> omega)
  · refine A.iconst d6_kindOf_94 ?_
    refine A.iret d6_kindOf_95 ?_
    exact rI k (by unfold rKind kIdx; (repeat' split) <;> omega)
  · refine A.bipush d6_kindOf_106 ?_
    refine A.iret d6_kindOf_108 ?_
    exact rI k (by unfold rKind kIdx; (repeat' split) <;> omega)
  · refine A.iconst d6_kindOf_92 ?_
    refine A.iret d6_kindOf_93 ?_
    exact rI k (by unfold rKind kIdx; (repeat' split) <;> omega)
  · refine A.bipush d6_kindOf_106 ?_
    refine A.iret d6_kindOf_108 ?_
    exact rI k (by unfold rKind kIdx; (repeat' split) <;> omega)
  · refine A.iconst d6_kindOf_96 ?_
    refine A.iret d6_kindOf_97 ?_
    exact rI k (by unfold rKind kIdx; (repeat' split) <;> omega)
  · refine A.bipush d6_kindOf_106 ?_
    refine A.iret d6_kindOf_108 ?_
    exact rI k (by unfold rKind kIdx; (repeat' split) <;> omega)
  · refine A.bipush d6_kindOf_106 ?_
    refine A.iret d6_kindOf_108 ?_
    exact rI k (by unfold rKind kIdx; (repeat' split) <;> omega)
  · refine A.bipush d6_kindOf_106 ?_
    refine A.iret d6_kindOf_108 ?_
    exact rI k (by unfold rKind kIdx; (repeat' split) <;> omega)
  · refine A.bipush d6_kindOf_106 ?_
    refine A.iret d6_kindOf_108 ?_
    exact rI k (by unfold rKind kIdx; (repeat' split) <;> omega)
  · refine A.bipush d6_kindOf_106 ?_
    refine A.iret d6_kindOf_108 ?_
    exact rI k (by unfold rKind kIdx; (repeat' split) <;> omega)
  · refine A.iconst d6_kindOf_90 ?_
    refine A.iret d6_kindOf_91 ?_
    exact rI k (by unfold rKind kIdx; (repeat' split) <;> omega)
  · refine A.bipush d6_kindOf_106 ?_
    refine A.iret d6_kindOf_108 ?_
    exact rI k (by unfold rKind kIdx; (repeat' split) <;> omega)
  · refine A.bipush d6_kindOf_106 ?_
    refine A.iret d6_kindOf_108 ?_
    exact rI k (by unfold rKind kIdx; (repeat' split) <;> omega)
  · refine A.iconst d6_kindOf_88 ?_
    refine A.iret d6_kindOf_89 ?_
    exact rI k (by unfold rKind kIdx; (repeat' split) <;> omega)
  · refine A.iconst d6_kindOf_98 ?_
    refine A.iret d6_kindOf_99 ?_
    exact rI k (by unfold rKind kIdx; (repeat' split) <;> omega)
  · refine A.bipush d6_kindOf_106 ?_
    refine A.iret d6_kindOf_108 ?_
    exact rI k (by unfold rKind kIdx; (repeat' split) <;> omega)
