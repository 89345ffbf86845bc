/-! ===== Text: options ===== -/
set_option maxRecDepth 100000 in
set_option maxHeartbeats 4000000 in
theorem s4_takeOption {d : Nat} {h : AH} {R : RP} {t s : Nat} {T : TX} {a n : Int} (hX : txAt h t T s a n) (hT : txI T) (ha : 0 ≤ a) (ha2 : a ≤ T.1) {S : SC} (hS : scAt h s S) (hI : scI S) (hd : s + 6 ≤ t ∨ t + 2 ≤ s) (k : ∀ h' n', txAt h' t T s (opAt T (sk T a)) n' → scAt h' s (pif (opOk T (sk T a)) (cAddOpt S (opV T (sk T a)).1 (opV T (sk T a)).2.1 (opV T (sk T a)).2.2) S) → Fr2 h h' t 1 s 6 → R (some (vI (bi (opOk T (sk T a))))) h') : AM m4_takeOption (d + 3) h [vR t] R := by
  refine AM.of (L := [some (vR t), none, none]) ok_4_takeOption (by decide) (fun G => Nat.le_of_ble_eq_true rfl) rfl ?_
  obtain ⟨x0, x1⟩ := hX
  refine A.al3_0 d4_takeOption_0 ?_
  refine A.bipush d4_takeOption_1 ?_
  refine A.v1 d4_takeOption_3 (s4_takeNumber (m := 29) ⟨x0, x1⟩ hT ha ha2 (by omega) (fun h3 n3 hX3 hn3 f3 => kS ?_)) (hc := x0)
  obtain ⟨x0, x1⟩ := hX3
  have hS := hS.fr f3 (by omega)
  have hb0 := sk_le (T := T) a
  have hb1 := sk_len ha2
  have hn1 := nmAt_le (m := 29) hb1
  have hq0 := sk_le (T := T) (nmAt T 29 (sk T a))
  have hq1 := sk_len hn1.2
  have hss := sk_sk hT (p := nmAt T 29 (sk T a)) (by omega)
  refine A.bz_ne d4_takeOption_6 (fun c6 => ?_) (fun c6 => ?_)
  · refine A.al3_0 d4_takeOption_11 ?_
    refine A.getf d4_takeOption_12 ?_ (hc := x0)
    refine A.is3_1 d4_takeOption_15 ?_
    refine A.al3_0 d4_takeOption_16 ?_
    refine A.bipush d4_takeOption_17 ?_
    refine A.v1 d4_takeOption_19 (s4_takeSign (c := 63) ⟨x0, x1⟩ hT (by omega) (hn1.2) (by omega) (fun h19 hX19 f19 => kS ?_)) (hc := x0)
    obtain ⟨x0, x1⟩ := hX19
    have hS := hS.fr f19 (by omega)
    refine A.is3_2 d4_takeOption_22 ?_
    refine A.il3_2 d4_takeOption_23 ?_
    refine A.bz_ne d4_takeOption_24 (fun c24 => ?_) (fun c24 => ?_)
    · first | rw [pif_t c24] at x0 | rw [pif_t c33] at x0
      have hL : opL T (sk T a) := by unfold opL opQ; omega
      have hq2 : sk T (nmAt T 29 (sk T a)) + 1 ≤ T.1 := by have := tc_lt (T := T) (p := sk T (nmAt T 29 (sk T a))) (by omega); omega
      refine A.al3_0 d4_takeOption_49 ?_
      refine A.iconst d4_takeOption_50 ?_
      refine A.v1 d4_takeOption_51 (s4_takeDigit (m := 5) ⟨x0, x1⟩ hT (by omega) hq2 (by omega) (fun h51 n51 hX51 hn51 f51 => kS ?_)) (hc := x0)
      obtain ⟨x0, x1⟩ := hX51
      have hS := hS.fr f51 (by omega)
      refine A.bz_ne d4_takeOption_54 (fun c54 => ?_) (fun c54 => ?_)
      · refine A.al3_0 d4_takeOption_59 ?_
        refine A.getf d4_takeOption_60 ?_ (hc := x0)
        refine A.il3_1 d4_takeOption_63 ?_
        refine A.il3_2 d4_takeOption_64 ?_
        refine A.bz_eq d4_takeOption_65 (fun c65 => ?_) (fun c65 => ?_)
        · refine A.iconst d4_takeOption_72 ?_
          refine A.al3_0 d4_takeOption_73 ?_
          refine A.getf d4_takeOption_74 ?_ (hc := x0)
          refine A.v3 d4_takeOption_77 (s3_addOption hS hI (fun h77 hS77 f77 => kN ?_)) (hc := hS.1)
          have x0 := f77.get x0 (by omega)
          have x1 := f77.get x1 (by omega)
          have hS := hS77
          refine A.iconst d4_takeOption_80 ?_
          refine A.zret d4_takeOption_81 ?_
          first
            | exact absurd c24 c65
            | exact absurd c65 c24
            | (have hOk : opOk T (sk T a) := ⟨c6, fun _ => c54⟩
               have eV : opV T (sk T a) = (n3, (if tc T (opQ T (sk T a)) = 63 then 1 else 2), n51) := by
                 unfold opV
                 rw [pif_t hL, hn3 c6, hn51 c54]
                 rfl
               have eI : (if tc T (opQ T (sk T a)) = 63 then (1 : Int) else 2) = (if tc T (sk T (nmAt T 29 (sk T a))) = 63 then (1 : Int) else 2) := rfl
               exact rT (k _ _ (by unfold opAt; rw [pif_t c6, pif_t hL]; exact ⟨x0, x1⟩) (by rw [pif_t hOk, eV, eI]; first | (rw [if_pos c24]; exact hS) | (rw [if_neg c24]; exact hS)) (by first | exact ((((f3.two1 (by omega) (by omega)).trans (f19.two1 (by omega) (by omega))).trans (f30.two1 (by omega) (by omega))).trans (f51.two1 (by omega) (by omega))).trans (f77.two2 (by omega) (by omega)) | exact (((f3.two1 (by omega) (by omega)).trans (f19.two1 (by omega) (by omega))).trans (f51.two1 (by omega) (by omega))).trans (f77.two2 (by omega) (by omega)))) hOk)
        · refine A.iconst d4_takeOption_68 ?_
          refine A.goto d4_takeOption_69 ?_
          refine A.al3_0 d4_takeOption_73 ?_
          refine A.getf d4_takeOption_74 ?_ (hc := x0)
          refine A.v3 d4_takeOption_77 (s3_addOption hS hI (fun h77 hS77 f77 => kN ?_)) (hc := hS.1)
          have x0 := f77.get x0 (by omega)
          have x1 := f77.get x1 (by omega)
          have hS := hS77
          refine A.iconst d4_takeOption_80 ?_
          refine A.zret d4_takeOption_81 ?_
          first
            | exact absurd c24 c65
            | exact absurd c65 c24
            | (have hOk : opOk T (sk T a) := ⟨c6, fun _ => c54⟩
               have eV : opV T (sk T a) = (n3, (if tc T (opQ T (sk T a)) = 63 then 1 else 2), n51) := by
                 unfold opV
                 rw [pif_t hL, hn3 c6, hn51 c54]
                 rfl
               have eI : (if tc T (opQ T (sk T a)) = 63 then (1 : Int) else 2) = (if tc T (sk T (nmAt T 29 (sk T a))) = 63 then (1 : Int) else 2) := rfl
               exact rT (k _ _ (by unfold opAt; rw [pif_t c6, pif_t hL]; exact ⟨x0, x1⟩) (by rw [pif_t hOk, eV, eI]; first | (rw [if_pos c24]; exact hS) | (rw [if_neg c24]; exact hS)) (by first | exact ((((f3.two1 (by omega) (by omega)).trans (f19.two1 (by omega) (by omega))).trans (f30.two1 (by omega) (by omega))).trans (f51.two1 (by omega) (by omega))).trans (f77.two2 (by omega) (by omega)) | exact (((f3.two1 (by omega) (by omega)).trans (f19.two1 (by omega) (by omega))).trans (f51.two1 (by omega) (by omega))).trans (f77.two2 (by omega) (by omega)))) hOk)
      · refine A.iconst d4_takeOption_57 ?_
        refine A.zret d4_takeOption_58 ?_
        have hOk : ¬ opOk T (sk T a) := fun q => c54 (q.2 hL)
        exact rF (k _ _ (by unfold opAt; rw [pif_t c6, pif_t hL]; exact ⟨x0, x1⟩) (by rw [pif_f hOk]; exact hS) (by first | exact (((f3.two1 (by omega) (by omega)).trans (f19.two1 (by omega) (by omega))).trans (f30.two1 (by omega) (by omega))).trans (f51.two1 (by omega) (by omega)) | exact ((f3.two1 (by omega) (by omega)).trans (f19.two1 (by omega) (by omega))).trans (f51.two1 (by omega) (by omega)))) hOk
    · rw [pif_f c24] at x0
      refine A.al3_0 d4_takeOption_27 ?_
      refine A.bipush d4_takeOption_28 ?_
      refine A.v1 d4_takeOption_30 (s4_takeSign (c := 33) ⟨x0, x1⟩ hT (by omega) (hq1) (by omega) (fun h30 hX30 f30 => kS ?_)) (hc := x0)
      obtain ⟨x0, x1⟩ := hX30
      have hS := hS.fr f30 (by omega)
      rw [hss] at x0
      rw [hss]
      refine A.bz_ne d4_takeOption_33 (fun c33 => ?_) (fun c33 => ?_)
      · first | rw [pif_t c24] at x0 | rw [pif_t c33] at x0
        have hL : opL T (sk T a) := by unfold opL opQ; omega
        have hq2 : sk T (nmAt T 29 (sk T a)) + 1 ≤ T.1 := by have := tc_lt (T := T) (p := sk T (nmAt T 29 (sk T a))) (by omega); omega
        refine A.al3_0 d4_takeOption_49 ?_
        refine A.iconst d4_takeOption_50 ?_
        refine A.v1 d4_takeOption_51 (s4_takeDigit (m := 5) ⟨x0, x1⟩ hT (by omega) hq2 (by omega) (fun h51 n51 hX51 hn51 f51 => kS ?_)) (hc := x0)
        obtain ⟨x0, x1⟩ := hX51
        have hS := hS.fr f51 (by omega)
        refine A.bz_ne d4_takeOption_54 (fun c54 => ?_) (fun c54 => ?_)
        · refine A.al3_0 d4_takeOption_59 ?_
          refine A.getf d4_takeOption_60 ?_ (hc := x0)
          refine A.il3_1 d4_takeOption_63 ?_
          refine A.il3_2 d4_takeOption_64 ?_
          refine A.bz_eq d4_takeOption_65 (fun c65 => ?_) (fun c65 => ?_)
          · refine A.iconst d4_takeOption_72 ?_
            refine A.al3_0 d4_takeOption_73 ?_
            refine A.getf d4_takeOption_74 ?_ (hc := x0)
            refine A.v3 d4_takeOption_77 (s3_addOption hS hI (fun h77 hS77 f77 => kN ?_)) (hc := hS.1)
            have x0 := f77.get x0 (by omega)
            have x1 := f77.get x1 (by omega)
            have hS := hS77
            refine A.iconst d4_takeOption_80 ?_
            refine A.zret d4_takeOption_81 ?_
            first
              | exact absurd c24 c65
              | exact absurd c65 c24
              | (have hOk : opOk T (sk T a) := ⟨c6, fun _ => c54⟩
                 have eV : opV T (sk T a) = (n3, (if tc T (opQ T (sk T a)) = 63 then 1 else 2), n51) := by
                   unfold opV
                   rw [pif_t hL, hn3 c6, hn51 c54]
                   rfl
                 have eI : (if tc T (opQ T (sk T a)) = 63 then (1 : Int) else 2) = (if tc T (sk T (nmAt T 29 (sk T a))) = 63 then (1 : Int) else 2) := rfl
                 exact rT (k _ _ (by unfold opAt; rw [pif_t c6, pif_t hL]; exact ⟨x0, x1⟩) (by rw [pif_t hOk, eV, eI]; first | (rw [if_pos c24]; exact hS) | (rw [if_neg c24]; exact hS)) (by first | exact ((((f3.two1 (by omega) (by omega)).trans (f19.two1 (by omega) (by omega))).trans (f30.two1 (by omega) (by omega))).trans (f51.two1 (by omega) (by omega))).trans (f77.two2 (by omega) (by omega)) | exact (((f3.two1 (by omega) (by omega)).trans (f19.two1 (by omega) (by omega))).trans (f51.two1 (by omega) (by omega))).trans (f77.two2 (by omega) (by omega)))) hOk)
          · refine A.iconst d4_takeOption_68 ?_
            refine A.goto d4_takeOption_69 ?_
            refine A.al3_0 d4_takeOption_73 ?_
            refine A.getf d4_takeOption_74 ?_ (hc := x0)
            refine A.v3 d4_takeOption_77 (s3_addOption hS hI (fun h77 hS77 f77 => kN ?_)) (hc := hS.1)
            have x0 := f77.get x0 (by omega)
            have x1 := f77.get x1 (by omega)
            have hS := hS77
            refine A.iconst d4_takeOption_80 ?_
            refine A.zret d4_takeOption_81 ?_
            first
              | exact absurd c24 c65
              | exact absurd c65 c24
              | (have hOk : opOk T (sk T a) := ⟨c6, fun _ => c54⟩
                 have eV : opV T (sk T a) = (n3, (if tc T (opQ T (sk T a)) = 63 then 1 else 2), n51) := by
                   unfold opV
                   rw [pif_t hL, hn3 c6, hn51 c54]
                   rfl
                 have eI : (if tc T (opQ T (sk T a)) = 63 then (1 : Int) else 2) = (if tc T (sk T (nmAt T 29 (sk T a))) = 63 then (1 : Int) else 2) := rfl
                 exact rT (k _ _ (by unfold opAt; rw [pif_t c6, pif_t hL]; exact ⟨x0, x1⟩) (by rw [pif_t hOk, eV, eI]; first | (rw [if_pos c24]; exact hS) | (rw [if_neg c24]; exact hS)) (by first | exact ((((f3.two1 (by omega) (by omega)).trans (f19.two1 (by omega) (by omega))).trans (f30.two1 (by omega) (by omega))).trans (f51.two1 (by omega) (by omega))).trans (f77.two2 (by omega) (by omega)) | exact (((f3.two1 (by omega) (by omega)).trans (f19.two1 (by omega) (by omega))).trans (f51.two1 (by omega) (by omega))).trans (f77.two2 (by omega) (by omega)))) hOk)
        · refine A.iconst d4_takeOption_57 ?_
          refine A.zret d4_takeOption_58 ?_
          have hOk : ¬ opOk T (sk T a) := fun q => c54 (q.2 hL)
          exact rF (k _ _ (by unfold opAt; rw [pif_t c6, pif_t hL]; exact ⟨x0, x1⟩) (by rw [pif_f hOk]; exact hS) (by first | exact (((f3.two1 (by omega) (by omega)).trans (f19.two1 (by omega) (by omega))).trans (f30.two1 (by omega) (by omega))).trans (f51.two1 (by omega) (by omega)) | exact ((f3.two1 (by omega) (by omega)).trans (f19.two1 (by omega) (by omega))).trans (f51.two1 (by omega) (by omega)))) hOk
      · rw [pif_f c33] at x0
        refine A.al3_0 d4_takeOption_36 ?_
        refine A.getf d4_takeOption_37 ?_ (hc := x0)
        refine A.il3_1 d4_takeOption_40 ?_
        refine A.iconst d4_takeOption_41 ?_
        refine A.bipush d4_takeOption_42 ?_
        refine A.v3 d4_takeOption_44 (s3_addOption hS hI (fun h44 hS44 f44 => kN ?_)) (hc := hS.1)
        have x0 := f44.get x0 (by omega)
        have x1 := f44.get x1 (by omega)
        have hS := hS44
        refine A.iconst d4_takeOption_47 ?_
        refine A.zret d4_takeOption_48 ?_
        have hL : ¬ opL T (sk T a) := by unfold opL opQ; omega
        have hOk : opOk T (sk T a) := ⟨c6, fun q => absurd q hL⟩
        exact rT (k _ _ (by unfold opAt; rw [pif_t c6, pif_f hL]; exact ⟨x0, x1⟩) (by unfold opV; rw [pif_t hOk, pif_f hL, ← hn3 c6]; exact hS) ((((f3.two1 (by omega) (by omega)).trans (f19.two1 (by omega) (by omega))).trans (f30.two1 (by omega) (by omega))).trans (f44.two2 (by omega) (by omega)))) hOk
  · refine A.iconst d4_takeOption_9 ?_
    refine A.zret d4_takeOption_10 ?_
    exact rF (k _ _ (by unfold opAt; rw [pif_f c6]; exact ⟨x0, x1⟩) (by rw [pif_f (fun q => c6 q.1)]; exact hS) (f3.two1 (by omega) (by omega))) (fun q => c6 q.1)
set_option maxRecDepth 100000 in
set_option maxHeartbeats 4000000 in
theorem s4_takeOptions {d : Nat} {h : AH} {R : RP} {t s : Nat} {T : TX} {a n : Int} (hX : txAt h t T s a n) (hT : txI T) (ha : 0 ≤ a) (ha2 : a ≤ T.1) {S : SC} (hS : scAt h s S) (hI : scI S) (hd : s + 6 ≤ t ∨ t + 2 ≤ s) (k : ∀ h' n', txAt h' t T s (osR T 4 a).2.1 n' → scAt h' s (addOs S (osR T 4 a).2.2) → Fr2 h h' t 1 s 6 → R (some (vI (bi (osR T 4 a).1))) h') : AM m4_takeOptions (d + 4) h [vR t] R := by
  refine AM.of (L := [some (vR t), none]) ok_4_takeOptions (by decide) (fun G => Nat.le_of_ble_eq_true rfl) rfl ?_
  obtain ⟨x0, x1⟩ := hX
  have loop : ∀ (nf : Nat) (i : Nat) (b m : Int) (S' : SC) (h1 : AH) (hi : i ≤ 4) (hb0 : 0 ≤ b) (hb1 : b ≤ T.1) (x0 : h1.2 t = some (kO 4 [vI T.1, vR (t + 1), vR s, vI b, vI m])) (x1 : h1.2 (t + 1) = some (kA 1 100 T.2)) (hS : scAt h1 s S') (hI : scI S') (hF : Fr2 h h1 t 1 s 6) (q1 : (osR T 4 a).1 = (osR T (4 - i) b).1) (q2 : (osR T 4 a).2.1 = (osR T (4 - i) b).2.1) (q3 : addOs S (osR T 4 a).2.2 = addOs S' (osR T (4 - i) b).2.2) (hn : 4 - i < nf), AW m4_takeOptions (d + 4) (mC m4_takeOptions, mS m4_takeOptions) 2 [some (vR t), some (vI i)] [] h1 R := by
    intro nf
    induction nf with
    | zero => intro i  b m  S'  h1  hi hb0 hb1 x0 x1 hS hI hF q1 q2 q3 hn; omega
    | succ nf ih =>
      intro i  b m  S'  h1  hi hb0 hb1 x0 x1 hS hI hF q1 q2 q3 hn
      refine A.il2_1 d4_takeOptions_2 ?_
      refine A.iconst d4_takeOptions_3 ?_
      refine A.ic_ge d4_takeOptions_4 (fun c4 => ?_) (fun c4 => ?_)
      · refine A.al2_0 d4_takeOptions_33 ?_
        refine A.v0 d4_takeOptions_34 (s4_skipBlanks ⟨x0, x1⟩ hT hb0 hb1 (fun h34 hX34 f34 => kN ?_)) (hc := x0)
        obtain ⟨x0, x1⟩ := hX34
        have hS := hS.fr f34 (by omega)
        refine A.iconst d4_takeOptions_37 ?_
        refine A.zret d4_takeOptions_38 ?_
        have e : i = 4 := by omega
        subst e
        exact rF (k _ _ (by rw [q2]; exact ⟨x0, x1⟩) (by rw [q3]; exact hS) (hF.trans (f34.two1 (by omega) (by omega)))) (by rw [q1]; exact fun q => q)
      · refine A.al2_0 d4_takeOptions_7 ?_
        refine A.v0 d4_takeOptions_8 (s4_takeOption ⟨x0, x1⟩ hT hb0 hb1 hS hI hd (fun h8 n8 hX8 hS8 g8 => kS ?_)) (hc := x0)
        obtain ⟨x0, x1⟩ := hX8
        obtain ⟨j, hj⟩ : ∃ j, 4 - i = j + 1 := ⟨4 - i - 1, by omega⟩
        rw [hj] at q1 q2 q3
        have hs0 := sk_le (T := T) b
        have hp1 := opAt_le (T := T) (p := sk T b) (sk_len hb1)
        have hs1 := sk_le (T := T) (opAt T (sk T b))
        have hs2 := sk_len hp1.2
        refine A.bz_ne d4_takeOptions_11 (fun c11 => ?_) (fun c11 => ?_)
        · rw [pif_t c11] at hS8
          have hS := hS8
          have hI := scI_opt hI (opV T (sk T b)).1 (opV T (sk T b)).2.1 (opV T (sk T b)).2.2
          refine A.al2_0 d4_takeOptions_16 ?_
          refine A.bipush d4_takeOptions_17 ?_
          refine A.v1 d4_takeOptions_19 (s4_takeSign (c := 44) ⟨x0, x1⟩ hT (by omega) (hp1.2) (by omega) (fun h19 hX19 f19 => kS ?_)) (hc := x0)
          obtain ⟨x0, x1⟩ := hX19
          have hS := hS.fr f19 (by omega)
          refine A.bz_ne d4_takeOptions_22 (fun c22 => ?_) (fun c22 => ?_)
          · refine A.ii2_1 d4_takeOptions_27 ?_
            refine A.goto d4_takeOptions_30 ?_
            rw [show osR T (j + 1) b = _ from (pif_t c11).trans (pif_t c22)] at q1 q2 q3
            rw [pif_t c22] at x0
            have hlt := tc_lt (T := T) (p := sk T (opAt T (sk T b))) (by omega)
            exact ih (i + 1) _ _ _ _ (by omega) (by omega) (by omega) x0 x1 hS hI ((hF.trans g8).trans (f19.two1 (by omega) (by omega))) (by rw [q1, show 4 - (i + 1) = j by omega]) (by rw [q2, show 4 - (i + 1) = j by omega]) (by rw [q3, show 4 - (i + 1) = j by omega]; rfl) (by omega)
          · refine A.iconst d4_takeOptions_25 ?_
            refine A.zret d4_takeOptions_26 ?_
            rw [show osR T (j + 1) b = _ from (pif_t c11).trans (pif_f c22)] at q1 q2 q3
            rw [pif_f c22] at x0
            exact rT (k _ _ (by rw [q2]; exact ⟨x0, x1⟩) (by rw [q3]; exact hS) ((hF.trans g8).trans (f19.two1 (by omega) (by omega)))) (by rw [q1]; trivial)
        · rw [pif_f (fun q => c11 q)] at hS8
          have hS := hS8
          refine A.iconst d4_takeOptions_14 ?_
          refine A.zret d4_takeOptions_15 ?_
          rw [show osR T (j + 1) b = _ from pif_f c11] at q1 q2 q3
          exact rF (k _ _ (by rw [q2]; exact ⟨x0, x1⟩) (by rw [q3]; exact hS) (hF.trans g8)) (by rw [q1]; exact fun q => q)
  refine A.iconst d4_takeOptions_0 ?_
  refine A.is2_1 d4_takeOptions_1 ?_
  exact loop 5 0 a n S h (by omega) ha ha2 x0 x1 hS hI Fr2.rfl rfl rfl rfl (by omega)
