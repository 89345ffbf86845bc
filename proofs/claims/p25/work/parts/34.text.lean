set_option maxRecDepth 100000 in
set_option maxHeartbeats 4000000 in
theorem s4_takeNode {d : Nat} {h : AH} {R : RP} {t s : Nat} {T : TX} {a n : Int} (hX : txAt h t T s a n) (hT : txI T) (ha : 0 ≤ a) (ha2 : a ≤ T.1) {S : SC} (hS : scAt h s S) (hI : scI S) (hd : s + 6 ≤ t ∨ t + 2 ≤ s) (k : ∀ h' n' S', txAt h' t T s (ndAt T a) n' → scAt h' s S' → scI S' → (ndOk T a → S' = addNd S (kIdx (tc T a)) (ndN T a) (ndO T a)) → Fr2 h h' t 1 s 6 → R (some (vI (bi (ndOk T a)))) h') : AM m4_takeNode (d + 5) h [vR t] R := by
  refine AM.of (L := [some (vR t), none]) ok_4_takeNode (by decide) (fun G => Nat.le_of_ble_eq_true rfl) rfl ?_
  obtain ⟨x0, x1⟩ := hX
  have hh := hv_tc hT a
  have htr := tc_rng hT a
  have hT2 := hT.2.1
  have ek : kIdx (hv T a) = kIdx (tc T a) := by
    rcases hh with ⟨q1, q2, q3⟩ | ⟨q1, q2, q3⟩
    · rw [q1, q2]; rfl
    · rw [q2]
  have hkr := kIdx_rng (tc T a)
  refine A.ldcS d4_takeNode_0 ?_
  refine A.al2_0 d4_takeNode_2 ?_
  refine A.v0 d4_takeNode_3 (s4_here ⟨x0, x1⟩ hT (kS ?_)) (hc := x0)
  refine A.i2c d4_takeNode_6 ?_
  refine A.idx d4_takeNode_7 (by omega) (by omega) (Nat.le_of_ble_eq_true rfl) ?_
  rw [ek]
  refine A.is2_1 d4_takeNode_10 ?_
  refine A.il2_1 d4_takeNode_11 ?_
  refine A.iconst d4_takeNode_12 ?_
  refine A.ic_ne d4_takeNode_13 (fun c13 => ?_) (fun c13 => ?_)
  · refine A.al2_0 d4_takeNode_18 ?_
    refine A.dup d4_takeNode_19 ?_
    refine A.getf d4_takeNode_20 ?_ (hc := x0)
    refine A.iconst d4_takeNode_23 ?_
    refine A.iadd d4_takeNode_24 ?_
    refine A.putf d4_takeNode_25 (fun h25 e25 f25 => ?_) (hc := x0) (hk := blt_ok rfl)
    first | (have x0 := (f25.2 _ (by omega)).trans x0) | (have x0 := e25)
    first | (have x1 := (f25.2 _ (by omega)).trans x1) | (have x1 := e25)
    have hS := hS.fr f25 (by omega)
    refine A.al2_0 d4_takeNode_28 ?_
    refine A.getf d4_takeNode_29 ?_ (hc := x0)
    refine A.il2_1 d4_takeNode_32 ?_
    refine A.v1 d4_takeNode_33 (s3_addNode hS hI (fun h33 hS33 f33 => kN ?_)) (hc := hS.1)
    have x0 := f33.get x0 (by omega)
    have x1 := f33.get x1 (by omega)
    have hS := hS33
    have hI := scI_node hI (kIdx (tc T a))
    have hp1 : a + 1 ≤ T.1 := by have := tc_lt (T := T) (p := a) (kIdx_lt (by omega)); omega
    have hs0 := sk_le (T := T) (a + 1)
    have hs1 := sk_len hp1
    refine A.il2_1 d4_takeNode_36 ?_
    refine A.tsw7 d4_takeNode_37 (fun c37 => ?_) (fun c37 => ?_) (fun c37 => ?_) (fun c37 => ?_) (fun c37 => ?_) (fun c37 => ?_) (fun c37 => ?_) (fun c37 => ?_)
    · refine A.al2_0 d4_takeNode_80 ?_
      refine A.v0 d4_takeNode_81 (s4_addVoice ⟨x0, x1⟩ hT (by omega) hp1 hS hI hd (fun h81 hX81 hS81 g81 => kS ?_)) (hc := x0)
      obtain ⟨x0, x1⟩ := hX81
      have hS := hS81
      refine A.bz_eq d4_takeNode_84 (fun c84 => ?_) (fun c84 => ?_)
      · refine A.iconst d4_takeNode_100 ?_
        refine A.zret d4_takeNode_101 ?_
        first
          | (rw [pif_f c84] at hS x0
             obtain ⟨e1, e2, e3, e4⟩ := nd_k0 (T := T) (p := a) (by omega)
             exact rF (k _ _ _ (by rw [e2, pif_f c84]; exact ⟨x0, x1⟩) hS hI (fun q => by rw [e1] at q; exact absurd q (fun q => c84 q.1)) (((f25.two1 (by omega) (by omega)).trans (f33.two2 (by omega) (by omega))).trans g81)) (by rw [e1]; exact (fun q => c84 q.1)))
          | (rw [pif_f c93] at hS
             obtain ⟨e1, e2, e3, e4⟩ := nd_k0 (T := T) (p := a) (by omega)
             exact rF (k _ _ _ (by rw [e2, pif_t c84]; exact ⟨x0, x1⟩) hS hI (fun q => by rw [e1] at q; exact absurd q (fun q => c93 q.2)) ((((f25.two1 (by omega) (by omega)).trans (f33.two2 (by omega) (by omega))).trans g81).trans g90)) (by rw [e1]; exact (fun q => c93 q.2)))
          | (rw [pif_t c93] at hS
             have hI := scI_num hI (nmV T (sk T (sk T (a + 1) + 1)))
             obtain ⟨e1, e2, e3, e4⟩ := nd_k0 (T := T) (p := a) (by omega)
             exact rT (k _ _ _ (by rw [e2, pif_t c84]; exact ⟨x0, x1⟩) hS hI (fun _ => by rw [e3, e4]; rfl) ((((f25.two1 (by omega) (by omega)).trans (f33.two2 (by omega) (by omega))).trans g81).trans g90)) (by rw [e1]; exact ⟨c84, c93⟩))
      · rw [pif_t c84] at hS x0
        have hI := scI_num hI (tc T (sk T (a + 1)) - 97)
        have hv1 : sk T (a + 1) + 1 ≤ T.1 := by have q := c84; unfold vcOk at q; have := tc_lt (T := T) (p := sk T (a + 1)) (by omega); omega
        have hu0 := sk_le (T := T) (sk T (a + 1) + 1)
        have hu1 := sk_len hv1
        refine A.al2_0 d4_takeNode_87 ?_
        refine A.bipush d4_takeNode_88 ?_
        refine A.v1 d4_takeNode_90 (s4_addNumber (m := 99) ⟨x0, x1⟩ hT (by omega) (hv1) hS hI hd (by omega) (fun h90 n90 hX90 hS90 g90 => kS ?_)) (hc := x0)
        obtain ⟨x0, x1⟩ := hX90
        have hS := hS90
        refine A.bz_eq d4_takeNode_93 (fun c93 => ?_) (fun c93 => ?_)
        · refine A.iconst d4_takeNode_100 ?_
          refine A.zret d4_takeNode_101 ?_
          first
            | (rw [pif_f c84] at hS x0
               obtain ⟨e1, e2, e3, e4⟩ := nd_k0 (T := T) (p := a) (by omega)
               exact rF (k _ _ _ (by rw [e2, pif_f c84]; exact ⟨x0, x1⟩) hS hI (fun q => by rw [e1] at q; exact absurd q (fun q => c84 q.1)) (((f25.two1 (by omega) (by omega)).trans (f33.two2 (by omega) (by omega))).trans g81)) (by rw [e1]; exact (fun q => c84 q.1)))
            | (rw [pif_f c93] at hS
               obtain ⟨e1, e2, e3, e4⟩ := nd_k0 (T := T) (p := a) (by omega)
               exact rF (k _ _ _ (by rw [e2, pif_t c84]; exact ⟨x0, x1⟩) hS hI (fun q => by rw [e1] at q; exact absurd q (fun q => c93 q.2)) ((((f25.two1 (by omega) (by omega)).trans (f33.two2 (by omega) (by omega))).trans g81).trans g90)) (by rw [e1]; exact (fun q => c93 q.2)))
            | (rw [pif_t c93] at hS
               have hI := scI_num hI (nmV T (sk T (sk T (a + 1) + 1)))
               obtain ⟨e1, e2, e3, e4⟩ := nd_k0 (T := T) (p := a) (by omega)
               exact rT (k _ _ _ (by rw [e2, pif_t c84]; exact ⟨x0, x1⟩) hS hI (fun _ => by rw [e3, e4]; rfl) ((((f25.two1 (by omega) (by omega)).trans (f33.two2 (by omega) (by omega))).trans g81).trans g90)) (by rw [e1]; exact ⟨c84, c93⟩))
        · refine A.iconst d4_takeNode_96 ?_
          refine A.goto d4_takeNode_97 ?_
          refine A.zret d4_takeNode_101 ?_
          first
            | (rw [pif_f c84] at hS x0
               obtain ⟨e1, e2, e3, e4⟩ := nd_k0 (T := T) (p := a) (by omega)
               exact rF (k _ _ _ (by rw [e2, pif_f c84]; exact ⟨x0, x1⟩) hS hI (fun q => by rw [e1] at q; exact absurd q (fun q => c84 q.1)) (((f25.two1 (by omega) (by omega)).trans (f33.two2 (by omega) (by omega))).trans g81)) (by rw [e1]; exact (fun q => c84 q.1)))
            | (rw [pif_f c93] at hS
               obtain ⟨e1, e2, e3, e4⟩ := nd_k0 (T := T) (p := a) (by omega)
               exact rF (k _ _ _ (by rw [e2, pif_t c84]; exact ⟨x0, x1⟩) hS hI (fun q => by rw [e1] at q; exact absurd q (fun q => c93 q.2)) ((((f25.two1 (by omega) (by omega)).trans (f33.two2 (by omega) (by omega))).trans g81).trans g90)) (by rw [e1]; exact (fun q => c93 q.2)))
            | (rw [pif_t c93] at hS
               have hI := scI_num hI (nmV T (sk T (sk T (a + 1) + 1)))
               obtain ⟨e1, e2, e3, e4⟩ := nd_k0 (T := T) (p := a) (by omega)
               exact rT (k _ _ _ (by rw [e2, pif_t c84]; exact ⟨x0, x1⟩) hS hI (fun _ => by rw [e3, e4]; rfl) ((((f25.two1 (by omega) (by omega)).trans (f33.two2 (by omega) (by omega))).trans g81).trans g90)) (by rw [e1]; exact ⟨c84, c93⟩))
    · refine A.al2_0 d4_takeNode_102 ?_
      refine A.v0 d4_takeNode_103 (s4_addVoice ⟨x0, x1⟩ hT (by omega) hp1 hS hI hd (fun h103 hX103 hS103 g103 => kS ?_)) (hc := x0)
      obtain ⟨x0, x1⟩ := hX103
      have hS := hS103
      refine A.bz_eq d4_takeNode_106 (fun c106 => ?_) (fun c106 => ?_)
      · refine A.iconst d4_takeNode_129 ?_
        refine A.zret d4_takeNode_130 ?_
        first
          | (rw [pif_f c106] at hS x0
             obtain ⟨e1, e2, e3, e4⟩ := nd_k1 (T := T) (p := a) (by omega)
             exact rF (k _ _ _ (by rw [e2, pif_f c106]; exact ⟨x0, x1⟩) hS hI (fun q => by rw [e1] at q; exact absurd q (fun q => c106 q.1)) (((f25.two1 (by omega) (by omega)).trans (f33.two2 (by omega) (by omega))).trans g103)) (by rw [e1]; exact (fun q => c106 q.1)))
          | (rw [pif_f c114] at hS
             obtain ⟨e1, e2, e3, e4⟩ := nd_k1 (T := T) (p := a) (by omega)
             exact rF (k _ _ _ (by rw [e2, pif_t c106, pif_f c114]; exact ⟨x0, x1⟩) hS hI (fun q => by rw [e1] at q; exact absurd q (fun q => c114 q.2.1)) ((((f25.two1 (by omega) (by omega)).trans (f33.two2 (by omega) (by omega))).trans g103).trans g111)) (by rw [e1]; exact (fun q => c114 q.2.1)))
          | (rw [pif_f c122] at hS
             obtain ⟨e1, e2, e3, e4⟩ := nd_k1 (T := T) (p := a) (by omega)
             exact rF (k _ _ _ (by rw [e2, pif_t c106, pif_t c114]; exact ⟨x0, x1⟩) hS hI (fun q => by rw [e1] at q; exact absurd q (fun q => c122 q.2.2)) (((((f25.two1 (by omega) (by omega)).trans (f33.two2 (by omega) (by omega))).trans g103).trans g111).trans g119)) (by rw [e1]; exact (fun q => c122 q.2.2)))
          | (rw [pif_t c122] at hS
             have hI := scI_num hI (tc T (sk T (dgAt T 2 (sk T (sk T (a + 1) + 1)))) - 48)
             obtain ⟨e1, e2, e3, e4⟩ := nd_k1 (T := T) (p := a) (by omega)
             exact rT (k _ _ _ (by rw [e2, pif_t c106, pif_t c114]; exact ⟨x0, x1⟩) hS hI (fun _ => by rw [e3, e4]; rfl) (((((f25.two1 (by omega) (by omega)).trans (f33.two2 (by omega) (by omega))).trans g103).trans g111).trans g119)) (by rw [e1]; exact ⟨c106, c114, c122⟩))
      · rw [pif_t c106] at hS x0
        have hI := scI_num hI (tc T (sk T (a + 1)) - 97)
        have hv1 : sk T (a + 1) + 1 ≤ T.1 := by have q := c106; unfold vcOk at q; have := tc_lt (T := T) (p := sk T (a + 1)) (by omega); omega
        have hu0 := sk_le (T := T) (sk T (a + 1) + 1)
        have hu1 := sk_len hv1
        refine A.al2_0 d4_takeNode_109 ?_
        refine A.iconst d4_takeNode_110 ?_
        refine A.v1 d4_takeNode_111 (s4_addDigit (m := 2) ⟨x0, x1⟩ hT (by omega) (hv1) hS hI hd (by omega) (fun h111 n111 hX111 hS111 g111 => kS ?_)) (hc := x0)
        obtain ⟨x0, x1⟩ := hX111
        have hS := hS111
        refine A.bz_eq d4_takeNode_114 (fun c114 => ?_) (fun c114 => ?_)
        · refine A.iconst d4_takeNode_129 ?_
          refine A.zret d4_takeNode_130 ?_
          first
            | (rw [pif_f c106] at hS x0
               obtain ⟨e1, e2, e3, e4⟩ := nd_k1 (T := T) (p := a) (by omega)
               exact rF (k _ _ _ (by rw [e2, pif_f c106]; exact ⟨x0, x1⟩) hS hI (fun q => by rw [e1] at q; exact absurd q (fun q => c106 q.1)) (((f25.two1 (by omega) (by omega)).trans (f33.two2 (by omega) (by omega))).trans g103)) (by rw [e1]; exact (fun q => c106 q.1)))
            | (rw [pif_f c114] at hS
               obtain ⟨e1, e2, e3, e4⟩ := nd_k1 (T := T) (p := a) (by omega)
               exact rF (k _ _ _ (by rw [e2, pif_t c106, pif_f c114]; exact ⟨x0, x1⟩) hS hI (fun q => by rw [e1] at q; exact absurd q (fun q => c114 q.2.1)) ((((f25.two1 (by omega) (by omega)).trans (f33.two2 (by omega) (by omega))).trans g103).trans g111)) (by rw [e1]; exact (fun q => c114 q.2.1)))
            | (rw [pif_f c122] at hS
               obtain ⟨e1, e2, e3, e4⟩ := nd_k1 (T := T) (p := a) (by omega)
               exact rF (k _ _ _ (by rw [e2, pif_t c106, pif_t c114]; exact ⟨x0, x1⟩) hS hI (fun q => by rw [e1] at q; exact absurd q (fun q => c122 q.2.2)) (((((f25.two1 (by omega) (by omega)).trans (f33.two2 (by omega) (by omega))).trans g103).trans g111).trans g119)) (by rw [e1]; exact (fun q => c122 q.2.2)))
            | (rw [pif_t c122] at hS
               have hI := scI_num hI (tc T (sk T (dgAt T 2 (sk T (sk T (a + 1) + 1)))) - 48)
               obtain ⟨e1, e2, e3, e4⟩ := nd_k1 (T := T) (p := a) (by omega)
               exact rT (k _ _ _ (by rw [e2, pif_t c106, pif_t c114]; exact ⟨x0, x1⟩) hS hI (fun _ => by rw [e3, e4]; rfl) (((((f25.two1 (by omega) (by omega)).trans (f33.two2 (by omega) (by omega))).trans g103).trans g111).trans g119)) (by rw [e1]; exact ⟨c106, c114, c122⟩))
        · rw [pif_t c114] at hS
          have hI := scI_num hI (tc T (sk T (sk T (a + 1) + 1)) - 48)
          have hw := dgAt_le (m := 2) hu1
          have hw1 := hw.2
          refine A.al2_0 d4_takeNode_117 ?_
          refine A.iconst d4_takeNode_118 ?_
          refine A.v1 d4_takeNode_119 (s4_addDigit (m := 4) ⟨x0, x1⟩ hT (by omega) (hw1) hS hI hd (by omega) (fun h119 n119 hX119 hS119 g119 => kS ?_)) (hc := x0)
          obtain ⟨x0, x1⟩ := hX119
          have hS := hS119
          refine A.bz_eq d4_takeNode_122 (fun c122 => ?_) (fun c122 => ?_)
          · refine A.iconst d4_takeNode_129 ?_
            refine A.zret d4_takeNode_130 ?_
            first
              | (rw [pif_f c106] at hS x0
                 obtain ⟨e1, e2, e3, e4⟩ := nd_k1 (T := T) (p := a) (by omega)
                 exact rF (k _ _ _ (by rw [e2, pif_f c106]; exact ⟨x0, x1⟩) hS hI (fun q => by rw [e1] at q; exact absurd q (fun q => c106 q.1)) (((f25.two1 (by omega) (by omega)).trans (f33.two2 (by omega) (by omega))).trans g103)) (by rw [e1]; exact (fun q => c106 q.1)))
              | (rw [pif_f c114] at hS
                 obtain ⟨e1, e2, e3, e4⟩ := nd_k1 (T := T) (p := a) (by omega)
                 exact rF (k _ _ _ (by rw [e2, pif_t c106, pif_f c114]; exact ⟨x0, x1⟩) hS hI (fun q => by rw [e1] at q; exact absurd q (fun q => c114 q.2.1)) ((((f25.two1 (by omega) (by omega)).trans (f33.two2 (by omega) (by omega))).trans g103).trans g111)) (by rw [e1]; exact (fun q => c114 q.2.1)))
              | (rw [pif_f c122] at hS
                 obtain ⟨e1, e2, e3, e4⟩ := nd_k1 (T := T) (p := a) (by omega)
                 exact rF (k _ _ _ (by rw [e2, pif_t c106, pif_t c114]; exact ⟨x0, x1⟩) hS hI (fun q => by rw [e1] at q; exact absurd q (fun q => c122 q.2.2)) (((((f25.two1 (by omega) (by omega)).trans (f33.two2 (by omega) (by omega))).trans g103).trans g111).trans g119)) (by rw [e1]; exact (fun q => c122 q.2.2)))
              | (rw [pif_t c122] at hS
                 have hI := scI_num hI (tc T (sk T (dgAt T 2 (sk T (sk T (a + 1) + 1)))) - 48)
                 obtain ⟨e1, e2, e3, e4⟩ := nd_k1 (T := T) (p := a) (by omega)
                 exact rT (k _ _ _ (by rw [e2, pif_t c106, pif_t c114]; exact ⟨x0, x1⟩) hS hI (fun _ => by rw [e3, e4]; rfl) (((((f25.two1 (by omega) (by omega)).trans (f33.two2 (by omega) (by omega))).trans g103).trans g111).trans g119)) (by rw [e1]; exact ⟨c106, c114, c122⟩))
          · refine A.iconst d4_takeNode_125 ?_
            refine A.goto d4_takeNode_126 ?_
            refine A.zret d4_takeNode_130 ?_
            first
              | (rw [pif_f c106] at hS x0
                 obtain ⟨e1, e2, e3, e4⟩ := nd_k1 (T := T) (p := a) (by omega)
                 exact rF (k _ _ _ (by rw [e2, pif_f c106]; exact ⟨x0, x1⟩) hS hI (fun q => by rw [e1] at q; exact absurd q (fun q => c106 q.1)) (((f25.two1 (by omega) (by omega)).trans (f33.two2 (by omega) (by omega))).trans g103)) (by rw [e1]; exact (fun q => c106 q.1)))
              | (rw [pif_f c114] at hS
                 obtain ⟨e1, e2, e3, e4⟩ := nd_k1 (T := T) (p := a) (by omega)
                 exact rF (k _ _ _ (by rw [e2, pif_t c106, pif_f c114]; exact ⟨x0, x1⟩) hS hI (fun q => by rw [e1] at q; exact absurd q (fun q => c114 q.2.1)) ((((f25.two1 (by omega) (by omega)).trans (f33.two2 (by omega) (by omega))).trans g103).trans g111)) (by rw [e1]; exact (fun q => c114 q.2.1)))
              | (rw [pif_f c122] at hS
                 obtain ⟨e1, e2, e3, e4⟩ := nd_k1 (T := T) (p := a) (by omega)
                 exact rF (k _ _ _ (by rw [e2, pif_t c106, pif_t c114]; exact ⟨x0, x1⟩) hS hI (fun q => by rw [e1] at q; exact absurd q (fun q => c122 q.2.2)) (((((f25.two1 (by omega) (by omega)).trans (f33.two2 (by omega) (by omega))).trans g103).trans g111).trans g119)) (by rw [e1]; exact (fun q => c122 q.2.2)))
              | (rw [pif_t c122] at hS
                 have hI := scI_num hI (tc T (sk T (dgAt T 2 (sk T (sk T (a + 1) + 1)))) - 48)
                 obtain ⟨e1, e2, e3, e4⟩ := nd_k1 (T := T) (p := a) (by omega)
                 exact rT (k _ _ _ (by rw [e2, pif_t c106, pif_t c114]; exact ⟨x0, x1⟩) hS hI (fun _ => by rw [e3, e4]; rfl) (((((f25.two1 (by omega) (by omega)).trans (f33.two2 (by omega) (by omega))).trans g103).trans g111).trans g119)) (by rw [e1]; exact ⟨c106, c114, c122⟩))
    · refine A.al2_0 d4_takeNode_131 ?_
      refine A.v0 d4_takeNode_132 (s4_addVoice ⟨x0, x1⟩ hT (by omega) hp1 hS hI hd (fun h132 hX132 hS132 g132 => kS ?_)) (hc := x0)
      obtain ⟨x0, x1⟩ := hX132
      have hS := hS132
      refine A.zret d4_takeNode_135 ?_
      obtain ⟨e1, e2, e3, e4⟩ := nd_k2 (T := T) (p := a) (by omega)
      rcases Classical.em (vcOk T (sk T (a + 1))) with z | z
      · rw [pif_t z] at hS
        exact rI (k _ _ _ (by rw [e2]; exact ⟨x0, x1⟩) hS (scI_num hI _) (fun _ => by rw [e3, e4]; rfl) (((f25.two1 (by omega) (by omega)).trans (f33.two2 (by omega) (by omega))).trans g132)) (by rw [e1])
      · rw [pif_f z] at hS
        exact rI (k _ _ _ (by rw [e2]; exact ⟨x0, x1⟩) hS hI (fun q => by rw [e1] at q; exact absurd q z) (((f25.two1 (by omega) (by omega)).trans (f33.two2 (by omega) (by omega))).trans g132)) (by rw [e1])
    · refine A.al2_0 d4_takeNode_136 ?_
      refine A.iconst d4_takeNode_137 ?_
      refine A.v1 d4_takeNode_138 (s4_addDigit (m := 5) ⟨x0, x1⟩ hT (by omega) (hp1) hS hI hd (by omega) (fun h138 n138 hX138 hS138 g138 => kS ?_)) (hc := x0)
      obtain ⟨x0, x1⟩ := hX138
      have hS := hS138
      refine A.bz_eq d4_takeNode_141 (fun c141 => ?_) (fun c141 => ?_)
      · refine A.iconst d4_takeNode_155 ?_
        refine A.zret d4_takeNode_156 ?_
        first
          | (rw [pif_f c141] at hS
             obtain ⟨e1, e2, e3, e4⟩ := nd_k3 (T := T) (p := a) (by omega)
             exact rF (k _ _ _ (by rw [e2, pif_f c141]; exact ⟨x0, x1⟩) hS hI (fun q => by rw [e1] at q; exact absurd q (fun q => c141 q.1)) (((f25.two1 (by omega) (by omega)).trans (f33.two2 (by omega) (by omega))).trans g138)) (by rw [e1]; exact (fun q => c141 q.1)))
          | (rw [pif_f c148] at hS x0
             obtain ⟨e1, e2, e3, e4⟩ := nd_k3 (T := T) (p := a) (by omega)
             exact rF (k _ _ _ (by rw [e2, pif_t c141, pif_f c148]; exact ⟨x0, x1⟩) hS hI (fun q => by rw [e1] at q; exact absurd q (fun q => c148 q.2)) ((((f25.two1 (by omega) (by omega)).trans (f33.two2 (by omega) (by omega))).trans g138).trans g145)) (by rw [e1]; exact (fun q => c148 q.2)))
          | (rw [pif_t c148] at hS x0
             have hI := scI_num hI (if tc T (sk T (dgAt T 5 (sk T (a + 1)))) = 43 then 1 else 0)
             obtain ⟨e1, e2, e3, e4⟩ := nd_k3 (T := T) (p := a) (by omega)
             exact rT (k _ _ _ (by rw [e2, pif_t c141, pif_t c148]; exact ⟨x0, x1⟩) hS hI (fun _ => by rw [e3, e4]; rfl) ((((f25.two1 (by omega) (by omega)).trans (f33.two2 (by omega) (by omega))).trans g138).trans g145)) (by rw [e1]; exact ⟨c141, c148⟩))
      · rw [pif_t c141] at hS
        have hI := scI_num hI (tc T (sk T (a + 1)) - 48)
        have hw := dgAt_le (m := 5) hs1
        have hw1 := hw.2
        refine A.al2_0 d4_takeNode_144 ?_
        refine A.v0 d4_takeNode_145 (s4_addPlusOrMinus ⟨x0, x1⟩ hT (by omega) hw1 hS hI hd (fun h145 hX145 hS145 g145 => kS ?_)) (hc := x0)
        obtain ⟨x0, x1⟩ := hX145
        have hS := hS145
        refine A.bz_eq d4_takeNode_148 (fun c148 => ?_) (fun c148 => ?_)
        · refine A.iconst d4_takeNode_155 ?_
          refine A.zret d4_takeNode_156 ?_
          first
            | (rw [pif_f c141] at hS
               obtain ⟨e1, e2, e3, e4⟩ := nd_k3 (T := T) (p := a) (by omega)
               exact rF (k _ _ _ (by rw [e2, pif_f c141]; exact ⟨x0, x1⟩) hS hI (fun q => by rw [e1] at q; exact absurd q (fun q => c141 q.1)) (((f25.two1 (by omega) (by omega)).trans (f33.two2 (by omega) (by omega))).trans g138)) (by rw [e1]; exact (fun q => c141 q.1)))
            | (rw [pif_f c148] at hS x0
               obtain ⟨e1, e2, e3, e4⟩ := nd_k3 (T := T) (p := a) (by omega)
               exact rF (k _ _ _ (by rw [e2, pif_t c141, pif_f c148]; exact ⟨x0, x1⟩) hS hI (fun q => by rw [e1] at q; exact absurd q (fun q => c148 q.2)) ((((f25.two1 (by omega) (by omega)).trans (f33.two2 (by omega) (by omega))).trans g138).trans g145)) (by rw [e1]; exact (fun q => c148 q.2)))
            | (rw [pif_t c148] at hS x0
               have hI := scI_num hI (if tc T (sk T (dgAt T 5 (sk T (a + 1)))) = 43 then 1 else 0)
               obtain ⟨e1, e2, e3, e4⟩ := nd_k3 (T := T) (p := a) (by omega)
               exact rT (k _ _ _ (by rw [e2, pif_t c141, pif_t c148]; exact ⟨x0, x1⟩) hS hI (fun _ => by rw [e3, e4]; rfl) ((((f25.two1 (by omega) (by omega)).trans (f33.two2 (by omega) (by omega))).trans g138).trans g145)) (by rw [e1]; exact ⟨c141, c148⟩))
        · refine A.iconst d4_takeNode_151 ?_
          refine A.goto d4_takeNode_152 ?_
          refine A.zret d4_takeNode_156 ?_
          first
            | (rw [pif_f c141] at hS
               obtain ⟨e1, e2, e3, e4⟩ := nd_k3 (T := T) (p := a) (by omega)
               exact rF (k _ _ _ (by rw [e2, pif_f c141]; exact ⟨x0, x1⟩) hS hI (fun q => by rw [e1] at q; exact absurd q (fun q => c141 q.1)) (((f25.two1 (by omega) (by omega)).trans (f33.two2 (by omega) (by omega))).trans g138)) (by rw [e1]; exact (fun q => c141 q.1)))
            | (rw [pif_f c148] at hS x0
               obtain ⟨e1, e2, e3, e4⟩ := nd_k3 (T := T) (p := a) (by omega)
               exact rF (k _ _ _ (by rw [e2, pif_t c141, pif_f c148]; exact ⟨x0, x1⟩) hS hI (fun q => by rw [e1] at q; exact absurd q (fun q => c148 q.2)) ((((f25.two1 (by omega) (by omega)).trans (f33.two2 (by omega) (by omega))).trans g138).trans g145)) (by rw [e1]; exact (fun q => c148 q.2)))
            | (rw [pif_t c148] at hS x0
               have hI := scI_num hI (if tc T (sk T (dgAt T 5 (sk T (a + 1)))) = 43 then 1 else 0)
               obtain ⟨e1, e2, e3, e4⟩ := nd_k3 (T := T) (p := a) (by omega)
               exact rT (k _ _ _ (by rw [e2, pif_t c141, pif_t c148]; exact ⟨x0, x1⟩) hS hI (fun _ => by rw [e3, e4]; rfl) ((((f25.two1 (by omega) (by omega)).trans (f33.two2 (by omega) (by omega))).trans g138).trans g145)) (by rw [e1]; exact ⟨c141, c148⟩))
    · refine A.al2_0 d4_takeNode_157 ?_
      refine A.bipush d4_takeNode_158 ?_
      refine A.v1 d4_takeNode_160 (s4_addNumber (m := 29) ⟨x0, x1⟩ hT (by omega) (hp1) hS hI hd (by omega) (fun h160 n160 hX160 hS160 g160 => kS ?_)) (hc := x0)
      obtain ⟨x0, x1⟩ := hX160
      have hS := hS160
      refine A.zret d4_takeNode_163 ?_
      obtain ⟨e1, e2, e3, e4⟩ := nd_k4 (T := T) (p := a) (by omega)
      rcases Classical.em (nmOk T 29 (sk T (a + 1))) with z | z
      · rw [pif_t z] at hS
        exact rI (k _ _ _ (by rw [e2]; exact ⟨x0, x1⟩) hS (scI_num hI _) (fun _ => by rw [e3, e4]; rfl) (((f25.two1 (by omega) (by omega)).trans (f33.two2 (by omega) (by omega))).trans g160)) (by rw [e1])
      · rw [pif_f z] at hS
        exact rI (k _ _ _ (by rw [e2]; exact ⟨x0, x1⟩) hS hI (fun q => by rw [e1] at q; exact absurd q z) (((f25.two1 (by omega) (by omega)).trans (f33.two2 (by omega) (by omega))).trans g160)) (by rw [e1])
    · refine A.al2_0 d4_takeNode_164 ?_
      refine A.iconst d4_takeNode_165 ?_
      refine A.v1 d4_takeNode_166 (s4_addDigit (m := 5) ⟨x0, x1⟩ hT (by omega) (hp1) hS hI hd (by omega) (fun h166 n166 hX166 hS166 g166 => kS ?_)) (hc := x0)
      obtain ⟨x0, x1⟩ := hX166
      have hS := hS166
      refine A.bz_eq d4_takeNode_169 (fun c169 => ?_) (fun c169 => ?_)
      · refine A.iconst d4_takeNode_185 ?_
        refine A.zret d4_takeNode_186 ?_
        first
          | (rw [pif_f c169] at hS
             obtain ⟨e1, e2, e3, e4⟩ := nd_k5 (T := T) (p := a) (by omega)
             exact rF (k _ _ _ (by rw [e2, pif_f c169]; exact ⟨x0, x1⟩) hS hI (fun q => by rw [e1] at q; exact absurd q (fun q => c169 q.1)) (((f25.two1 (by omega) (by omega)).trans (f33.two2 (by omega) (by omega))).trans g166)) (by rw [e1]; exact (fun q => c169 q.1)))
          | (rw [pif_f c178] at hS
             obtain ⟨e1, e2, e3, e4⟩ := nd_k5 (T := T) (p := a) (by omega)
             exact rF (k _ _ _ (by rw [e2, pif_t c169]; exact ⟨x0, x1⟩) hS hI (fun q => by rw [e1] at q; exact absurd q (fun q => c178 q.2)) ((((f25.two1 (by omega) (by omega)).trans (f33.two2 (by omega) (by omega))).trans g166).trans g175)) (by rw [e1]; exact (fun q => c178 q.2)))
          | (rw [pif_t c178] at hS
             have hI := scI_num hI (nmV T (sk T (dgAt T 5 (sk T (a + 1)))))
             obtain ⟨e1, e2, e3, e4⟩ := nd_k5 (T := T) (p := a) (by omega)
             exact rT (k _ _ _ (by rw [e2, pif_t c169]; exact ⟨x0, x1⟩) hS hI (fun _ => by rw [e3, e4]; rfl) ((((f25.two1 (by omega) (by omega)).trans (f33.two2 (by omega) (by omega))).trans g166).trans g175)) (by rw [e1]; exact ⟨c169, c178⟩))
      · rw [pif_t c169] at hS
        have hI := scI_num hI (tc T (sk T (a + 1)) - 48)
        have hw := dgAt_le (m := 5) hs1
        have hw1 := hw.2
        refine A.al2_0 d4_takeNode_172 ?_
        refine A.bipush d4_takeNode_173 ?_
        refine A.v1 d4_takeNode_175 (s4_addNumber (m := 29) ⟨x0, x1⟩ hT (by omega) (hw1) hS hI hd (by omega) (fun h175 n175 hX175 hS175 g175 => kS ?_)) (hc := x0)
        obtain ⟨x0, x1⟩ := hX175
        have hS := hS175
        refine A.bz_eq d4_takeNode_178 (fun c178 => ?_) (fun c178 => ?_)
        · refine A.iconst d4_takeNode_185 ?_
          refine A.zret d4_takeNode_186 ?_
          first
            | (rw [pif_f c169] at hS
               obtain ⟨e1, e2, e3, e4⟩ := nd_k5 (T := T) (p := a) (by omega)
               exact rF (k _ _ _ (by rw [e2, pif_f c169]; exact ⟨x0, x1⟩) hS hI (fun q => by rw [e1] at q; exact absurd q (fun q => c169 q.1)) (((f25.two1 (by omega) (by omega)).trans (f33.two2 (by omega) (by omega))).trans g166)) (by rw [e1]; exact (fun q => c169 q.1)))
            | (rw [pif_f c178] at hS
               obtain ⟨e1, e2, e3, e4⟩ := nd_k5 (T := T) (p := a) (by omega)
               exact rF (k _ _ _ (by rw [e2, pif_t c169]; exact ⟨x0, x1⟩) hS hI (fun q => by rw [e1] at q; exact absurd q (fun q => c178 q.2)) ((((f25.two1 (by omega) (by omega)).trans (f33.two2 (by omega) (by omega))).trans g166).trans g175)) (by rw [e1]; exact (fun q => c178 q.2)))
            | (rw [pif_t c178] at hS
               have hI := scI_num hI (nmV T (sk T (dgAt T 5 (sk T (a + 1)))))
               obtain ⟨e1, e2, e3, e4⟩ := nd_k5 (T := T) (p := a) (by omega)
               exact rT (k _ _ _ (by rw [e2, pif_t c169]; exact ⟨x0, x1⟩) hS hI (fun _ => by rw [e3, e4]; rfl) ((((f25.two1 (by omega) (by omega)).trans (f33.two2 (by omega) (by omega))).trans g166).trans g175)) (by rw [e1]; exact ⟨c169, c178⟩))
        · refine A.iconst d4_takeNode_181 ?_
          refine A.goto d4_takeNode_182 ?_
          refine A.zret d4_takeNode_186 ?_
          first
            | (rw [pif_f c169] at hS
               obtain ⟨e1, e2, e3, e4⟩ := nd_k5 (T := T) (p := a) (by omega)
               exact rF (k _ _ _ (by rw [e2, pif_f c169]; exact ⟨x0, x1⟩) hS hI (fun q => by rw [e1] at q; exact absurd q (fun q => c169 q.1)) (((f25.two1 (by omega) (by omega)).trans (f33.two2 (by omega) (by omega))).trans g166)) (by rw [e1]; exact (fun q => c169 q.1)))
            | (rw [pif_f c178] at hS
               obtain ⟨e1, e2, e3, e4⟩ := nd_k5 (T := T) (p := a) (by omega)
               exact rF (k _ _ _ (by rw [e2, pif_t c169]; exact ⟨x0, x1⟩) hS hI (fun q => by rw [e1] at q; exact absurd q (fun q => c178 q.2)) ((((f25.two1 (by omega) (by omega)).trans (f33.two2 (by omega) (by omega))).trans g166).trans g175)) (by rw [e1]; exact (fun q => c178 q.2)))
            | (rw [pif_t c178] at hS
               have hI := scI_num hI (nmV T (sk T (dgAt T 5 (sk T (a + 1)))))
               obtain ⟨e1, e2, e3, e4⟩ := nd_k5 (T := T) (p := a) (by omega)
               exact rT (k _ _ _ (by rw [e2, pif_t c169]; exact ⟨x0, x1⟩) hS hI (fun _ => by rw [e3, e4]; rfl) ((((f25.two1 (by omega) (by omega)).trans (f33.two2 (by omega) (by omega))).trans g166).trans g175)) (by rw [e1]; exact ⟨c169, c178⟩))
    · refine A.al2_0 d4_takeNode_187 ?_
      refine A.v0 d4_takeNode_188 (s4_takeOptions ⟨x0, x1⟩ hT (by omega) hp1 hS hI hd (fun h188 n188 hX188 hS188 g188 => kS ?_)) (hc := x0)
      obtain ⟨x0, x1⟩ := hX188
      have hS := hS188
      refine A.zret d4_takeNode_191 ?_
      obtain ⟨e1, e2, e3, e4⟩ := nd_k6 (T := T) (p := a) (by omega)
      exact rI (k _ _ _ (by rw [e2]; exact ⟨x0, x1⟩) hS (scI_os _ hI) (fun _ => by rw [e3, e4]; rfl) (((f25.two1 (by omega) (by omega)).trans (f33.two2 (by omega) (by omega))).trans g188)) (by rw [e1])
    · refine A.al2_0 d4_takeNode_192 ?_
      refine A.bipush d4_takeNode_193 ?_
      refine A.v1 d4_takeNode_195 (s4_addDigit (m := 9) ⟨x0, x1⟩ hT (by omega) (hp1) hS hI hd (by omega) (fun h195 n195 hX195 hS195 g195 => kS ?_)) (hc := x0)
      obtain ⟨x0, x1⟩ := hX195
      have hS := hS195
      refine A.zret d4_takeNode_198 ?_
      obtain ⟨e1, e2, e3, e4⟩ := nd_k7 (T := T) (p := a) (by omega)
      rcases Classical.em (dgOk T 9 (sk T (a + 1))) with z | z
      · rw [pif_t z] at hS
        exact rI (k _ _ _ (by rw [e2]; exact ⟨x0, x1⟩) hS (scI_num hI _) (fun _ => by rw [e3, e4]; rfl) (((f25.two1 (by omega) (by omega)).trans (f33.two2 (by omega) (by omega))).trans g195)) (by rw [e1])
      · rw [pif_f z] at hS
        exact rI (k _ _ _ (by rw [e2]; exact ⟨x0, x1⟩) hS hI (fun q => by rw [e1] at q; exact absurd q z) (((f25.two1 (by omega) (by omega)).trans (f33.two2 (by omega) (by omega))).trans g195)) (by rw [e1])
  · refine A.iconst d4_takeNode_16 ?_
    refine A.zret d4_takeNode_17 ?_
    obtain ⟨e1, e2⟩ := nd_no (T := T) (p := a) (by omega)
    exact rF (k _ _ _ (by rw [e2]; exact ⟨x0, x1⟩) hS hI (fun q => by rw [e1] at q; exact absurd q (fun z => z)) Fr2.rfl) (by rw [e1]; exact fun z => z)
