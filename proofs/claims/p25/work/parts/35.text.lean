/-! ===== Text: the fault ===== -/
theorem vc_lt {T : TX} {p : Int} (h : vcOk T p) : 0 ≤ p ∧ p < T.1 := tc_lt (by have := h.1; omega)
theorem osR_le {T : TX} : ∀ (k : Nat) (a : Int), 0 ≤ a → a ≤ T.1 → 0 ≤ (osR T k a).2.1 ∧ (osR T k a).2.1 ≤ T.1 := by
  intro k
  induction k with
  | zero => intro a h0 h1; have := sk_le (T := T) a; exact ⟨by show 0 ≤ sk T a; omega, sk_len h1⟩
  | succ k ih =>
    intro a h0 h1
    have g0 := sk_le (T := T) a
    have g1 := sk_len h1
    have g2 := opAt_le (T := T) (p := sk T a) g1
    have g3 := sk_le (T := T) (opAt T (sk T a))
    have g4 := sk_len g2.2
    rcases Classical.em (opOk T (sk T a)) with e | e
    · rcases Classical.em (tc T (sk T (opAt T (sk T a))) = 44) with e2 | e2
      · rw [show osR T (k + 1) a = _ from (pif_t e).trans (pif_t e2)]
        have := tc_lt (T := T) (p := sk T (opAt T (sk T a))) (by omega)
        exact ih _ (by omega) (by omega)
      · rw [show osR T (k + 1) a = _ from (pif_t e).trans (pif_f e2)]
        exact ⟨by show 0 ≤ sk T (opAt T (sk T a)); omega, g4⟩
    · rw [show osR T (k + 1) a = _ from pif_f e]
      exact ⟨by show 0 ≤ opAt T (sk T a); omega, g2.2⟩
theorem ndAt_le {T : TX} {p : Int} (h0 : 0 ≤ p) (h1 : p ≤ T.1) : 0 ≤ ndAt T p ∧ ndAt T p ≤ T.1 := by
  have hk := kIdx_rng (tc T p)
  by_cases hn : kIdx (tc T p) = -1
  · rw [(nd_no hn).2]; exact ⟨h0, h1⟩
  have hp := tc_lt (T := T) (p := p) (kIdx_lt hn)
  have a0 := sk_le (T := T) (p + 1)
  have a1 := sk_len (T := T) (p := p + 1) (by omega)
  have d2 : ∀ m q, 0 ≤ q → q ≤ T.1 → 0 ≤ dgAt T m q ∧ dgAt T m q ≤ T.1 := fun m q q0 q1 => by have := dgAt_le (T := T) (m := m) q1; omega
  have n2 : ∀ m q, 0 ≤ q → q ≤ T.1 → 0 ≤ nmAt T m q ∧ nmAt T m q ≤ T.1 := fun m q q0 q1 => by have := nmAt_le (T := T) (m := m) q1; omega
  have s2 : ∀ q, 0 ≤ q → q ≤ T.1 → 0 ≤ sk T q ∧ sk T q ≤ T.1 := fun q q0 q1 => ⟨by have := sk_le (T := T) q; omega, sk_len q1⟩
  have i2 : ∀ (P : Prop) (x y : Int), (P → 0 ≤ x ∧ x ≤ T.1) → (0 ≤ y ∧ y ≤ T.1) → 0 ≤ pif P x y ∧ pif P x y ≤ T.1 := fun P x y hx hy => by
    rcases Classical.em P with e | e
    · rw [pif_t e]; exact hx e
    · rw [pif_f e]; exact hy
  have b1 := s2 (p + 1) (by omega) (by omega)
  have v1 : vcOk T (sk T (p + 1)) → 0 ≤ sk T (sk T (p + 1) + 1) ∧ sk T (sk T (p + 1) + 1) ≤ T.1 := fun e => by have := vc_lt e; exact s2 _ (by omega) (by omega)
  rcases (by omega : kIdx (tc T p) = 0 ∨ kIdx (tc T p) = 1 ∨ kIdx (tc T p) = 2 ∨ kIdx (tc T p) = 3 ∨ kIdx (tc T p) = 4 ∨ kIdx (tc T p) = 5 ∨ kIdx (tc T p) = 6 ∨ kIdx (tc T p) = 7) with k | k | k | k | k | k | k | k
  · rw [(nd_k0 k).2.1]; exact i2 _ _ _ (fun e => n2 _ _ (v1 e).1 (v1 e).2) b1
  · rw [(nd_k1 k).2.1]; exact i2 _ _ _ (fun e => i2 _ _ _ (fun _ => d2 _ _ (s2 _ (d2 2 _ (v1 e).1 (v1 e).2).1 (d2 2 _ (v1 e).1 (v1 e).2).2).1 (s2 _ (d2 2 _ (v1 e).1 (v1 e).2).1 (d2 2 _ (v1 e).1 (v1 e).2).2).2) (d2 2 _ (v1 e).1 (v1 e).2)) b1
  · rw [(nd_k2 k).2.1]; exact i2 _ _ _ (fun e => by have := vc_lt e; omega) b1
  · rw [(nd_k3 k).2.1]
    have q1 := d2 5 _ b1.1 b1.2
    have q2 := s2 _ q1.1 q1.2
    exact i2 _ _ _ (fun _ => i2 _ _ _ (fun e => by have := tc_lt (T := T) (p := sk T (dgAt T 5 (sk T (p + 1)))) (by unfold pmOk at e; omega); omega) q2) q1
  · rw [(nd_k4 k).2.1]; exact n2 _ _ b1.1 b1.2
  · rw [(nd_k5 k).2.1]
    have q1 := d2 5 _ b1.1 b1.2
    have q2 := s2 _ q1.1 q1.2
    exact i2 _ _ _ (fun _ => n2 _ _ q2.1 q2.2) q1
  · rw [(nd_k6 k).2.1]; exact osR_le 4 _ (by omega) (by omega)
  · rw [(nd_k7 k).2.1]; exact d2 _ _ b1.1 b1.2
abbrev ND : Type := Int × List Int × List (Int × Int × Int)
/-- nodes, up to so many: the fault (-11: none), the nodes -/
noncomputable def ffR (T : TX) : Nat → Int → Int × List ND
  | 0, a => (pif (tc T (sk T a) = -1) (-11) (sk T a), [])
  | k + 1, a => pif (tc T (sk T a) = -1) (-11, []) (pif (ndOk T (sk T a)) (pif (tc T (sk T (ndAt T (sk T a))) = 59) ((ffR T k (sk T (ndAt T (sk T a)) + 1)).1, (kIdx (tc T (sk T a)), ndN T (sk T a), ndO T (sk T a)) :: (ffR T k (sk T (ndAt T (sk T a)) + 1)).2) (sk T (ndAt T (sk T a)), [])) (ndAt T (sk T a), []))
def addAll (S : SC) (l : List ND) : SC := l.foldl (fun S nd => addNd S nd.1 nd.2.1 nd.2.2) S
theorem scI_0 (S : SC) : scI (0, S.2) := ⟨Int.le_refl _, (by decide : (0 : Int) ≤ 29), fun v h0 h1 => by have h1 : v < 0 := h1; omega⟩
set_option maxRecDepth 100000 in
set_option maxHeartbeats 4000000 in
theorem s4_findFault {d : Nat} {h : AH} {R : RP} {t s : Nat} {T : TX} {a n : Int} (hX : txAt h t T s a n) (hT : txI T) {S : SC} (hS : scAt h s S) (hI : scI S) (hd : s + 6 ≤ t ∨ t + 2 ≤ s) (k : ∀ h' a' n' S', txAt h' t T s a' n' → scAt h' s S' → scI S' → ((ffR T 29 0).1 = -11 → S' = addAll (0, S.2) (ffR T 29 0).2) → Fr2 h h' t 1 s 6 → R (some (vI (ffR T 29 0).1)) h') : AM m4_findFault (d + 6) h [vR t] R := by
  refine AM.of (L := [some (vR t), none]) ok_4_findFault (by decide) (fun G => Nat.le_of_ble_eq_true rfl) rfl ?_
  obtain ⟨x0, x1⟩ := hX
  have loop : ∀ (nf : Nat) (i : Nat) (b m : Int) (S' : SC) (h1 : AH) (hi : i ≤ 29) (hb0 : 0 ≤ b) (hb1 : b ≤ T.1) (x0 : h1.2 t = some (kO 4 [vI T.1, vR (t + 1), vR s, vI b, vI m])) (x1 : h1.2 (t + 1) = some (kA 1 100 T.2)) (hS : scAt h1 s S') (hI : scI S') (hF : Fr2 h h1 t 1 s 6) (q1 : (ffR T 29 0).1 = (ffR T (29 - i) b).1) (q3 : addAll (0, S.2) (ffR T 29 0).2 = addAll S' (ffR T (29 - i) b).2) (hn : 29 - i < nf), AW m4_findFault (d + 6) (mC m4_findFault, mS m4_findFault) 14 [some (vR t), some (vI i)] [] h1 R := by
    intro nf
    induction nf with
    | zero => intro i  b m  S'  h1  hi hb0 hb1 x0 x1 hS hI hF q1 q3 hn; omega
    | succ nf ih =>
      intro i  b m  S'  h1  hi hb0 hb1 x0 x1 hS hI hF q1 q3 hn
      have hT2 := hT.2.1
      refine A.il2_1 d4_findFault_14 ?_
      refine A.bipush d4_findFault_15 ?_
      refine A.ic_ge d4_findFault_17 (fun c17 => ?_) (fun c17 => ?_)
      · refine A.al2_0 d4_findFault_61 ?_
        refine A.v0 d4_findFault_62 (s4_skipBlanks ⟨x0, x1⟩ hT hb0 hb1 (fun h62 hX62 f62 => kN ?_)) (hc := x0)
        obtain ⟨x0, x1⟩ := hX62
        have hS := hS.fr f62 (by omega)
        have hs0 := sk_le (T := T) b
        refine A.al2_0 d4_findFault_65 ?_
        refine A.v0 d4_findFault_66 (s4_isAtEnd ⟨x0, x1⟩ hT (by omega) (kS ?_)) (hc := x0)
        refine A.bz_eq d4_findFault_69 (fun c69 => ?_) (fun c69 => ?_)
        · refine A.al2_0 d4_findFault_77 ?_
          refine A.getf d4_findFault_78 ?_ (hc := x0)
          refine A.iret d4_findFault_81 ?_
          have e : i = 29 := by omega
          subst e
          first | exact rI (k _ _ _ _ ⟨x0, x1⟩ hS hI (fun _ => q3.symm) (hF.trans (f62.two1 (by omega) (by omega)))) (q1.trans (pif_t c69)).symm | exact rI (k _ _ _ _ ⟨x0, x1⟩ hS hI (fun _ => q3.symm) (hF.trans (f62.two1 (by omega) (by omega)))) (q1.trans (pif_f c69)).symm
        · refine A.bipush d4_findFault_72 ?_
          refine A.goto d4_findFault_74 ?_
          refine A.iret d4_findFault_81 ?_
          have e : i = 29 := by omega
          subst e
          first | exact rI (k _ _ _ _ ⟨x0, x1⟩ hS hI (fun _ => q3.symm) (hF.trans (f62.two1 (by omega) (by omega)))) (q1.trans (pif_t c69)).symm | exact rI (k _ _ _ _ ⟨x0, x1⟩ hS hI (fun _ => q3.symm) (hF.trans (f62.two1 (by omega) (by omega)))) (q1.trans (pif_f c69)).symm
      · refine A.al2_0 d4_findFault_20 ?_
        refine A.v0 d4_findFault_21 (s4_skipBlanks ⟨x0, x1⟩ hT hb0 hb1 (fun h21 hX21 f21 => kN ?_)) (hc := x0)
        obtain ⟨x0, x1⟩ := hX21
        have hS := hS.fr f21 (by omega)
        obtain ⟨j, hj⟩ : ∃ j, 29 - i = j + 1 := ⟨29 - i - 1, by omega⟩
        rw [hj] at q1 q3
        have hs0 := sk_le (T := T) b
        have hs1 := sk_len hb1
        refine A.al2_0 d4_findFault_24 ?_
        refine A.v0 d4_findFault_25 (s4_isAtEnd ⟨x0, x1⟩ hT (by omega) (kS ?_)) (hc := x0)
        refine A.bz_eq d4_findFault_28 (fun c28 => ?_) (fun c28 => ?_)
        · refine A.al2_0 d4_findFault_34 ?_
          refine A.v0 d4_findFault_35 (s4_takeNode ⟨x0, x1⟩ hT (by omega) hs1 hS hI hd (fun h35 n35 S35 hX35 hS35 hI35 hE35 g35 => kS ?_)) (hc := x0)
          obtain ⟨x0, x1⟩ := hX35
          have hS := hS35
          have hI := hI35
          have ha1 := ndAt_le (T := T) (p := sk T b) (by omega) hs1
          have ha2 := sk_le (T := T) (ndAt T (sk T b))
          have ha3 := sk_len ha1.2
          refine A.bz_eq d4_findFault_38 (fun c38 => ?_) (fun c38 => ?_)
          · try rw [pif_f c47] at x0
            refine A.al2_0 d4_findFault_50 ?_
            refine A.getf d4_findFault_51 ?_ (hc := x0)
            refine A.iret d4_findFault_54 ?_
            first
              | (rw [show ffR T (j + 1) b = _ from (pif_f c28).trans (pif_f c38)] at q1 q3
                 exact rI (k _ _ _ _ ⟨x0, x1⟩ hS hI (fun e => by rw [q1] at e; have e : ndAt T (sk T b) = -11 := e; omega) ((hF.trans (f21.two1 (by omega) (by omega))).trans g35)) q1.symm)
              | (rw [show ffR T (j + 1) b = _ from (pif_f c28).trans ((pif_t c38).trans (pif_f c47))] at q1 q3
                 exact rI (k _ _ _ _ ⟨x0, x1⟩ hS hI (fun e => by rw [q1] at e; have e : sk T (ndAt T (sk T b)) = -11 := e; omega) (((hF.trans (f21.two1 (by omega) (by omega))).trans g35).trans (f44.two1 (by omega) (by omega)))) q1.symm)
          · refine A.al2_0 d4_findFault_41 ?_
            refine A.bipush d4_findFault_42 ?_
            refine A.v1 d4_findFault_44 (s4_takeSign (c := 59) ⟨x0, x1⟩ hT (ha1.1) (ha1.2) (by omega) (fun h44 hX44 f44 => kS ?_)) (hc := x0)
            obtain ⟨x0, x1⟩ := hX44
            have hS := hS.fr f44 (by omega)
            refine A.bz_ne d4_findFault_47 (fun c47 => ?_) (fun c47 => ?_)
            · refine A.ii2_1 d4_findFault_55 ?_
              refine A.goto d4_findFault_58 ?_
              rw [show ffR T (j + 1) b = _ from (pif_f c28).trans ((pif_t c38).trans (pif_t c47))] at q1 q3
              rw [pif_t c47] at x0
              have hlt := tc_lt (T := T) (p := sk T (ndAt T (sk T b))) (by omega)
              exact ih (i + 1) _ _ _ _ (by omega) (by omega) (by omega) x0 x1 hS hI (((hF.trans (f21.two1 (by omega) (by omega))).trans g35).trans (f44.two1 (by omega) (by omega))) (by rw [q1, show 29 - (i + 1) = j by omega]) (by rw [q3, show 29 - (i + 1) = j by omega, hE35 c38]; rfl) (by omega)
            · try rw [pif_f c47] at x0
              refine A.al2_0 d4_findFault_50 ?_
              refine A.getf d4_findFault_51 ?_ (hc := x0)
              refine A.iret d4_findFault_54 ?_
              first
                | (rw [show ffR T (j + 1) b = _ from (pif_f c28).trans (pif_f c38)] at q1 q3
                   exact rI (k _ _ _ _ ⟨x0, x1⟩ hS hI (fun e => by rw [q1] at e; have e : ndAt T (sk T b) = -11 := e; omega) ((hF.trans (f21.two1 (by omega) (by omega))).trans g35)) q1.symm)
                | (rw [show ffR T (j + 1) b = _ from (pif_f c28).trans ((pif_t c38).trans (pif_f c47))] at q1 q3
                   exact rI (k _ _ _ _ ⟨x0, x1⟩ hS hI (fun e => by rw [q1] at e; have e : sk T (ndAt T (sk T b)) = -11 := e; omega) (((hF.trans (f21.two1 (by omega) (by omega))).trans g35).trans (f44.two1 (by omega) (by omega)))) q1.symm)
        · refine A.bipush d4_findFault_31 ?_
          refine A.iret d4_findFault_33 ?_
          rw [show ffR T (j + 1) b = _ from pif_t c28] at q1 q3
          exact rI (k _ _ _ _ ⟨x0, x1⟩ hS hI (fun _ => q3.symm) (hF.trans (f21.two1 (by omega) (by omega)))) q1.symm
  refine A.al2_0 d4_findFault_0 ?_
  refine A.iconst d4_findFault_1 ?_
  refine A.putf d4_findFault_2 (fun h2 e2 f2 => ?_) (hc := x0) (hk := blt_ok rfl)
  first | (have x0 := (f2.2 _ (by omega)).trans x0) | (have x0 := e2)
  first | (have x1 := (f2.2 _ (by omega)).trans x1) | (have x1 := e2)
  have hS := hS.fr f2 (by omega)
  refine A.al2_0 d4_findFault_5 ?_
  refine A.getf d4_findFault_6 ?_ (hc := x0)
  refine A.v0 d4_findFault_9 (s3_clear hS hI (fun h9 hS9 f9 => kN ?_)) (hc := hS.1)
  have x0 := f9.get x0 (by omega)
  have x1 := f9.get x1 (by omega)
  refine A.iconst d4_findFault_12 ?_
  refine A.is2_1 d4_findFault_13 ?_
  exact loop 30 0 0 n (0, S.2) h9 (by omega) (by omega) hT.1 x0 x1 hS9 (scI_0 S) ((f2.two1 (by omega) (by omega)).trans (f9.two2 (by omega) (by omega))) rfl rfl (by omega)
